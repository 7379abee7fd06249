section
-- PART A of the skeleton, and names out of claim/NAMES.whole.lean.txt (by wip/whole/gen/names.py)
/-- a private method of a class that the tables say can be made, by its rows of tables_1 -/
def lw_okq (q : MethodName × Nat) : Prop := (q.1.cls ≠ "java/lang/invoke/MethodHandle" ∧ q.1.cls ≠ "java/lang/invoke/VarHandle") ∧ Cond.instantiable q.1.cls q.2 ∈ tables_1 ∧ Cond.privateMethod q.1 ∈ tables_1 ∧ Cond.instanceMethod q.1 ∈ tables_1
theorem lw_p0 : lw_okq (⟨"ShareTables", "isPoint", "(I)Z"⟩, 6) := ⟨⟨by decide +kernel, by decide +kernel⟩, List.mem_of_getElem? (i := 9) (by decide +kernel), List.mem_of_getElem? (i := 181) (by decide +kernel), List.mem_of_getElem? (i := 182) (by decide +kernel)⟩
theorem lw_p1 : lw_okq (⟨"ShareTables", "isEven", "()Z"⟩, 6) := ⟨⟨by decide +kernel, by decide +kernel⟩, List.mem_of_getElem? (i := 9) (by decide +kernel), List.mem_of_getElem? (i := 200) (by decide +kernel), List.mem_of_getElem? (i := 201) (by decide +kernel)⟩
theorem lw_p2 : lw_okq (⟨"ShareTables", "isColour", "(I)Z"⟩, 6) := ⟨⟨by decide +kernel, by decide +kernel⟩, List.mem_of_getElem? (i := 9) (by decide +kernel), List.mem_of_getElem? (i := 212) (by decide +kernel), List.mem_of_getElem? (i := 213) (by decide +kernel)⟩
theorem lw_p3 : lw_okq (⟨"ShareTables", "isSet", "(I)Z"⟩, 6) := ⟨⟨by decide +kernel, by decide +kernel⟩, List.mem_of_getElem? (i := 9) (by decide +kernel), List.mem_of_getElem? (i := 242) (by decide +kernel), List.mem_of_getElem? (i := 243) (by decide +kernel)⟩
theorem lw_p4 : lw_okq (⟨"ShareTables", "worthByDegrees", "(I)I"⟩, 6) := ⟨⟨by decide +kernel, by decide +kernel⟩, List.mem_of_getElem? (i := 9) (by decide +kernel), List.mem_of_getElem? (i := 283) (by decide +kernel), List.mem_of_getElem? (i := 284) (by decide +kernel)⟩
theorem lw_p5 : lw_okq (⟨"ShareTables", "worthByHulls", "(I)I"⟩, 6) := ⟨⟨by decide +kernel, by decide +kernel⟩, List.mem_of_getElem? (i := 9) (by decide +kernel), List.mem_of_getElem? (i := 287) (by decide +kernel), List.mem_of_getElem? (i := 288) (by decide +kernel)⟩
theorem lw_p6 : lw_okq (⟨"ShareTables", "worthByTriples", "(I)I"⟩, 6) := ⟨⟨by decide +kernel, by decide +kernel⟩, List.mem_of_getElem? (i := 9) (by decide +kernel), List.mem_of_getElem? (i := 292) (by decide +kernel), List.mem_of_getElem? (i := 293) (by decide +kernel)⟩
theorem lw_p7 : lw_okq (⟨"ShareTables", "mapsEveryColour", "(I)Z"⟩, 6) := ⟨⟨by decide +kernel, by decide +kernel⟩, List.mem_of_getElem? (i := 9) (by decide +kernel), List.mem_of_getElem? (i := 301) (by decide +kernel), List.mem_of_getElem? (i := 302) (by decide +kernel)⟩
theorem lw_p8 : lw_okq (⟨"ShareTables", "takeSpare", "()V"⟩, 6) := ⟨⟨by decide +kernel, by decide +kernel⟩, List.mem_of_getElem? (i := 9) (by decide +kernel), List.mem_of_getElem? (i := 313) (by decide +kernel), List.mem_of_getElem? (i := 314) (by decide +kernel)⟩
theorem lw_p9 : lw_okq (⟨"ShareTables", "weightBelowRank", "()I"⟩, 6) := ⟨⟨by decide +kernel, by decide +kernel⟩, List.mem_of_getElem? (i := 9) (by decide +kernel), List.mem_of_getElem? (i := 357) (by decide +kernel), List.mem_of_getElem? (i := 358) (by decide +kernel)⟩
theorem lw_p10 : lw_okq (⟨"ShareTablesModel", "isPoint", "(I)Z"⟩, 12) := ⟨⟨by decide +kernel, by decide +kernel⟩, List.mem_of_getElem? (i := 412) (by decide +kernel), List.mem_of_getElem? (i := 466) (by decide +kernel), List.mem_of_getElem? (i := 467) (by decide +kernel)⟩
theorem lw_p11 : lw_okq (⟨"ShareTablesModel", "hue", "(II)I"⟩, 12) := ⟨⟨by decide +kernel, by decide +kernel⟩, List.mem_of_getElem? (i := 412) (by decide +kernel), List.mem_of_getElem? (i := 470) (by decide +kernel), List.mem_of_getElem? (i := 471) (by decide +kernel)⟩
theorem lw_p12 : lw_okq (⟨"ShareTablesModel", "failsBy", "()I"⟩, 12) := ⟨⟨by decide +kernel, by decide +kernel⟩, List.mem_of_getElem? (i := 412) (by decide +kernel), List.mem_of_getElem? (i := 482) (by decide +kernel), List.mem_of_getElem? (i := 483) (by decide +kernel)⟩
theorem lw_p13 : lw_okq (⟨"ShareTablesModel", "firsts", "()Z"⟩, 12) := ⟨⟨by decide +kernel, by decide +kernel⟩, List.mem_of_getElem? (i := 412) (by decide +kernel), List.mem_of_getElem? (i := 486) (by decide +kernel), List.mem_of_getElem? (i := 487) (by decide +kernel)⟩
theorem lw_p14 : lw_okq (⟨"ShareTablesModel", "rank", "()I"⟩, 12) := ⟨⟨by decide +kernel, by decide +kernel⟩, List.mem_of_getElem? (i := 412) (by decide +kernel), List.mem_of_getElem? (i := 490) (by decide +kernel), List.mem_of_getElem? (i := 491) (by decide +kernel)⟩
theorem lw_p15 : lw_okq (⟨"ShareTablesModel", "between", "(IIII)I"⟩, 12) := ⟨⟨by decide +kernel, by decide +kernel⟩, List.mem_of_getElem? (i := 412) (by decide +kernel), List.mem_of_getElem? (i := 494) (by decide +kernel), List.mem_of_getElem? (i := 495) (by decide +kernel)⟩
def lw_privs_1 : List (MethodName × Nat) := [(⟨"ShareTables", "isPoint", "(I)Z"⟩, 6), (⟨"ShareTables", "isEven", "()Z"⟩, 6), (⟨"ShareTables", "isColour", "(I)Z"⟩, 6), (⟨"ShareTables", "isSet", "(I)Z"⟩, 6), (⟨"ShareTables", "worthByDegrees", "(I)I"⟩, 6), (⟨"ShareTables", "worthByHulls", "(I)I"⟩, 6), (⟨"ShareTables", "worthByTriples", "(I)I"⟩, 6), (⟨"ShareTables", "mapsEveryColour", "(I)Z"⟩, 6), (⟨"ShareTables", "takeSpare", "()V"⟩, 6), (⟨"ShareTables", "weightBelowRank", "()I"⟩, 6), (⟨"ShareTablesModel", "isPoint", "(I)Z"⟩, 12), (⟨"ShareTablesModel", "hue", "(II)I"⟩, 12), (⟨"ShareTablesModel", "failsBy", "()I"⟩, 12), (⟨"ShareTablesModel", "firsts", "()Z"⟩, 12), (⟨"ShareTablesModel", "rank", "()I"⟩, 12), (⟨"ShareTablesModel", "between", "(IIII)I"⟩, 12)]
theorem lw_r1 : ∀ q ∈ lw_privs_1, lw_okq q := List.forall_mem_cons.mpr ⟨lw_p0, List.forall_mem_cons.mpr ⟨lw_p1, List.forall_mem_cons.mpr ⟨lw_p2, List.forall_mem_cons.mpr ⟨lw_p3, List.forall_mem_cons.mpr ⟨lw_p4, List.forall_mem_cons.mpr ⟨lw_p5, List.forall_mem_cons.mpr ⟨lw_p6, List.forall_mem_cons.mpr ⟨lw_p7, List.forall_mem_cons.mpr ⟨lw_p8, List.forall_mem_cons.mpr ⟨lw_p9, List.forall_mem_cons.mpr ⟨lw_p10, List.forall_mem_cons.mpr ⟨lw_p11, List.forall_mem_cons.mpr ⟨lw_p12, List.forall_mem_cons.mpr ⟨lw_p13, List.forall_mem_cons.mpr ⟨lw_p14, List.forall_mem_cons.mpr ⟨lw_p15, fun _ h => absurd h List.not_mem_nil⟩⟩⟩⟩⟩⟩⟩⟩⟩⟩⟩⟩⟩⟩⟩⟩
theorem lw_p16 : lw_okq (⟨"ShareTablesModel", "isColour", "(I)Z"⟩, 12) := ⟨⟨by decide +kernel, by decide +kernel⟩, List.mem_of_getElem? (i := 412) (by decide +kernel), List.mem_of_getElem? (i := 506) (by decide +kernel), List.mem_of_getElem? (i := 507) (by decide +kernel)⟩
theorem lw_p17 : lw_okq (⟨"ShareTablesModel", "isEven", "()Z"⟩, 12) := ⟨⟨by decide +kernel, by decide +kernel⟩, List.mem_of_getElem? (i := 412) (by decide +kernel), List.mem_of_getElem? (i := 510) (by decide +kernel), List.mem_of_getElem? (i := 511) (by decide +kernel)⟩
theorem lw_p18 : lw_okq (⟨"ShareTablesModel", "numberOf", "(III)I"⟩, 12) := ⟨⟨by decide +kernel, by decide +kernel⟩, List.mem_of_getElem? (i := 412) (by decide +kernel), List.mem_of_getElem? (i := 514) (by decide +kernel), List.mem_of_getElem? (i := 515) (by decide +kernel)⟩
theorem lw_p19 : lw_okq (⟨"ShareTablesModel", "degree", "(I)I"⟩, 12) := ⟨⟨by decide +kernel, by decide +kernel⟩, List.mem_of_getElem? (i := 412) (by decide +kernel), List.mem_of_getElem? (i := 522) (by decide +kernel), List.mem_of_getElem? (i := 523) (by decide +kernel)⟩
theorem lw_p20 : lw_okq (⟨"ShareTablesModel", "isSet", "(I)Z"⟩, 12) := ⟨⟨by decide +kernel, by decide +kernel⟩, List.mem_of_getElem? (i := 412) (by decide +kernel), List.mem_of_getElem? (i := 534) (by decide +kernel), List.mem_of_getElem? (i := 535) (by decide +kernel)⟩
theorem lw_p21 : lw_okq (⟨"ShareTablesModel", "hull", "(I)I"⟩, 12) := ⟨⟨by decide +kernel, by decide +kernel⟩, List.mem_of_getElem? (i := 412) (by decide +kernel), List.mem_of_getElem? (i := 538) (by decide +kernel), List.mem_of_getElem? (i := 539) (by decide +kernel)⟩
theorem lw_p22 : lw_okq (⟨"ShareTablesModel", "grown", "(I)I"⟩, 12) := ⟨⟨by decide +kernel, by decide +kernel⟩, List.mem_of_getElem? (i := 412) (by decide +kernel), List.mem_of_getElem? (i := 542) (by decide +kernel), List.mem_of_getElem? (i := 543) (by decide +kernel)⟩
theorem lw_p23 : lw_okq (⟨"ShareTablesModel", "orderOf", "(I)I"⟩, 12) := ⟨⟨by decide +kernel, by decide +kernel⟩, List.mem_of_getElem? (i := 412) (by decide +kernel), List.mem_of_getElem? (i := 550) (by decide +kernel), List.mem_of_getElem? (i := 551) (by decide +kernel)⟩
theorem lw_p24 : lw_okq (⟨"ShareTablesModel", "weights", "()I"⟩, 12) := ⟨⟨by decide +kernel, by decide +kernel⟩, List.mem_of_getElem? (i := 412) (by decide +kernel), List.mem_of_getElem? (i := 577) (by decide +kernel), List.mem_of_getElem? (i := 578) (by decide +kernel)⟩
def lw_privs_2 : List (MethodName × Nat) := [(⟨"ShareTablesModel", "isColour", "(I)Z"⟩, 12), (⟨"ShareTablesModel", "isEven", "()Z"⟩, 12), (⟨"ShareTablesModel", "numberOf", "(III)I"⟩, 12), (⟨"ShareTablesModel", "degree", "(I)I"⟩, 12), (⟨"ShareTablesModel", "isSet", "(I)Z"⟩, 12), (⟨"ShareTablesModel", "hull", "(I)I"⟩, 12), (⟨"ShareTablesModel", "grown", "(I)I"⟩, 12), (⟨"ShareTablesModel", "orderOf", "(I)I"⟩, 12), (⟨"ShareTablesModel", "weights", "()I"⟩, 12)]
theorem lw_r2 : ∀ q ∈ lw_privs_2, lw_okq q := List.forall_mem_cons.mpr ⟨lw_p16, List.forall_mem_cons.mpr ⟨lw_p17, List.forall_mem_cons.mpr ⟨lw_p18, List.forall_mem_cons.mpr ⟨lw_p19, List.forall_mem_cons.mpr ⟨lw_p20, List.forall_mem_cons.mpr ⟨lw_p21, List.forall_mem_cons.mpr ⟨lw_p22, List.forall_mem_cons.mpr ⟨lw_p23, List.forall_mem_cons.mpr ⟨lw_p24, fun _ h => absurd h List.not_mem_nil⟩⟩⟩⟩⟩⟩⟩⟩⟩
def lw_privs : List (MethodName × Nat) := lw_privs_1 ++ (lw_privs_2)
def lw_tbl : List Cond := k2_sels lw_privs ++ tables_1
theorem lw_privs_ok : ∀ q ∈ lw_privs, lw_okq q := by
  show ∀ q ∈ lw_privs_1 ++ (lw_privs_2), lw_okq q
  exact List.forall_mem_append.mpr ⟨lw_r1, lw_r2⟩

def RX0 : String := "ShareTables$Colouring"
def TX0 : u_T := fun k => match k with
  | 0 => ("ShareTables$Colouring", "colours", "[I", true)
  | 1 => ("ShareTables$Colouring", "firsts", "[I", true)
  | 2 => ("ShareTables$Colouring", "numbers", "[I", true)
  | 3 => ("ShareTables$Colouring", "counts", "[I", true)
  | 4 => ("ShareTables$Colouring", "size", "I", false)
  | 5 => ("ShareTables$Colouring", "rank", "I", false)
  | _ => ("ShareTables$Colouring", "failure", "I", false)
def tyX0 : Nat → FieldType := fun k => match k with
  | 0 => .array .int
  | 1 => .array .int
  | 2 => .array .int
  | 3 => .array .int
  | 4 => .int
  | 5 => .int
  | _ => .int
theorem nmX0 : ∀ a, a < 7 → ∀ b, b < 7 → a ≠ b → (TX0 a).2.1 ≠ (TX0 b).2.1 := by decide +kernel
theorem tyX0_ok : ∀ k, k < 7 → parseFieldDescriptor (TX0 k).2.2.1 = some (tyX0 k) := by decide +kernel
abbrev cX0_init : ByteArray := prog_2_method_1_code
def yX0_init : MethodName := ⟨RX0, "<init>", "()V"⟩
abbrev cX0_colourOf : ByteArray := prog_2_method_2_code
def yX0_colourOf : MethodName := ⟨RX0, "colourOf", "(II)I"⟩
abbrev cX0_paint : ByteArray := prog_2_method_3_code
def yX0_paint : MethodName := ⟨RX0, "paint", "(III)V"⟩
abbrev cX0_begin : ByteArray := prog_2_method_4_code
def yX0_begin : MethodName := ⟨RX0, "begin", "(I)V"⟩
abbrev cX0_paintRing : ByteArray := prog_2_method_5_code
def yX0_paintRing : MethodName := ⟨RX0, "paintRing", "(I)V"⟩
abbrev cX0_paintFused : ByteArray := prog_2_method_6_code
def yX0_paintFused : MethodName := ⟨RX0, "paintFused", "(LShareTables$Colouring;I)V"⟩
abbrev cX0_fusedColour : ByteArray := prog_2_method_7_code
def yX0_fusedColour : MethodName := ⟨RX0, "fusedColour", "(II)I"⟩
abbrev cX0_measure : ByteArray := prog_2_method_8_code
def yX0_measure : MethodName := ⟨RX0, "measure", "()V"⟩
abbrev cX0_findFirsts : ByteArray := prog_2_method_9_code
def yX0_findFirsts : MethodName := ⟨RX0, "findFirsts", "()V"⟩
abbrev cX0_firstFailure : ByteArray := prog_2_method_10_code
def yX0_firstFailure : MethodName := ⟨RX0, "firstFailure", "()I"⟩
abbrev cX0_failureAt : ByteArray := prog_2_method_11_code
def yX0_failureAt : MethodName := ⟨RX0, "failureAt", "(III)I"⟩
abbrev cX0_misplacedZero : ByteArray := prog_2_method_12_code
def yX0_misplacedZero : MethodName := ⟨RX0, "misplacedZero", "()I"⟩
abbrev cX0_missingColour : ByteArray := prog_2_method_13_code
def yX0_missingColour : MethodName := ⟨RX0, "missingColour", "()I"⟩
abbrev cX0_wrongReversal : ByteArray := prog_2_method_14_code
def yX0_wrongReversal : MethodName := ⟨RX0, "wrongReversal", "()I"⟩
abbrev cX0_wrongCounts : ByteArray := prog_2_method_15_code
def yX0_wrongCounts : MethodName := ⟨RX0, "wrongCounts", "()I"⟩
abbrev cX0_countBetween : ByteArray := prog_2_method_16_code
def yX0_countBetween : MethodName := ⟨RX0, "countBetween", "(II)V"⟩
abbrev cX0_keepCounts : ByteArray := prog_2_method_17_code
def yX0_keepCounts : MethodName := ⟨RX0, "keepCounts", "(I)V"⟩
abbrev cX0_countsAreKept : ByteArray := prog_2_method_18_code
def yX0_countsAreKept : MethodName := ⟨RX0, "countsAreKept", "(I)Z"⟩
abbrev cX0_reverseOf : ByteArray := prog_2_method_19_code
def yX0_reverseOf : MethodName := ⟨RX0, "reverseOf", "(I)I"⟩
abbrev cX0_numberOf : ByteArray := prog_2_method_20_code
def yX0_numberOf : MethodName := ⟨RX0, "numberOf", "(III)I"⟩
abbrev cX0_degreeOf : ByteArray := prog_2_method_21_code
def yX0_degreeOf : MethodName := ⟨RX0, "degreeOf", "(I)I"⟩
abbrev cX0_multipliesEitherWay : ByteArray := prog_2_method_22_code
def yX0_multipliesEitherWay : MethodName := ⟨RX0, "multipliesEitherWay", "()Z"⟩
abbrev cX0_has : ByteArray := prog_2_method_23_code
def yX0_has : MethodName := ⟨RX0, "has", "(II)Z"⟩
abbrev cX0_isClosed : ByteArray := prog_2_method_24_code
def yX0_isClosed : MethodName := ⟨RX0, "isClosed", "(I)Z"⟩
abbrev cX0_productsOf : ByteArray := prog_2_method_25_code
def yX0_productsOf : MethodName := ⟨RX0, "productsOf", "(I)I"⟩
abbrev cX0_productsOfTwo : ByteArray := prog_2_method_26_code
def yX0_productsOfTwo : MethodName := ⟨RX0, "productsOfTwo", "(II)I"⟩
abbrev cX0_hullOf : ByteArray := prog_2_method_27_code
def yX0_hullOf : MethodName := ⟨RX0, "hullOf", "(I)I"⟩
abbrev cX0_closedSets : ByteArray := prog_2_method_28_code
def yX0_closedSets : MethodName := ⟨RX0, "closedSets", "()I"⟩
abbrev cX0_orderOf : ByteArray := prog_2_method_29_code
def yX0_orderOf : MethodName := ⟨RX0, "orderOf", "(I)I"⟩
def RX1 : String := "ShareTables$Division"
def TX1 : u_T := fun k => match k with
  | 0 => ("ShareTables$Division", "blocks", "[I", true)
  | 1 => ("ShareTables$Division", "leasts", "[I", true)
  | 2 => ("ShareTables$Division", "between", "[I", true)
  | _ => ("ShareTables$Division", "size", "I", false)
def tyX1 : Nat → FieldType := fun k => match k with
  | 0 => .array .int
  | 1 => .array .int
  | 2 => .array .int
  | _ => .int
theorem nmX1 : ∀ a, a < 4 → ∀ b, b < 4 → a ≠ b → (TX1 a).2.1 ≠ (TX1 b).2.1 := by decide +kernel
theorem tyX1_ok : ∀ k, k < 4 → parseFieldDescriptor (TX1 k).2.2.1 = some (tyX1 k) := by decide +kernel
abbrev cX1_init : ByteArray := prog_3_method_1_code
def yX1_init : MethodName := ⟨RX1, "<init>", "()V"⟩
abbrev cX1_divide : ByteArray := prog_3_method_2_code
def yX1_divide : MethodName := ⟨RX1, "divide", "(LShareTables$Colouring;ILShareTables$Colouring;)V"⟩
abbrev cX1_findBlocks : ByteArray := prog_3_method_3_code
def yX1_findBlocks : MethodName := ⟨RX1, "findBlocks", "(LShareTables$Colouring;I)V"⟩
abbrev cX1_joinColours : ByteArray := prog_3_method_4_code
def yX1_joinColours : MethodName := ⟨RX1, "joinColours", "(LShareTables$Colouring;)V"⟩
abbrev cX1_join : ByteArray := prog_3_method_5_code
def yX1_join : MethodName := ⟨RX1, "join", "(II)V"⟩
abbrev cX1_kindOf : ByteArray := prog_3_method_6_code
def yX1_kindOf : MethodName := ⟨RX1, "kindOf", "(I)I"⟩
def RX2 : String := "ShareTables$Sieve"
def TX2 : u_T := fun k => match k with
  | _ => ("", "", "", false)
def tyX2 : Nat → FieldType := fun k => match k with
  | _ => .int
theorem nmX2 : ∀ a, a < 0 → ∀ b, b < 0 → a ≠ b → (TX2 a).2.1 ≠ (TX2 b).2.1 := by decide +kernel
theorem tyX2_ok : ∀ k, k < 0 → parseFieldDescriptor (TX2 k).2.2.1 = some (tyX2 k) := by decide +kernel
abbrev cX2_firstFailure : ByteArray := prog_4_method_2_code
def yX2_firstFailure : MethodName := ⟨RX2, "firstFailure", "(IIII)I"⟩
abbrev cX2_breaksBound : ByteArray := prog_4_method_3_code
def yX2_breaksBound : MethodName := ⟨RX2, "breaksBound", "(III)Z"⟩
abbrev cX2_wholeRoot : ByteArray := prog_4_method_4_code
def yX2_wholeRoot : MethodName := ⟨RX2, "wholeRoot", "(I)I"⟩
def RX3 : String := "ShareTables$Walk"
def TX3 : u_T := fun k => match k with
  | 0 => ("ShareTables$Walk", "shares", "[J", true)
  | 1 => ("ShareTables$Walk", "ways", "[J", true)
  | 2 => ("ShareTables$Walk", "nextWays", "[J", true)
  | _ => ("ShareTables$Walk", "all", "J", false)
def tyX3 : Nat → FieldType := fun k => match k with
  | 0 => .array .long
  | 1 => .array .long
  | 2 => .array .long
  | _ => .long
theorem nmX3 : ∀ a, a < 4 → ∀ b, b < 4 → a ≠ b → (TX3 a).2.1 ≠ (TX3 b).2.1 := by decide +kernel
theorem tyX3_ok : ∀ k, k < 4 → parseFieldDescriptor (TX3 k).2.2.1 = some (tyX3 k) := by decide +kernel
abbrev cX3_init : ByteArray := prog_5_method_1_code
def yX3_init : MethodName := ⟨RX3, "<init>", "()V"⟩
abbrev cX3_go : ByteArray := prog_5_method_2_code
def yX3_go : MethodName := ⟨RX3, "go", "(LShareTables$Colouring;[II)V"⟩
abbrev cX3_share : ByteArray := prog_5_method_3_code
def yX3_share : MethodName := ⟨RX3, "share", "(LShareTables$Colouring;[I)J"⟩
abbrev cX3_step : ByteArray := prog_5_method_4_code
def yX3_step : MethodName := ⟨RX3, "step", "(LShareTables$Colouring;)V"⟩
abbrev cX3_waysTo : ByteArray := prog_5_method_5_code
def yX3_waysTo : MethodName := ⟨RX3, "waysTo", "(LShareTables$Colouring;I)J"⟩
abbrev cX3_commonMultiple : ByteArray := prog_5_method_6_code
def yX3_commonMultiple : MethodName := ⟨RX3, "commonMultiple", "(JJ)J"⟩
abbrev cX3_commonDivisor : ByteArray := prog_5_method_7_code
def yX3_commonDivisor : MethodName := ⟨RX3, "commonDivisor", "(JJ)J"⟩
def RX4 : String := "ShareTables"
def TX4 : u_T := fun k => match k with
  | 0 => ("ShareTables", "weights", "[I", true)
  | 1 => ("ShareTables", "walk", "LShareTables$Walk;", true)
  | 2 => ("ShareTables", "division", "LShareTables$Division;", true)
  | 3 => ("ShareTables", "now", "LShareTables$Colouring;", false)
  | 4 => ("ShareTables", "spare", "LShareTables$Colouring;", false)
  | _ => ("ShareTables", "traced", "J", false)
def tyX4 : Nat → FieldType := fun k => match k with
  | 0 => .array .int
  | 1 => .object "ShareTables$Walk"
  | 2 => .object "ShareTables$Division"
  | 3 => .object "ShareTables$Colouring"
  | 4 => .object "ShareTables$Colouring"
  | _ => .long
theorem nmX4 : ∀ a, a < 6 → ∀ b, b < 6 → a ≠ b → (TX4 a).2.1 ≠ (TX4 b).2.1 := by decide +kernel
theorem tyX4_ok : ∀ k, k < 6 → parseFieldDescriptor (TX4 k).2.2.1 = some (tyX4 k) := by decide +kernel
abbrev cX4_init : ByteArray := prog_1_method_1_code
def yX4_init : MethodName := ⟨RX4, "<init>", "()V"⟩
abbrev cX4_points : ByteArray := prog_1_method_2_code
def yX4_points : MethodName := ⟨RX4, "points", "(I)I"⟩
abbrev cX4_colour : ByteArray := prog_1_method_3_code
def yX4_colour : MethodName := ⟨RX4, "colour", "(III)I"⟩
abbrev cX4_at : ByteArray := prog_1_method_4_code
def yX4_at : MethodName := ⟨RX4, "at", "(II)I"⟩
abbrev cX4_ring : ByteArray := prog_1_method_5_code
def yX4_ring : MethodName := ⟨RX4, "ring", "(I)I"⟩
abbrev cX4_fails : ByteArray := prog_1_method_6_code
def yX4_fails : MethodName := ⟨RX4, "fails", "()I"⟩
abbrev cX4_number : ByteArray := prog_1_method_7_code
def yX4_number : MethodName := ⟨RX4, "number", "(III)I"⟩
abbrev cX4_of : ByteArray := prog_1_method_8_code
def yX4_of : MethodName := ⟨RX4, "of", "(II)I"⟩
abbrev cX4_turns : ByteArray := prog_1_method_9_code
def yX4_turns : MethodName := ⟨RX4, "turns", "()I"⟩
abbrev cX4_closed : ByteArray := prog_1_method_10_code
def yX4_closed : MethodName := ⟨RX4, "closed", "(II)I"⟩
abbrev cX4_order : ByteArray := prog_1_method_11_code
def yX4_order : MethodName := ⟨RX4, "order", "(I)I"⟩
abbrev cX4_worth : ByteArray := prog_1_method_12_code
def yX4_worth : MethodName := ⟨RX4, "worth", "(II)I"⟩
abbrev cX4_fuse : ByteArray := prog_1_method_13_code
def yX4_fuse : MethodName := ⟨RX4, "fuse", "(I)I"⟩
abbrev cX4_quotient : ByteArray := prog_1_method_14_code
def yX4_quotient : MethodName := ⟨RX4, "quotient", "(I)I"⟩
abbrev cX4_weight : ByteArray := prog_1_method_15_code
def yX4_weight : MethodName := ⟨RX4, "weight", "(II)I"⟩
abbrev cX4_chance : ByteArray := prog_1_method_16_code
def yX4_chance : MethodName := ⟨RX4, "chance", "(III)J"⟩
abbrev cX4_sieve : ByteArray := prog_1_method_17_code
def yX4_sieve : MethodName := ⟨RX4, "sieve", "(IIII)I"⟩
abbrev cX4_many : ByteArray := prog_1_method_18_code
def yX4_many : MethodName := ⟨RX4, "many", "(I)I"⟩
abbrev cX4_count : ByteArray := prog_1_method_19_code
def yX4_count : MethodName := ⟨RX4, "count", "(I)I"⟩
abbrev cX4_trace : ByteArray := prog_1_method_20_code
def yX4_trace : MethodName := ⟨RX4, "trace", "()J"⟩
abbrev cX4_isPoint : ByteArray := prog_1_method_21_code
def yX4_isPoint : MethodName := ⟨RX4, "isPoint", "(I)Z"⟩
abbrev cX4_isColour : ByteArray := prog_1_method_22_code
def yX4_isColour : MethodName := ⟨RX4, "isColour", "(I)Z"⟩
abbrev cX4_isSet : ByteArray := prog_1_method_23_code
def yX4_isSet : MethodName := ⟨RX4, "isSet", "(I)Z"⟩
abbrev cX4_isEven : ByteArray := prog_1_method_24_code
def yX4_isEven : MethodName := ⟨RX4, "isEven", "()Z"⟩
abbrev cX4_mapsEveryColour : ByteArray := prog_1_method_25_code
def yX4_mapsEveryColour : MethodName := ⟨RX4, "mapsEveryColour", "(I)Z"⟩
abbrev cX4_weightBelowRank : ByteArray := prog_1_method_26_code
def yX4_weightBelowRank : MethodName := ⟨RX4, "weightBelowRank", "()I"⟩
abbrev cX4_takeSpare : ByteArray := prog_1_method_27_code
def yX4_takeSpare : MethodName := ⟨RX4, "takeSpare", "()V"⟩
abbrev cX4_worthByDegrees : ByteArray := prog_1_method_28_code
def yX4_worthByDegrees : MethodName := ⟨RX4, "worthByDegrees", "(I)I"⟩
abbrev cX4_worthByHulls : ByteArray := prog_1_method_29_code
def yX4_worthByHulls : MethodName := ⟨RX4, "worthByHulls", "(I)I"⟩
abbrev cX4_worthByTriples : ByteArray := prog_1_method_30_code
def yX4_worthByTriples : MethodName := ⟨RX4, "worthByTriples", "(I)I"⟩
def RX5 : String := "ShareTablesModel"
def TX5 : u_T := fun k => match k with
  | 0 => ("ShareTablesModel", "thrown", "I", false)
  | 1 => ("ShareTablesModel", "trace", "J", false)
  | 2 => ("ShareTablesModel", "n", "I", false)
  | 3 => ("ShareTablesModel", "colour", "[I", true)
  | 4 => ("ShareTablesModel", "kept", "[I", true)
  | 5 => ("ShareTablesModel", "weight", "[I", true)
  | 6 => ("ShareTablesModel", "firstA", "[I", true)
  | 7 => ("ShareTablesModel", "firstB", "[I", true)
  | 8 => ("ShareTablesModel", "block", "[I", true)
  | 9 => ("ShareTablesModel", "kind", "[I", true)
  | 10 => ("ShareTablesModel", "at", "[J", true)
  | _ => ("ShareTablesModel", "next", "[J", true)
def tyX5 : Nat → FieldType := fun k => match k with
  | 0 => .int
  | 1 => .long
  | 2 => .int
  | 3 => .array .int
  | 4 => .array .int
  | 5 => .array .int
  | 6 => .array .int
  | 7 => .array .int
  | 8 => .array .int
  | 9 => .array .int
  | 10 => .array .long
  | _ => .array .long
theorem nmX5 : ∀ a, a < 12 → ∀ b, b < 12 → a ≠ b → (TX5 a).2.1 ≠ (TX5 b).2.1 := by decide +kernel
theorem tyX5_ok : ∀ k, k < 12 → parseFieldDescriptor (TX5 k).2.2.1 = some (tyX5 k) := by decide +kernel
abbrev cX5_init : ByteArray := prog_7_method_1_code
def yX5_init : MethodName := ⟨RX5, "<init>", "()V"⟩
abbrev cX5_in : ByteArray := prog_7_method_3_code
def yX5_in : MethodName := ⟨RX5, "in", "(III)Z"⟩
abbrev cX5_isPoint : ByteArray := prog_7_method_4_code
def yX5_isPoint : MethodName := ⟨RX5, "isPoint", "(I)Z"⟩
abbrev cX5_hue : ByteArray := prog_7_method_5_code
def yX5_hue : MethodName := ⟨RX5, "hue", "(II)I"⟩
abbrev cX5_points : ByteArray := prog_7_method_6_code
def yX5_points : MethodName := ⟨RX5, "points", "(I)I"⟩
abbrev cX5_colour : ByteArray := prog_7_method_7_code
def yX5_colour : MethodName := ⟨RX5, "colour", "(III)I"⟩
abbrev cX5_at : ByteArray := prog_7_method_8_code
def yX5_at : MethodName := ⟨RX5, "at", "(II)I"⟩
abbrev cX5_ring : ByteArray := prog_7_method_9_code
def yX5_ring : MethodName := ⟨RX5, "ring", "(I)I"⟩
abbrev cX5_rank : ByteArray := prog_7_method_10_code
def yX5_rank : MethodName := ⟨RX5, "rank", "()I"⟩
abbrev cX5_between : ByteArray := prog_7_method_11_code
def yX5_between : MethodName := ⟨RX5, "between", "(IIII)I"⟩
abbrev cX5_firsts : ByteArray := prog_7_method_12_code
def yX5_firsts : MethodName := ⟨RX5, "firsts", "()Z"⟩
abbrev cX5_failsBy : ByteArray := prog_7_method_13_code
def yX5_failsBy : MethodName := ⟨RX5, "failsBy", "()I"⟩
abbrev cX5_fails : ByteArray := prog_7_method_14_code
def yX5_fails : MethodName := ⟨RX5, "fails", "()I"⟩
abbrev cX5_isColour : ByteArray := prog_7_method_15_code
def yX5_isColour : MethodName := ⟨RX5, "isColour", "(I)Z"⟩
abbrev cX5_isEven : ByteArray := prog_7_method_16_code
def yX5_isEven : MethodName := ⟨RX5, "isEven", "()Z"⟩
abbrev cX5_numberOf : ByteArray := prog_7_method_17_code
def yX5_numberOf : MethodName := ⟨RX5, "numberOf", "(III)I"⟩
abbrev cX5_number : ByteArray := prog_7_method_18_code
def yX5_number : MethodName := ⟨RX5, "number", "(III)I"⟩
abbrev cX5_degree : ByteArray := prog_7_method_19_code
def yX5_degree : MethodName := ⟨RX5, "degree", "(I)I"⟩
abbrev cX5_of : ByteArray := prog_7_method_20_code
def yX5_of : MethodName := ⟨RX5, "of", "(II)I"⟩
abbrev cX5_turns : ByteArray := prog_7_method_21_code
def yX5_turns : MethodName := ⟨RX5, "turns", "()I"⟩
abbrev cX5_grown : ByteArray := prog_7_method_22_code
def yX5_grown : MethodName := ⟨RX5, "grown", "(I)I"⟩
abbrev cX5_hull : ByteArray := prog_7_method_23_code
def yX5_hull : MethodName := ⟨RX5, "hull", "(I)I"⟩
abbrev cX5_isSet : ByteArray := prog_7_method_24_code
def yX5_isSet : MethodName := ⟨RX5, "isSet", "(I)Z"⟩
abbrev cX5_closed : ByteArray := prog_7_method_25_code
def yX5_closed : MethodName := ⟨RX5, "closed", "(II)I"⟩
abbrev cX5_orderOf : ByteArray := prog_7_method_26_code
def yX5_orderOf : MethodName := ⟨RX5, "orderOf", "(I)I"⟩
abbrev cX5_order : ByteArray := prog_7_method_27_code
def yX5_order : MethodName := ⟨RX5, "order", "(I)I"⟩
abbrev cX5_worth : ByteArray := prog_7_method_28_code
def yX5_worth : MethodName := ⟨RX5, "worth", "(II)I"⟩
abbrev cX5_fuse : ByteArray := prog_7_method_29_code
def yX5_fuse : MethodName := ⟨RX5, "fuse", "(I)I"⟩
abbrev cX5_quotient : ByteArray := prog_7_method_30_code
def yX5_quotient : MethodName := ⟨RX5, "quotient", "(I)I"⟩
abbrev cX5_weight : ByteArray := prog_7_method_31_code
def yX5_weight : MethodName := ⟨RX5, "weight", "(II)I"⟩
abbrev cX5_weights : ByteArray := prog_7_method_32_code
def yX5_weights : MethodName := ⟨RX5, "weights", "()I"⟩
abbrev cX5_common : ByteArray := prog_7_method_33_code
def yX5_common : MethodName := ⟨RX5, "common", "(JJ)J"⟩
abbrev cX5_chance : ByteArray := prog_7_method_34_code
def yX5_chance : MethodName := ⟨RX5, "chance", "(III)J"⟩
abbrev cX5_root : ByteArray := prog_7_method_35_code
def yX5_root : MethodName := ⟨RX5, "root", "(I)I"⟩
abbrev cX5_sieved : ByteArray := prog_7_method_36_code
def yX5_sieved : MethodName := ⟨RX5, "sieved", "(IIII)I"⟩
abbrev cX5_sieve : ByteArray := prog_7_method_37_code
def yX5_sieve : MethodName := ⟨RX5, "sieve", "(IIII)I"⟩
abbrev cX5_many : ByteArray := prog_7_method_38_code
def yX5_many : MethodName := ⟨RX5, "many", "(I)I"⟩
abbrev cX5_count : ByteArray := prog_7_method_39_code
def yX5_count : MethodName := ⟨RX5, "count", "(I)I"⟩
abbrev cX5_trace : ByteArray := prog_7_method_40_code
def yX5_trace : MethodName := ⟨RX5, "trace", "()J"⟩
def RL : String := "ShareTablesLaw"
abbrev cL_law : ByteArray := code
def yL_law : MethodName := ⟨RL, "law", "([I)Z"⟩
abbrev vwCl : List vw_C := [(RX0, TX0, 7), (RX1, TX1, 4), (RX3, TX3, 4), (RX4, TX4, 6), (RX5, TX5, 12)]
end
section
-- decode rows (by program)
theorem dL_law_0 : decode cL_law 0 = .ok (.new 7, 3) := by decide +kernel
theorem dL_law_3 : decode cL_law 3 = .ok (.dup, 1) := by decide +kernel
theorem dL_law_4 : decode cL_law 4 = .ok (.invokespecial 9, 3) := by decide +kernel
theorem dL_law_7 : decode cL_law 7 = .ok (.astore_n 1, 1) := by decide +kernel
theorem dL_law_8 : decode cL_law 8 = .ok (.new 10, 3) := by decide +kernel
theorem dL_law_11 : decode cL_law 11 = .ok (.dup, 1) := by decide +kernel
theorem dL_law_12 : decode cL_law 12 = .ok (.invokespecial 12, 3) := by decide +kernel
theorem dL_law_15 : decode cL_law 15 = .ok (.astore_n 2, 1) := by decide +kernel
theorem dL_law_16 : decode cL_law 16 = .ok (.iconst 0, 1) := by decide +kernel
theorem dL_law_17 : decode cL_law 17 = .ok (.istore_n 3, 1) := by decide +kernel
theorem dL_law_18 : decode cL_law 18 = .ok (.iload_n 3, 1) := by decide +kernel
theorem dL_law_19 : decode cL_law 19 = .ok (.aload_n 0, 1) := by decide +kernel
theorem dL_law_20 : decode cL_law 20 = .ok (.arraylength, 1) := by decide +kernel
theorem dL_law_21 : decode cL_law 21 = .ok (.iconst 5, 1) := by decide +kernel
theorem dL_law_22 : decode cL_law 22 = .ok (.isub, 1) := by decide +kernel
theorem dL_law_23 : decode cL_law 23 = .ok (.if_icmp .gt 656, 3) := by decide +kernel
theorem dL_law_26 : decode cL_law 26 = .ok (.aload_n 0, 1) := by decide +kernel
theorem dL_law_27 : decode cL_law 27 = .ok (.iload_n 3, 1) := by decide +kernel
theorem dL_law_28 : decode cL_law 28 = .ok (.iaload, 1) := by decide +kernel
theorem dL_law_29 : decode cL_law 29 = .ok (.bipush 31, 2) := by decide +kernel
theorem dL_law_31 : decode cL_law 31 = .ok (.iand, 1) := by decide +kernel
theorem dL_law_32 : decode cL_law 32 = .ok (.tableswitch 641 0 18 #[92, 115, 158, 191, 214, 227, 270, 303, 316, 349, 372, 405, 428, 451, 484, 528, 581, 604, 627], 92) := by decide +kernel
theorem dL_law_124 : decode cL_law 124 = .ok (.aload_n 1, 1) := by decide +kernel
theorem dL_law_125 : decode cL_law 125 = .ok (.aload_n 0, 1) := by decide +kernel
theorem dL_law_126 : decode cL_law 126 = .ok (.iload_n 3, 1) := by decide +kernel
theorem dL_law_127 : decode cL_law 127 = .ok (.iconst 1, 1) := by decide +kernel
theorem dL_law_128 : decode cL_law 128 = .ok (.iadd, 1) := by decide +kernel
theorem dL_law_129 : decode cL_law 129 = .ok (.iaload, 1) := by decide +kernel
theorem dL_law_130 : decode cL_law 130 = .ok (.invokevirtual 13, 3) := by decide +kernel
theorem dL_law_133 : decode cL_law 133 = .ok (.aload_n 2, 1) := by decide +kernel
theorem dL_law_134 : decode cL_law 134 = .ok (.aload_n 0, 1) := by decide +kernel
theorem dL_law_135 : decode cL_law 135 = .ok (.iload_n 3, 1) := by decide +kernel
theorem dL_law_136 : decode cL_law 136 = .ok (.iconst 1, 1) := by decide +kernel
theorem dL_law_137 : decode cL_law 137 = .ok (.iadd, 1) := by decide +kernel
theorem dL_law_138 : decode cL_law 138 = .ok (.iaload, 1) := by decide +kernel
theorem dL_law_139 : decode cL_law 139 = .ok (.invokevirtual 17, 3) := by decide +kernel
theorem dL_law_142 : decode cL_law 142 = .ok (.if_icmp .eq 531, 3) := by decide +kernel
theorem dL_law_145 : decode cL_law 145 = .ok (.iconst 0, 1) := by decide +kernel
theorem dL_law_146 : decode cL_law 146 = .ok (.ireturn, 1) := by decide +kernel
theorem dL_law_147 : decode cL_law 147 = .ok (.aload_n 1, 1) := by decide +kernel
theorem dL_law_148 : decode cL_law 148 = .ok (.aload_n 0, 1) := by decide +kernel
theorem dL_law_149 : decode cL_law 149 = .ok (.iload_n 3, 1) := by decide +kernel
theorem dL_law_150 : decode cL_law 150 = .ok (.iconst 1, 1) := by decide +kernel
theorem dL_law_151 : decode cL_law 151 = .ok (.iadd, 1) := by decide +kernel
theorem dL_law_152 : decode cL_law 152 = .ok (.iaload, 1) := by decide +kernel
theorem dL_law_153 : decode cL_law 153 = .ok (.aload_n 0, 1) := by decide +kernel
theorem dL_law_154 : decode cL_law 154 = .ok (.iload_n 3, 1) := by decide +kernel
theorem dL_law_155 : decode cL_law 155 = .ok (.iconst 2, 1) := by decide +kernel
theorem dL_law_156 : decode cL_law 156 = .ok (.iadd, 1) := by decide +kernel
theorem dL_law_157 : decode cL_law 157 = .ok (.iaload, 1) := by decide +kernel
theorem dL_law_158 : decode cL_law 158 = .ok (.aload_n 0, 1) := by decide +kernel
theorem dL_law_159 : decode cL_law 159 = .ok (.iload_n 3, 1) := by decide +kernel
theorem dL_law_160 : decode cL_law 160 = .ok (.iconst 3, 1) := by decide +kernel
theorem dL_law_161 : decode cL_law 161 = .ok (.iadd, 1) := by decide +kernel
theorem dL_law_162 : decode cL_law 162 = .ok (.iaload, 1) := by decide +kernel
theorem dL_law_163 : decode cL_law 163 = .ok (.invokevirtual 18, 3) := by decide +kernel
theorem dL_law_166 : decode cL_law 166 = .ok (.aload_n 2, 1) := by decide +kernel
theorem dL_law_167 : decode cL_law 167 = .ok (.aload_n 0, 1) := by decide +kernel
theorem dL_law_168 : decode cL_law 168 = .ok (.iload_n 3, 1) := by decide +kernel
theorem dL_law_169 : decode cL_law 169 = .ok (.iconst 1, 1) := by decide +kernel
theorem dL_law_170 : decode cL_law 170 = .ok (.iadd, 1) := by decide +kernel
theorem dL_law_171 : decode cL_law 171 = .ok (.iaload, 1) := by decide +kernel
theorem dL_law_172 : decode cL_law 172 = .ok (.aload_n 0, 1) := by decide +kernel
theorem dL_law_173 : decode cL_law 173 = .ok (.iload_n 3, 1) := by decide +kernel
theorem dL_law_174 : decode cL_law 174 = .ok (.iconst 2, 1) := by decide +kernel
theorem dL_law_175 : decode cL_law 175 = .ok (.iadd, 1) := by decide +kernel
theorem dL_law_176 : decode cL_law 176 = .ok (.iaload, 1) := by decide +kernel
theorem dL_law_177 : decode cL_law 177 = .ok (.aload_n 0, 1) := by decide +kernel
theorem dL_law_178 : decode cL_law 178 = .ok (.iload_n 3, 1) := by decide +kernel
theorem dL_law_179 : decode cL_law 179 = .ok (.iconst 3, 1) := by decide +kernel
theorem dL_law_180 : decode cL_law 180 = .ok (.iadd, 1) := by decide +kernel
theorem dL_law_181 : decode cL_law 181 = .ok (.iaload, 1) := by decide +kernel
theorem dL_law_182 : decode cL_law 182 = .ok (.invokevirtual 22, 3) := by decide +kernel
theorem dL_law_185 : decode cL_law 185 = .ok (.if_icmp .eq 488, 3) := by decide +kernel
theorem dL_law_188 : decode cL_law 188 = .ok (.iconst 0, 1) := by decide +kernel
theorem dL_law_189 : decode cL_law 189 = .ok (.ireturn, 1) := by decide +kernel
theorem dL_law_190 : decode cL_law 190 = .ok (.aload_n 1, 1) := by decide +kernel
theorem dL_law_191 : decode cL_law 191 = .ok (.aload_n 0, 1) := by decide +kernel
theorem dL_law_192 : decode cL_law 192 = .ok (.iload_n 3, 1) := by decide +kernel
theorem dL_law_193 : decode cL_law 193 = .ok (.iconst 1, 1) := by decide +kernel
theorem dL_law_194 : decode cL_law 194 = .ok (.iadd, 1) := by decide +kernel
theorem dL_law_195 : decode cL_law 195 = .ok (.iaload, 1) := by decide +kernel
theorem dL_law_196 : decode cL_law 196 = .ok (.aload_n 0, 1) := by decide +kernel
theorem dL_law_197 : decode cL_law 197 = .ok (.iload_n 3, 1) := by decide +kernel
theorem dL_law_198 : decode cL_law 198 = .ok (.iconst 2, 1) := by decide +kernel
theorem dL_law_199 : decode cL_law 199 = .ok (.iadd, 1) := by decide +kernel
theorem dL_law_200 : decode cL_law 200 = .ok (.iaload, 1) := by decide +kernel
theorem dL_law_201 : decode cL_law 201 = .ok (.invokevirtual 23, 3) := by decide +kernel
theorem dL_law_204 : decode cL_law 204 = .ok (.aload_n 2, 1) := by decide +kernel
theorem dL_law_205 : decode cL_law 205 = .ok (.aload_n 0, 1) := by decide +kernel
theorem dL_law_206 : decode cL_law 206 = .ok (.iload_n 3, 1) := by decide +kernel
theorem dL_law_207 : decode cL_law 207 = .ok (.iconst 1, 1) := by decide +kernel
theorem dL_law_208 : decode cL_law 208 = .ok (.iadd, 1) := by decide +kernel
theorem dL_law_209 : decode cL_law 209 = .ok (.iaload, 1) := by decide +kernel
theorem dL_law_210 : decode cL_law 210 = .ok (.aload_n 0, 1) := by decide +kernel
theorem dL_law_211 : decode cL_law 211 = .ok (.iload_n 3, 1) := by decide +kernel
theorem dL_law_212 : decode cL_law 212 = .ok (.iconst 2, 1) := by decide +kernel
theorem dL_law_213 : decode cL_law 213 = .ok (.iadd, 1) := by decide +kernel
theorem dL_law_214 : decode cL_law 214 = .ok (.iaload, 1) := by decide +kernel
theorem dL_law_215 : decode cL_law 215 = .ok (.invokevirtual 27, 3) := by decide +kernel
theorem dL_law_218 : decode cL_law 218 = .ok (.if_icmp .eq 455, 3) := by decide +kernel
theorem dL_law_221 : decode cL_law 221 = .ok (.iconst 0, 1) := by decide +kernel
theorem dL_law_222 : decode cL_law 222 = .ok (.ireturn, 1) := by decide +kernel
theorem dL_law_223 : decode cL_law 223 = .ok (.aload_n 1, 1) := by decide +kernel
theorem dL_law_224 : decode cL_law 224 = .ok (.aload_n 0, 1) := by decide +kernel
theorem dL_law_225 : decode cL_law 225 = .ok (.iload_n 3, 1) := by decide +kernel
theorem dL_law_226 : decode cL_law 226 = .ok (.iconst 1, 1) := by decide +kernel
theorem dL_law_227 : decode cL_law 227 = .ok (.iadd, 1) := by decide +kernel
theorem dL_law_228 : decode cL_law 228 = .ok (.iaload, 1) := by decide +kernel
theorem dL_law_229 : decode cL_law 229 = .ok (.invokevirtual 28, 3) := by decide +kernel
theorem dL_law_232 : decode cL_law 232 = .ok (.aload_n 2, 1) := by decide +kernel
theorem dL_law_233 : decode cL_law 233 = .ok (.aload_n 0, 1) := by decide +kernel
theorem dL_law_234 : decode cL_law 234 = .ok (.iload_n 3, 1) := by decide +kernel
theorem dL_law_235 : decode cL_law 235 = .ok (.iconst 1, 1) := by decide +kernel
theorem dL_law_236 : decode cL_law 236 = .ok (.iadd, 1) := by decide +kernel
theorem dL_law_237 : decode cL_law 237 = .ok (.iaload, 1) := by decide +kernel
theorem dL_law_238 : decode cL_law 238 = .ok (.invokevirtual 31, 3) := by decide +kernel
theorem dL_law_241 : decode cL_law 241 = .ok (.if_icmp .eq 432, 3) := by decide +kernel
theorem dL_law_244 : decode cL_law 244 = .ok (.iconst 0, 1) := by decide +kernel
theorem dL_law_245 : decode cL_law 245 = .ok (.ireturn, 1) := by decide +kernel
theorem dL_law_246 : decode cL_law 246 = .ok (.aload_n 1, 1) := by decide +kernel
theorem dL_law_247 : decode cL_law 247 = .ok (.invokevirtual 32, 3) := by decide +kernel
theorem dL_law_250 : decode cL_law 250 = .ok (.aload_n 2, 1) := by decide +kernel
theorem dL_law_251 : decode cL_law 251 = .ok (.invokevirtual 36, 3) := by decide +kernel
theorem dL_law_254 : decode cL_law 254 = .ok (.if_icmp .eq 419, 3) := by decide +kernel
theorem dL_law_257 : decode cL_law 257 = .ok (.iconst 0, 1) := by decide +kernel
theorem dL_law_258 : decode cL_law 258 = .ok (.ireturn, 1) := by decide +kernel
theorem dL_law_259 : decode cL_law 259 = .ok (.aload_n 1, 1) := by decide +kernel
theorem dL_law_260 : decode cL_law 260 = .ok (.aload_n 0, 1) := by decide +kernel
theorem dL_law_261 : decode cL_law 261 = .ok (.iload_n 3, 1) := by decide +kernel
theorem dL_law_262 : decode cL_law 262 = .ok (.iconst 1, 1) := by decide +kernel
theorem dL_law_263 : decode cL_law 263 = .ok (.iadd, 1) := by decide +kernel
theorem dL_law_264 : decode cL_law 264 = .ok (.iaload, 1) := by decide +kernel
theorem dL_law_265 : decode cL_law 265 = .ok (.aload_n 0, 1) := by decide +kernel
theorem dL_law_266 : decode cL_law 266 = .ok (.iload_n 3, 1) := by decide +kernel
theorem dL_law_267 : decode cL_law 267 = .ok (.iconst 2, 1) := by decide +kernel
theorem dL_law_268 : decode cL_law 268 = .ok (.iadd, 1) := by decide +kernel
theorem dL_law_269 : decode cL_law 269 = .ok (.iaload, 1) := by decide +kernel
theorem dL_law_270 : decode cL_law 270 = .ok (.aload_n 0, 1) := by decide +kernel
theorem dL_law_271 : decode cL_law 271 = .ok (.iload_n 3, 1) := by decide +kernel
theorem dL_law_272 : decode cL_law 272 = .ok (.iconst 3, 1) := by decide +kernel
theorem dL_law_273 : decode cL_law 273 = .ok (.iadd, 1) := by decide +kernel
theorem dL_law_274 : decode cL_law 274 = .ok (.iaload, 1) := by decide +kernel
theorem dL_law_275 : decode cL_law 275 = .ok (.invokevirtual 37, 3) := by decide +kernel
theorem dL_law_278 : decode cL_law 278 = .ok (.aload_n 2, 1) := by decide +kernel
theorem dL_law_279 : decode cL_law 279 = .ok (.aload_n 0, 1) := by decide +kernel
theorem dL_law_280 : decode cL_law 280 = .ok (.iload_n 3, 1) := by decide +kernel
theorem dL_law_281 : decode cL_law 281 = .ok (.iconst 1, 1) := by decide +kernel
theorem dL_law_282 : decode cL_law 282 = .ok (.iadd, 1) := by decide +kernel
theorem dL_law_283 : decode cL_law 283 = .ok (.iaload, 1) := by decide +kernel
theorem dL_law_284 : decode cL_law 284 = .ok (.aload_n 0, 1) := by decide +kernel
theorem dL_law_285 : decode cL_law 285 = .ok (.iload_n 3, 1) := by decide +kernel
theorem dL_law_286 : decode cL_law 286 = .ok (.iconst 2, 1) := by decide +kernel
theorem dL_law_287 : decode cL_law 287 = .ok (.iadd, 1) := by decide +kernel
theorem dL_law_288 : decode cL_law 288 = .ok (.iaload, 1) := by decide +kernel
theorem dL_law_289 : decode cL_law 289 = .ok (.aload_n 0, 1) := by decide +kernel
theorem dL_law_290 : decode cL_law 290 = .ok (.iload_n 3, 1) := by decide +kernel
theorem dL_law_291 : decode cL_law 291 = .ok (.iconst 3, 1) := by decide +kernel
theorem dL_law_292 : decode cL_law 292 = .ok (.iadd, 1) := by decide +kernel
theorem dL_law_293 : decode cL_law 293 = .ok (.iaload, 1) := by decide +kernel
theorem dL_law_294 : decode cL_law 294 = .ok (.invokevirtual 40, 3) := by decide +kernel
theorem dL_law_297 : decode cL_law 297 = .ok (.if_icmp .eq 376, 3) := by decide +kernel
theorem dL_law_300 : decode cL_law 300 = .ok (.iconst 0, 1) := by decide +kernel
theorem dL_law_301 : decode cL_law 301 = .ok (.ireturn, 1) := by decide +kernel
theorem dL_law_302 : decode cL_law 302 = .ok (.aload_n 1, 1) := by decide +kernel
theorem dL_law_303 : decode cL_law 303 = .ok (.aload_n 0, 1) := by decide +kernel
theorem dL_law_304 : decode cL_law 304 = .ok (.iload_n 3, 1) := by decide +kernel
theorem dL_law_305 : decode cL_law 305 = .ok (.iconst 1, 1) := by decide +kernel
theorem dL_law_306 : decode cL_law 306 = .ok (.iadd, 1) := by decide +kernel
theorem dL_law_307 : decode cL_law 307 = .ok (.iaload, 1) := by decide +kernel
theorem dL_law_308 : decode cL_law 308 = .ok (.aload_n 0, 1) := by decide +kernel
theorem dL_law_309 : decode cL_law 309 = .ok (.iload_n 3, 1) := by decide +kernel
theorem dL_law_310 : decode cL_law 310 = .ok (.iconst 2, 1) := by decide +kernel
theorem dL_law_311 : decode cL_law 311 = .ok (.iadd, 1) := by decide +kernel
theorem dL_law_312 : decode cL_law 312 = .ok (.iaload, 1) := by decide +kernel
theorem dL_law_313 : decode cL_law 313 = .ok (.invokevirtual 41, 3) := by decide +kernel
theorem dL_law_316 : decode cL_law 316 = .ok (.aload_n 2, 1) := by decide +kernel
theorem dL_law_317 : decode cL_law 317 = .ok (.aload_n 0, 1) := by decide +kernel
theorem dL_law_318 : decode cL_law 318 = .ok (.iload_n 3, 1) := by decide +kernel
theorem dL_law_319 : decode cL_law 319 = .ok (.iconst 1, 1) := by decide +kernel
theorem dL_law_320 : decode cL_law 320 = .ok (.iadd, 1) := by decide +kernel
theorem dL_law_321 : decode cL_law 321 = .ok (.iaload, 1) := by decide +kernel
theorem dL_law_322 : decode cL_law 322 = .ok (.aload_n 0, 1) := by decide +kernel
theorem dL_law_323 : decode cL_law 323 = .ok (.iload_n 3, 1) := by decide +kernel
theorem dL_law_324 : decode cL_law 324 = .ok (.iconst 2, 1) := by decide +kernel
theorem dL_law_325 : decode cL_law 325 = .ok (.iadd, 1) := by decide +kernel
theorem dL_law_326 : decode cL_law 326 = .ok (.iaload, 1) := by decide +kernel
theorem dL_law_327 : decode cL_law 327 = .ok (.invokevirtual 44, 3) := by decide +kernel
theorem dL_law_330 : decode cL_law 330 = .ok (.if_icmp .eq 343, 3) := by decide +kernel
theorem dL_law_333 : decode cL_law 333 = .ok (.iconst 0, 1) := by decide +kernel
theorem dL_law_334 : decode cL_law 334 = .ok (.ireturn, 1) := by decide +kernel
theorem dL_law_335 : decode cL_law 335 = .ok (.aload_n 1, 1) := by decide +kernel
theorem dL_law_336 : decode cL_law 336 = .ok (.invokevirtual 45, 3) := by decide +kernel
theorem dL_law_339 : decode cL_law 339 = .ok (.aload_n 2, 1) := by decide +kernel
theorem dL_law_340 : decode cL_law 340 = .ok (.invokevirtual 48, 3) := by decide +kernel
theorem dL_law_343 : decode cL_law 343 = .ok (.if_icmp .eq 330, 3) := by decide +kernel
theorem dL_law_346 : decode cL_law 346 = .ok (.iconst 0, 1) := by decide +kernel
theorem dL_law_347 : decode cL_law 347 = .ok (.ireturn, 1) := by decide +kernel
theorem dL_law_348 : decode cL_law 348 = .ok (.aload_n 1, 1) := by decide +kernel
theorem dL_law_349 : decode cL_law 349 = .ok (.aload_n 0, 1) := by decide +kernel
theorem dL_law_350 : decode cL_law 350 = .ok (.iload_n 3, 1) := by decide +kernel
theorem dL_law_351 : decode cL_law 351 = .ok (.iconst 1, 1) := by decide +kernel
theorem dL_law_352 : decode cL_law 352 = .ok (.iadd, 1) := by decide +kernel
theorem dL_law_353 : decode cL_law 353 = .ok (.iaload, 1) := by decide +kernel
theorem dL_law_354 : decode cL_law 354 = .ok (.aload_n 0, 1) := by decide +kernel
theorem dL_law_355 : decode cL_law 355 = .ok (.iload_n 3, 1) := by decide +kernel
theorem dL_law_356 : decode cL_law 356 = .ok (.iconst 2, 1) := by decide +kernel
theorem dL_law_357 : decode cL_law 357 = .ok (.iadd, 1) := by decide +kernel
theorem dL_law_358 : decode cL_law 358 = .ok (.iaload, 1) := by decide +kernel
theorem dL_law_359 : decode cL_law 359 = .ok (.invokevirtual 49, 3) := by decide +kernel
theorem dL_law_362 : decode cL_law 362 = .ok (.aload_n 2, 1) := by decide +kernel
theorem dL_law_363 : decode cL_law 363 = .ok (.aload_n 0, 1) := by decide +kernel
theorem dL_law_364 : decode cL_law 364 = .ok (.iload_n 3, 1) := by decide +kernel
theorem dL_law_365 : decode cL_law 365 = .ok (.iconst 1, 1) := by decide +kernel
theorem dL_law_366 : decode cL_law 366 = .ok (.iadd, 1) := by decide +kernel
theorem dL_law_367 : decode cL_law 367 = .ok (.iaload, 1) := by decide +kernel
theorem dL_law_368 : decode cL_law 368 = .ok (.aload_n 0, 1) := by decide +kernel
theorem dL_law_369 : decode cL_law 369 = .ok (.iload_n 3, 1) := by decide +kernel
theorem dL_law_370 : decode cL_law 370 = .ok (.iconst 2, 1) := by decide +kernel
theorem dL_law_371 : decode cL_law 371 = .ok (.iadd, 1) := by decide +kernel
theorem dL_law_372 : decode cL_law 372 = .ok (.iaload, 1) := by decide +kernel
theorem dL_law_373 : decode cL_law 373 = .ok (.invokevirtual 52, 3) := by decide +kernel
theorem dL_law_376 : decode cL_law 376 = .ok (.if_icmp .eq 297, 3) := by decide +kernel
theorem dL_law_379 : decode cL_law 379 = .ok (.iconst 0, 1) := by decide +kernel
theorem dL_law_380 : decode cL_law 380 = .ok (.ireturn, 1) := by decide +kernel
theorem dL_law_381 : decode cL_law 381 = .ok (.aload_n 1, 1) := by decide +kernel
theorem dL_law_382 : decode cL_law 382 = .ok (.aload_n 0, 1) := by decide +kernel
theorem dL_law_383 : decode cL_law 383 = .ok (.iload_n 3, 1) := by decide +kernel
theorem dL_law_384 : decode cL_law 384 = .ok (.iconst 1, 1) := by decide +kernel
theorem dL_law_385 : decode cL_law 385 = .ok (.iadd, 1) := by decide +kernel
theorem dL_law_386 : decode cL_law 386 = .ok (.iaload, 1) := by decide +kernel
theorem dL_law_387 : decode cL_law 387 = .ok (.invokevirtual 53, 3) := by decide +kernel
theorem dL_law_390 : decode cL_law 390 = .ok (.aload_n 2, 1) := by decide +kernel
theorem dL_law_391 : decode cL_law 391 = .ok (.aload_n 0, 1) := by decide +kernel
theorem dL_law_392 : decode cL_law 392 = .ok (.iload_n 3, 1) := by decide +kernel
theorem dL_law_393 : decode cL_law 393 = .ok (.iconst 1, 1) := by decide +kernel
theorem dL_law_394 : decode cL_law 394 = .ok (.iadd, 1) := by decide +kernel
theorem dL_law_395 : decode cL_law 395 = .ok (.iaload, 1) := by decide +kernel
theorem dL_law_396 : decode cL_law 396 = .ok (.invokevirtual 56, 3) := by decide +kernel
theorem dL_law_399 : decode cL_law 399 = .ok (.if_icmp .eq 274, 3) := by decide +kernel
theorem dL_law_402 : decode cL_law 402 = .ok (.iconst 0, 1) := by decide +kernel
theorem dL_law_403 : decode cL_law 403 = .ok (.ireturn, 1) := by decide +kernel
theorem dL_law_404 : decode cL_law 404 = .ok (.aload_n 1, 1) := by decide +kernel
theorem dL_law_405 : decode cL_law 405 = .ok (.aload_n 0, 1) := by decide +kernel
theorem dL_law_406 : decode cL_law 406 = .ok (.iload_n 3, 1) := by decide +kernel
theorem dL_law_407 : decode cL_law 407 = .ok (.iconst 1, 1) := by decide +kernel
theorem dL_law_408 : decode cL_law 408 = .ok (.iadd, 1) := by decide +kernel
theorem dL_law_409 : decode cL_law 409 = .ok (.iaload, 1) := by decide +kernel
theorem dL_law_410 : decode cL_law 410 = .ok (.aload_n 0, 1) := by decide +kernel
theorem dL_law_411 : decode cL_law 411 = .ok (.iload_n 3, 1) := by decide +kernel
theorem dL_law_412 : decode cL_law 412 = .ok (.iconst 2, 1) := by decide +kernel
theorem dL_law_413 : decode cL_law 413 = .ok (.iadd, 1) := by decide +kernel
theorem dL_law_414 : decode cL_law 414 = .ok (.iaload, 1) := by decide +kernel
theorem dL_law_415 : decode cL_law 415 = .ok (.invokevirtual 57, 3) := by decide +kernel
theorem dL_law_418 : decode cL_law 418 = .ok (.aload_n 2, 1) := by decide +kernel
theorem dL_law_419 : decode cL_law 419 = .ok (.aload_n 0, 1) := by decide +kernel
theorem dL_law_420 : decode cL_law 420 = .ok (.iload_n 3, 1) := by decide +kernel
theorem dL_law_421 : decode cL_law 421 = .ok (.iconst 1, 1) := by decide +kernel
theorem dL_law_422 : decode cL_law 422 = .ok (.iadd, 1) := by decide +kernel
theorem dL_law_423 : decode cL_law 423 = .ok (.iaload, 1) := by decide +kernel
theorem dL_law_424 : decode cL_law 424 = .ok (.aload_n 0, 1) := by decide +kernel
theorem dL_law_425 : decode cL_law 425 = .ok (.iload_n 3, 1) := by decide +kernel
theorem dL_law_426 : decode cL_law 426 = .ok (.iconst 2, 1) := by decide +kernel
theorem dL_law_427 : decode cL_law 427 = .ok (.iadd, 1) := by decide +kernel
theorem dL_law_428 : decode cL_law 428 = .ok (.iaload, 1) := by decide +kernel
theorem dL_law_429 : decode cL_law 429 = .ok (.invokevirtual 60, 3) := by decide +kernel
theorem dL_law_432 : decode cL_law 432 = .ok (.if_icmp .eq 241, 3) := by decide +kernel
theorem dL_law_435 : decode cL_law 435 = .ok (.iconst 0, 1) := by decide +kernel
theorem dL_law_436 : decode cL_law 436 = .ok (.ireturn, 1) := by decide +kernel
theorem dL_law_437 : decode cL_law 437 = .ok (.aload_n 1, 1) := by decide +kernel
theorem dL_law_438 : decode cL_law 438 = .ok (.aload_n 0, 1) := by decide +kernel
theorem dL_law_439 : decode cL_law 439 = .ok (.iload_n 3, 1) := by decide +kernel
theorem dL_law_440 : decode cL_law 440 = .ok (.iconst 1, 1) := by decide +kernel
theorem dL_law_441 : decode cL_law 441 = .ok (.iadd, 1) := by decide +kernel
theorem dL_law_442 : decode cL_law 442 = .ok (.iaload, 1) := by decide +kernel
theorem dL_law_443 : decode cL_law 443 = .ok (.invokevirtual 61, 3) := by decide +kernel
theorem dL_law_446 : decode cL_law 446 = .ok (.aload_n 2, 1) := by decide +kernel
theorem dL_law_447 : decode cL_law 447 = .ok (.aload_n 0, 1) := by decide +kernel
theorem dL_law_448 : decode cL_law 448 = .ok (.iload_n 3, 1) := by decide +kernel
theorem dL_law_449 : decode cL_law 449 = .ok (.iconst 1, 1) := by decide +kernel
theorem dL_law_450 : decode cL_law 450 = .ok (.iadd, 1) := by decide +kernel
theorem dL_law_451 : decode cL_law 451 = .ok (.iaload, 1) := by decide +kernel
theorem dL_law_452 : decode cL_law 452 = .ok (.invokevirtual 64, 3) := by decide +kernel
theorem dL_law_455 : decode cL_law 455 = .ok (.if_icmp .eq 218, 3) := by decide +kernel
theorem dL_law_458 : decode cL_law 458 = .ok (.iconst 0, 1) := by decide +kernel
theorem dL_law_459 : decode cL_law 459 = .ok (.ireturn, 1) := by decide +kernel
theorem dL_law_460 : decode cL_law 460 = .ok (.aload_n 1, 1) := by decide +kernel
theorem dL_law_461 : decode cL_law 461 = .ok (.aload_n 0, 1) := by decide +kernel
theorem dL_law_462 : decode cL_law 462 = .ok (.iload_n 3, 1) := by decide +kernel
theorem dL_law_463 : decode cL_law 463 = .ok (.iconst 1, 1) := by decide +kernel
theorem dL_law_464 : decode cL_law 464 = .ok (.iadd, 1) := by decide +kernel
theorem dL_law_465 : decode cL_law 465 = .ok (.iaload, 1) := by decide +kernel
theorem dL_law_466 : decode cL_law 466 = .ok (.invokevirtual 65, 3) := by decide +kernel
theorem dL_law_469 : decode cL_law 469 = .ok (.aload_n 2, 1) := by decide +kernel
theorem dL_law_470 : decode cL_law 470 = .ok (.aload_n 0, 1) := by decide +kernel
theorem dL_law_471 : decode cL_law 471 = .ok (.iload_n 3, 1) := by decide +kernel
theorem dL_law_472 : decode cL_law 472 = .ok (.iconst 1, 1) := by decide +kernel
theorem dL_law_473 : decode cL_law 473 = .ok (.iadd, 1) := by decide +kernel
theorem dL_law_474 : decode cL_law 474 = .ok (.iaload, 1) := by decide +kernel
theorem dL_law_475 : decode cL_law 475 = .ok (.invokevirtual 68, 3) := by decide +kernel
theorem dL_law_478 : decode cL_law 478 = .ok (.if_icmp .eq 195, 3) := by decide +kernel
theorem dL_law_481 : decode cL_law 481 = .ok (.iconst 0, 1) := by decide +kernel
theorem dL_law_482 : decode cL_law 482 = .ok (.ireturn, 1) := by decide +kernel
theorem dL_law_483 : decode cL_law 483 = .ok (.aload_n 1, 1) := by decide +kernel
theorem dL_law_484 : decode cL_law 484 = .ok (.aload_n 0, 1) := by decide +kernel
theorem dL_law_485 : decode cL_law 485 = .ok (.iload_n 3, 1) := by decide +kernel
theorem dL_law_486 : decode cL_law 486 = .ok (.iconst 1, 1) := by decide +kernel
theorem dL_law_487 : decode cL_law 487 = .ok (.iadd, 1) := by decide +kernel
theorem dL_law_488 : decode cL_law 488 = .ok (.iaload, 1) := by decide +kernel
theorem dL_law_489 : decode cL_law 489 = .ok (.aload_n 0, 1) := by decide +kernel
theorem dL_law_490 : decode cL_law 490 = .ok (.iload_n 3, 1) := by decide +kernel
theorem dL_law_491 : decode cL_law 491 = .ok (.iconst 2, 1) := by decide +kernel
theorem dL_law_492 : decode cL_law 492 = .ok (.iadd, 1) := by decide +kernel
theorem dL_law_493 : decode cL_law 493 = .ok (.iaload, 1) := by decide +kernel
theorem dL_law_494 : decode cL_law 494 = .ok (.invokevirtual 69, 3) := by decide +kernel
theorem dL_law_497 : decode cL_law 497 = .ok (.aload_n 2, 1) := by decide +kernel
theorem dL_law_498 : decode cL_law 498 = .ok (.aload_n 0, 1) := by decide +kernel
theorem dL_law_499 : decode cL_law 499 = .ok (.iload_n 3, 1) := by decide +kernel
theorem dL_law_500 : decode cL_law 500 = .ok (.iconst 1, 1) := by decide +kernel
theorem dL_law_501 : decode cL_law 501 = .ok (.iadd, 1) := by decide +kernel
theorem dL_law_502 : decode cL_law 502 = .ok (.iaload, 1) := by decide +kernel
theorem dL_law_503 : decode cL_law 503 = .ok (.aload_n 0, 1) := by decide +kernel
theorem dL_law_504 : decode cL_law 504 = .ok (.iload_n 3, 1) := by decide +kernel
theorem dL_law_505 : decode cL_law 505 = .ok (.iconst 2, 1) := by decide +kernel
theorem dL_law_506 : decode cL_law 506 = .ok (.iadd, 1) := by decide +kernel
theorem dL_law_507 : decode cL_law 507 = .ok (.iaload, 1) := by decide +kernel
theorem dL_law_508 : decode cL_law 508 = .ok (.invokevirtual 72, 3) := by decide +kernel
theorem dL_law_511 : decode cL_law 511 = .ok (.if_icmp .eq 162, 3) := by decide +kernel
theorem dL_law_514 : decode cL_law 514 = .ok (.iconst 0, 1) := by decide +kernel
theorem dL_law_515 : decode cL_law 515 = .ok (.ireturn, 1) := by decide +kernel
theorem dL_law_516 : decode cL_law 516 = .ok (.aload_n 1, 1) := by decide +kernel
theorem dL_law_517 : decode cL_law 517 = .ok (.aload_n 0, 1) := by decide +kernel
theorem dL_law_518 : decode cL_law 518 = .ok (.iload_n 3, 1) := by decide +kernel
theorem dL_law_519 : decode cL_law 519 = .ok (.iconst 1, 1) := by decide +kernel
theorem dL_law_520 : decode cL_law 520 = .ok (.iadd, 1) := by decide +kernel
theorem dL_law_521 : decode cL_law 521 = .ok (.iaload, 1) := by decide +kernel
theorem dL_law_522 : decode cL_law 522 = .ok (.aload_n 0, 1) := by decide +kernel
theorem dL_law_523 : decode cL_law 523 = .ok (.iload_n 3, 1) := by decide +kernel
theorem dL_law_524 : decode cL_law 524 = .ok (.iconst 2, 1) := by decide +kernel
theorem dL_law_525 : decode cL_law 525 = .ok (.iadd, 1) := by decide +kernel
theorem dL_law_526 : decode cL_law 526 = .ok (.iaload, 1) := by decide +kernel
theorem dL_law_527 : decode cL_law 527 = .ok (.aload_n 0, 1) := by decide +kernel
theorem dL_law_528 : decode cL_law 528 = .ok (.iload_n 3, 1) := by decide +kernel
theorem dL_law_529 : decode cL_law 529 = .ok (.iconst 3, 1) := by decide +kernel
theorem dL_law_530 : decode cL_law 530 = .ok (.iadd, 1) := by decide +kernel
theorem dL_law_531 : decode cL_law 531 = .ok (.iaload, 1) := by decide +kernel
theorem dL_law_532 : decode cL_law 532 = .ok (.invokevirtual 73, 3) := by decide +kernel
theorem dL_law_535 : decode cL_law 535 = .ok (.aload_n 2, 1) := by decide +kernel
theorem dL_law_536 : decode cL_law 536 = .ok (.aload_n 0, 1) := by decide +kernel
theorem dL_law_537 : decode cL_law 537 = .ok (.iload_n 3, 1) := by decide +kernel
theorem dL_law_538 : decode cL_law 538 = .ok (.iconst 1, 1) := by decide +kernel
theorem dL_law_539 : decode cL_law 539 = .ok (.iadd, 1) := by decide +kernel
theorem dL_law_540 : decode cL_law 540 = .ok (.iaload, 1) := by decide +kernel
theorem dL_law_541 : decode cL_law 541 = .ok (.aload_n 0, 1) := by decide +kernel
theorem dL_law_542 : decode cL_law 542 = .ok (.iload_n 3, 1) := by decide +kernel
theorem dL_law_543 : decode cL_law 543 = .ok (.iconst 2, 1) := by decide +kernel
theorem dL_law_544 : decode cL_law 544 = .ok (.iadd, 1) := by decide +kernel
theorem dL_law_545 : decode cL_law 545 = .ok (.iaload, 1) := by decide +kernel
theorem dL_law_546 : decode cL_law 546 = .ok (.aload_n 0, 1) := by decide +kernel
theorem dL_law_547 : decode cL_law 547 = .ok (.iload_n 3, 1) := by decide +kernel
theorem dL_law_548 : decode cL_law 548 = .ok (.iconst 3, 1) := by decide +kernel
theorem dL_law_549 : decode cL_law 549 = .ok (.iadd, 1) := by decide +kernel
theorem dL_law_550 : decode cL_law 550 = .ok (.iaload, 1) := by decide +kernel
theorem dL_law_551 : decode cL_law 551 = .ok (.invokevirtual 77, 3) := by decide +kernel
theorem dL_law_554 : decode cL_law 554 = .ok (.lcmp, 1) := by decide +kernel
theorem dL_law_555 : decode cL_law 555 = .ok (.ifCond .eq 118, 3) := by decide +kernel
theorem dL_law_558 : decode cL_law 558 = .ok (.iconst 0, 1) := by decide +kernel
theorem dL_law_559 : decode cL_law 559 = .ok (.ireturn, 1) := by decide +kernel
theorem dL_law_560 : decode cL_law 560 = .ok (.aload_n 1, 1) := by decide +kernel
theorem dL_law_561 : decode cL_law 561 = .ok (.aload_n 0, 1) := by decide +kernel
theorem dL_law_562 : decode cL_law 562 = .ok (.iload_n 3, 1) := by decide +kernel
theorem dL_law_563 : decode cL_law 563 = .ok (.iconst 1, 1) := by decide +kernel
theorem dL_law_564 : decode cL_law 564 = .ok (.iadd, 1) := by decide +kernel
theorem dL_law_565 : decode cL_law 565 = .ok (.iaload, 1) := by decide +kernel
theorem dL_law_566 : decode cL_law 566 = .ok (.aload_n 0, 1) := by decide +kernel
theorem dL_law_567 : decode cL_law 567 = .ok (.iload_n 3, 1) := by decide +kernel
theorem dL_law_568 : decode cL_law 568 = .ok (.iconst 2, 1) := by decide +kernel
theorem dL_law_569 : decode cL_law 569 = .ok (.iadd, 1) := by decide +kernel
theorem dL_law_570 : decode cL_law 570 = .ok (.iaload, 1) := by decide +kernel
theorem dL_law_571 : decode cL_law 571 = .ok (.aload_n 0, 1) := by decide +kernel
theorem dL_law_572 : decode cL_law 572 = .ok (.iload_n 3, 1) := by decide +kernel
theorem dL_law_573 : decode cL_law 573 = .ok (.iconst 3, 1) := by decide +kernel
theorem dL_law_574 : decode cL_law 574 = .ok (.iadd, 1) := by decide +kernel
theorem dL_law_575 : decode cL_law 575 = .ok (.iaload, 1) := by decide +kernel
theorem dL_law_576 : decode cL_law 576 = .ok (.aload_n 0, 1) := by decide +kernel
theorem dL_law_577 : decode cL_law 577 = .ok (.iload_n 3, 1) := by decide +kernel
theorem dL_law_578 : decode cL_law 578 = .ok (.iconst 4, 1) := by decide +kernel
theorem dL_law_579 : decode cL_law 579 = .ok (.iadd, 1) := by decide +kernel
theorem dL_law_580 : decode cL_law 580 = .ok (.iaload, 1) := by decide +kernel
theorem dL_law_581 : decode cL_law 581 = .ok (.invokevirtual 78, 3) := by decide +kernel
theorem dL_law_584 : decode cL_law 584 = .ok (.aload_n 2, 1) := by decide +kernel
theorem dL_law_585 : decode cL_law 585 = .ok (.aload_n 0, 1) := by decide +kernel
theorem dL_law_586 : decode cL_law 586 = .ok (.iload_n 3, 1) := by decide +kernel
theorem dL_law_587 : decode cL_law 587 = .ok (.iconst 1, 1) := by decide +kernel
theorem dL_law_588 : decode cL_law 588 = .ok (.iadd, 1) := by decide +kernel
theorem dL_law_589 : decode cL_law 589 = .ok (.iaload, 1) := by decide +kernel
theorem dL_law_590 : decode cL_law 590 = .ok (.aload_n 0, 1) := by decide +kernel
theorem dL_law_591 : decode cL_law 591 = .ok (.iload_n 3, 1) := by decide +kernel
theorem dL_law_592 : decode cL_law 592 = .ok (.iconst 2, 1) := by decide +kernel
theorem dL_law_593 : decode cL_law 593 = .ok (.iadd, 1) := by decide +kernel
theorem dL_law_594 : decode cL_law 594 = .ok (.iaload, 1) := by decide +kernel
theorem dL_law_595 : decode cL_law 595 = .ok (.aload_n 0, 1) := by decide +kernel
theorem dL_law_596 : decode cL_law 596 = .ok (.iload_n 3, 1) := by decide +kernel
theorem dL_law_597 : decode cL_law 597 = .ok (.iconst 3, 1) := by decide +kernel
theorem dL_law_598 : decode cL_law 598 = .ok (.iadd, 1) := by decide +kernel
theorem dL_law_599 : decode cL_law 599 = .ok (.iaload, 1) := by decide +kernel
theorem dL_law_600 : decode cL_law 600 = .ok (.aload_n 0, 1) := by decide +kernel
theorem dL_law_601 : decode cL_law 601 = .ok (.iload_n 3, 1) := by decide +kernel
theorem dL_law_602 : decode cL_law 602 = .ok (.iconst 4, 1) := by decide +kernel
theorem dL_law_603 : decode cL_law 603 = .ok (.iadd, 1) := by decide +kernel
theorem dL_law_604 : decode cL_law 604 = .ok (.iaload, 1) := by decide +kernel
theorem dL_law_605 : decode cL_law 605 = .ok (.invokevirtual 82, 3) := by decide +kernel
theorem dL_law_608 : decode cL_law 608 = .ok (.if_icmp .eq 65, 3) := by decide +kernel
theorem dL_law_611 : decode cL_law 611 = .ok (.iconst 0, 1) := by decide +kernel
theorem dL_law_612 : decode cL_law 612 = .ok (.ireturn, 1) := by decide +kernel
theorem dL_law_613 : decode cL_law 613 = .ok (.aload_n 1, 1) := by decide +kernel
theorem dL_law_614 : decode cL_law 614 = .ok (.aload_n 0, 1) := by decide +kernel
theorem dL_law_615 : decode cL_law 615 = .ok (.iload_n 3, 1) := by decide +kernel
theorem dL_law_616 : decode cL_law 616 = .ok (.iconst 1, 1) := by decide +kernel
theorem dL_law_617 : decode cL_law 617 = .ok (.iadd, 1) := by decide +kernel
theorem dL_law_618 : decode cL_law 618 = .ok (.iaload, 1) := by decide +kernel
theorem dL_law_619 : decode cL_law 619 = .ok (.invokevirtual 83, 3) := by decide +kernel
theorem dL_law_622 : decode cL_law 622 = .ok (.aload_n 2, 1) := by decide +kernel
theorem dL_law_623 : decode cL_law 623 = .ok (.aload_n 0, 1) := by decide +kernel
theorem dL_law_624 : decode cL_law 624 = .ok (.iload_n 3, 1) := by decide +kernel
theorem dL_law_625 : decode cL_law 625 = .ok (.iconst 1, 1) := by decide +kernel
theorem dL_law_626 : decode cL_law 626 = .ok (.iadd, 1) := by decide +kernel
theorem dL_law_627 : decode cL_law 627 = .ok (.iaload, 1) := by decide +kernel
theorem dL_law_628 : decode cL_law 628 = .ok (.invokevirtual 86, 3) := by decide +kernel
theorem dL_law_631 : decode cL_law 631 = .ok (.if_icmp .eq 42, 3) := by decide +kernel
theorem dL_law_634 : decode cL_law 634 = .ok (.iconst 0, 1) := by decide +kernel
theorem dL_law_635 : decode cL_law 635 = .ok (.ireturn, 1) := by decide +kernel
theorem dL_law_636 : decode cL_law 636 = .ok (.aload_n 1, 1) := by decide +kernel
theorem dL_law_637 : decode cL_law 637 = .ok (.aload_n 0, 1) := by decide +kernel
theorem dL_law_638 : decode cL_law 638 = .ok (.iload_n 3, 1) := by decide +kernel
theorem dL_law_639 : decode cL_law 639 = .ok (.iconst 1, 1) := by decide +kernel
theorem dL_law_640 : decode cL_law 640 = .ok (.iadd, 1) := by decide +kernel
theorem dL_law_641 : decode cL_law 641 = .ok (.iaload, 1) := by decide +kernel
theorem dL_law_642 : decode cL_law 642 = .ok (.invokevirtual 87, 3) := by decide +kernel
theorem dL_law_645 : decode cL_law 645 = .ok (.aload_n 2, 1) := by decide +kernel
theorem dL_law_646 : decode cL_law 646 = .ok (.aload_n 0, 1) := by decide +kernel
theorem dL_law_647 : decode cL_law 647 = .ok (.iload_n 3, 1) := by decide +kernel
theorem dL_law_648 : decode cL_law 648 = .ok (.iconst 1, 1) := by decide +kernel
theorem dL_law_649 : decode cL_law 649 = .ok (.iadd, 1) := by decide +kernel
theorem dL_law_650 : decode cL_law 650 = .ok (.iaload, 1) := by decide +kernel
theorem dL_law_651 : decode cL_law 651 = .ok (.invokevirtual 90, 3) := by decide +kernel
theorem dL_law_654 : decode cL_law 654 = .ok (.if_icmp .eq 19, 3) := by decide +kernel
theorem dL_law_657 : decode cL_law 657 = .ok (.iconst 0, 1) := by decide +kernel
theorem dL_law_658 : decode cL_law 658 = .ok (.ireturn, 1) := by decide +kernel
theorem dL_law_659 : decode cL_law 659 = .ok (.aload_n 1, 1) := by decide +kernel
theorem dL_law_660 : decode cL_law 660 = .ok (.invokevirtual 91, 3) := by decide +kernel
theorem dL_law_663 : decode cL_law 663 = .ok (.aload_n 2, 1) := by decide +kernel
theorem dL_law_664 : decode cL_law 664 = .ok (.invokevirtual 95, 3) := by decide +kernel
theorem dL_law_667 : decode cL_law 667 = .ok (.lcmp, 1) := by decide +kernel
theorem dL_law_668 : decode cL_law 668 = .ok (.ifCond .eq 5, 3) := by decide +kernel
theorem dL_law_671 : decode cL_law 671 = .ok (.iconst 0, 1) := by decide +kernel
theorem dL_law_672 : decode cL_law 672 = .ok (.ireturn, 1) := by decide +kernel
theorem dL_law_673 : decode cL_law 673 = .ok (.iinc 3 5, 3) := by decide +kernel
theorem dL_law_676 : decode cL_law 676 = .ok (.goto (-658), 3) := by decide +kernel
theorem dL_law_679 : decode cL_law 679 = .ok (.iconst 1, 1) := by decide +kernel
theorem dL_law_680 : decode cL_law 680 = .ok (.ireturn, 1) := by decide +kernel
end
section
-- decode rows (by program)
theorem dX0_init_0 : decode cX0_init 0 = .ok (.aload_n 0, 1) := by decide +kernel
theorem dX0_init_1 : decode cX0_init 1 = .ok (.invokespecial 3, 3) := by decide +kernel
theorem dX0_init_4 : decode cX0_init 4 = .ok (.aload_n 0, 1) := by decide +kernel
theorem dX0_init_5 : decode cX0_init 5 = .ok (.bipush 64, 2) := by decide +kernel
theorem dX0_init_7 : decode cX0_init 7 = .ok (.newarray .int, 2) := by decide +kernel
theorem dX0_init_9 : decode cX0_init 9 = .ok (.putfield 9, 3) := by decide +kernel
theorem dX0_init_12 : decode cX0_init 12 = .ok (.aload_n 0, 1) := by decide +kernel
theorem dX0_init_13 : decode cX0_init 13 = .ok (.iconst 5, 1) := by decide +kernel
theorem dX0_init_14 : decode cX0_init 14 = .ok (.newarray .int, 2) := by decide +kernel
theorem dX0_init_16 : decode cX0_init 16 = .ok (.putfield 15, 3) := by decide +kernel
theorem dX0_init_19 : decode cX0_init 19 = .ok (.aload_n 0, 1) := by decide +kernel
theorem dX0_init_20 : decode cX0_init 20 = .ok (.bipush 125, 2) := by decide +kernel
theorem dX0_init_22 : decode cX0_init 22 = .ok (.newarray .int, 2) := by decide +kernel
theorem dX0_init_24 : decode cX0_init 24 = .ok (.putfield 18, 3) := by decide +kernel
theorem dX0_init_27 : decode cX0_init 27 = .ok (.aload_n 0, 1) := by decide +kernel
theorem dX0_init_28 : decode cX0_init 28 = .ok (.bipush 25, 2) := by decide +kernel
theorem dX0_init_30 : decode cX0_init 30 = .ok (.newarray .int, 2) := by decide +kernel
theorem dX0_init_32 : decode cX0_init 32 = .ok (.putfield 21, 3) := by decide +kernel
theorem dX0_init_35 : decode cX0_init 35 = .ok (.aload_n 0, 1) := by decide +kernel
theorem dX0_init_36 : decode cX0_init 36 = .ok (.iconst 1, 1) := by decide +kernel
theorem dX0_init_37 : decode cX0_init 37 = .ok (.putfield 24, 3) := by decide +kernel
theorem dX0_init_40 : decode cX0_init 40 = .ok (.aload_n 0, 1) := by decide +kernel
theorem dX0_init_41 : decode cX0_init 41 = .ok (.iconst 1, 1) := by decide +kernel
theorem dX0_init_42 : decode cX0_init 42 = .ok (.putfield 28, 3) := by decide +kernel
theorem dX0_init_45 : decode cX0_init 45 = .ok (.aload_n 0, 1) := by decide +kernel
theorem dX0_init_46 : decode cX0_init 46 = .ok (.iconst 0, 1) := by decide +kernel
theorem dX0_init_47 : decode cX0_init 47 = .ok (.putfield 31, 3) := by decide +kernel
theorem dX0_init_50 : decode cX0_init 50 = .ok (.return_, 1) := by decide +kernel
theorem dX0_colourOf_0 : decode cX0_colourOf 0 = .ok (.aload_n 0, 1) := by decide +kernel
theorem dX0_colourOf_1 : decode cX0_colourOf 1 = .ok (.getfield 9, 3) := by decide +kernel
theorem dX0_colourOf_4 : decode cX0_colourOf 4 = .ok (.iload_n 1, 1) := by decide +kernel
theorem dX0_colourOf_5 : decode cX0_colourOf 5 = .ok (.bipush 8, 2) := by decide +kernel
theorem dX0_colourOf_7 : decode cX0_colourOf 7 = .ok (.imul, 1) := by decide +kernel
theorem dX0_colourOf_8 : decode cX0_colourOf 8 = .ok (.iload_n 2, 1) := by decide +kernel
theorem dX0_colourOf_9 : decode cX0_colourOf 9 = .ok (.iadd, 1) := by decide +kernel
theorem dX0_colourOf_10 : decode cX0_colourOf 10 = .ok (.iaload, 1) := by decide +kernel
theorem dX0_colourOf_11 : decode cX0_colourOf 11 = .ok (.ireturn, 1) := by decide +kernel
theorem dX0_paint_0 : decode cX0_paint 0 = .ok (.aload_n 0, 1) := by decide +kernel
theorem dX0_paint_1 : decode cX0_paint 1 = .ok (.getfield 9, 3) := by decide +kernel
theorem dX0_paint_4 : decode cX0_paint 4 = .ok (.iload_n 1, 1) := by decide +kernel
theorem dX0_paint_5 : decode cX0_paint 5 = .ok (.bipush 8, 2) := by decide +kernel
theorem dX0_paint_7 : decode cX0_paint 7 = .ok (.imul, 1) := by decide +kernel
theorem dX0_paint_8 : decode cX0_paint 8 = .ok (.iload_n 2, 1) := by decide +kernel
theorem dX0_paint_9 : decode cX0_paint 9 = .ok (.iadd, 1) := by decide +kernel
theorem dX0_paint_10 : decode cX0_paint 10 = .ok (.iload_n 3, 1) := by decide +kernel
theorem dX0_paint_11 : decode cX0_paint 11 = .ok (.iastore, 1) := by decide +kernel
theorem dX0_paint_12 : decode cX0_paint 12 = .ok (.return_, 1) := by decide +kernel
theorem dX0_begin_0 : decode cX0_begin 0 = .ok (.aload_n 0, 1) := by decide +kernel
theorem dX0_begin_1 : decode cX0_begin 1 = .ok (.iload_n 1, 1) := by decide +kernel
theorem dX0_begin_2 : decode cX0_begin 2 = .ok (.putfield 24, 3) := by decide +kernel
theorem dX0_begin_5 : decode cX0_begin 5 = .ok (.iconst 0, 1) := by decide +kernel
theorem dX0_begin_6 : decode cX0_begin 6 = .ok (.istore_n 2, 1) := by decide +kernel
theorem dX0_begin_7 : decode cX0_begin 7 = .ok (.iload_n 2, 1) := by decide +kernel
theorem dX0_begin_8 : decode cX0_begin 8 = .ok (.iload_n 1, 1) := by decide +kernel
theorem dX0_begin_9 : decode cX0_begin 9 = .ok (.if_icmp .ge 38, 3) := by decide +kernel
theorem dX0_begin_12 : decode cX0_begin 12 = .ok (.iconst 0, 1) := by decide +kernel
theorem dX0_begin_13 : decode cX0_begin 13 = .ok (.istore_n 3, 1) := by decide +kernel
theorem dX0_begin_14 : decode cX0_begin 14 = .ok (.iload_n 3, 1) := by decide +kernel
theorem dX0_begin_15 : decode cX0_begin 15 = .ok (.iload_n 1, 1) := by decide +kernel
theorem dX0_begin_16 : decode cX0_begin 16 = .ok (.if_icmp .ge 25, 3) := by decide +kernel
theorem dX0_begin_19 : decode cX0_begin 19 = .ok (.aload_n 0, 1) := by decide +kernel
theorem dX0_begin_20 : decode cX0_begin 20 = .ok (.iload_n 2, 1) := by decide +kernel
theorem dX0_begin_21 : decode cX0_begin 21 = .ok (.iload_n 3, 1) := by decide +kernel
theorem dX0_begin_22 : decode cX0_begin 22 = .ok (.iload_n 2, 1) := by decide +kernel
theorem dX0_begin_23 : decode cX0_begin 23 = .ok (.iload_n 3, 1) := by decide +kernel
theorem dX0_begin_24 : decode cX0_begin 24 = .ok (.if_icmp .ne 7, 3) := by decide +kernel
theorem dX0_begin_27 : decode cX0_begin 27 = .ok (.iconst 0, 1) := by decide +kernel
theorem dX0_begin_28 : decode cX0_begin 28 = .ok (.goto 4, 3) := by decide +kernel
theorem dX0_begin_31 : decode cX0_begin 31 = .ok (.iconst 1, 1) := by decide +kernel
theorem dX0_begin_32 : decode cX0_begin 32 = .ok (.invokevirtual 34, 3) := by decide +kernel
theorem dX0_begin_35 : decode cX0_begin 35 = .ok (.iinc 3 1, 3) := by decide +kernel
theorem dX0_begin_38 : decode cX0_begin 38 = .ok (.goto (-24), 3) := by decide +kernel
theorem dX0_begin_41 : decode cX0_begin 41 = .ok (.iinc 2 1, 3) := by decide +kernel
theorem dX0_begin_44 : decode cX0_begin 44 = .ok (.goto (-37), 3) := by decide +kernel
theorem dX0_begin_47 : decode cX0_begin 47 = .ok (.aload_n 0, 1) := by decide +kernel
theorem dX0_begin_48 : decode cX0_begin 48 = .ok (.invokevirtual 38, 3) := by decide +kernel
theorem dX0_begin_51 : decode cX0_begin 51 = .ok (.return_, 1) := by decide +kernel
theorem dX0_paintRing_0 : decode cX0_paintRing 0 = .ok (.iload_n 1, 1) := by decide +kernel
theorem dX0_paintRing_1 : decode cX0_paintRing 1 = .ok (.istore_n 2, 1) := by decide +kernel
theorem dX0_paintRing_2 : decode cX0_paintRing 2 = .ok (.iconst 0, 1) := by decide +kernel
theorem dX0_paintRing_3 : decode cX0_paintRing 3 = .ok (.istore_n 3, 1) := by decide +kernel
theorem dX0_paintRing_4 : decode cX0_paintRing 4 = .ok (.iload_n 3, 1) := by decide +kernel
theorem dX0_paintRing_5 : decode cX0_paintRing 5 = .ok (.aload_n 0, 1) := by decide +kernel
theorem dX0_paintRing_6 : decode cX0_paintRing 6 = .ok (.getfield 24, 3) := by decide +kernel
theorem dX0_paintRing_9 : decode cX0_paintRing 9 = .ok (.if_icmp .ge 16, 3) := by decide +kernel
theorem dX0_paintRing_12 : decode cX0_paintRing 12 = .ok (.aload_n 0, 1) := by decide +kernel
theorem dX0_paintRing_13 : decode cX0_paintRing 13 = .ok (.iload_n 3, 1) := by decide +kernel
theorem dX0_paintRing_14 : decode cX0_paintRing 14 = .ok (.iload_n 3, 1) := by decide +kernel
theorem dX0_paintRing_15 : decode cX0_paintRing 15 = .ok (.iconst 0, 1) := by decide +kernel
theorem dX0_paintRing_16 : decode cX0_paintRing 16 = .ok (.invokevirtual 34, 3) := by decide +kernel
theorem dX0_paintRing_19 : decode cX0_paintRing 19 = .ok (.iinc 3 1, 3) := by decide +kernel
theorem dX0_paintRing_22 : decode cX0_paintRing 22 = .ok (.goto (-18), 3) := by decide +kernel
theorem dX0_paintRing_25 : decode cX0_paintRing 25 = .ok (.iconst 1, 1) := by decide +kernel
theorem dX0_paintRing_26 : decode cX0_paintRing 26 = .ok (.istore_n 3, 1) := by decide +kernel
theorem dX0_paintRing_27 : decode cX0_paintRing 27 = .ok (.iload_n 3, 1) := by decide +kernel
theorem dX0_paintRing_28 : decode cX0_paintRing 28 = .ok (.aload_n 0, 1) := by decide +kernel
theorem dX0_paintRing_29 : decode cX0_paintRing 29 = .ok (.getfield 24, 3) := by decide +kernel
theorem dX0_paintRing_32 : decode cX0_paintRing 32 = .ok (.if_icmp .ge 71, 3) := by decide +kernel
theorem dX0_paintRing_35 : decode cX0_paintRing 35 = .ok (.iload_n 2, 1) := by decide +kernel
theorem dX0_paintRing_36 : decode cX0_paintRing 36 = .ok (.iconst 5, 1) := by decide +kernel
theorem dX0_paintRing_37 : decode cX0_paintRing 37 = .ok (.irem, 1) := by decide +kernel
theorem dX0_paintRing_38 : decode cX0_paintRing 38 = .ok (.istore 4, 2) := by decide +kernel
theorem dX0_paintRing_40 : decode cX0_paintRing 40 = .ok (.iload_n 2, 1) := by decide +kernel
theorem dX0_paintRing_41 : decode cX0_paintRing 41 = .ok (.iconst 5, 1) := by decide +kernel
theorem dX0_paintRing_42 : decode cX0_paintRing 42 = .ok (.idiv, 1) := by decide +kernel
theorem dX0_paintRing_43 : decode cX0_paintRing 43 = .ok (.istore_n 2, 1) := by decide +kernel
theorem dX0_paintRing_44 : decode cX0_paintRing 44 = .ok (.iconst 0, 1) := by decide +kernel
theorem dX0_paintRing_45 : decode cX0_paintRing 45 = .ok (.istore 5, 2) := by decide +kernel
theorem dX0_paintRing_47 : decode cX0_paintRing 47 = .ok (.iload 5, 2) := by decide +kernel
theorem dX0_paintRing_49 : decode cX0_paintRing 49 = .ok (.aload_n 0, 1) := by decide +kernel
theorem dX0_paintRing_50 : decode cX0_paintRing 50 = .ok (.getfield 24, 3) := by decide +kernel
theorem dX0_paintRing_53 : decode cX0_paintRing 53 = .ok (.if_icmp .ge 44, 3) := by decide +kernel
theorem dX0_paintRing_56 : decode cX0_paintRing 56 = .ok (.iload 5, 2) := by decide +kernel
theorem dX0_paintRing_58 : decode cX0_paintRing 58 = .ok (.iload_n 3, 1) := by decide +kernel
theorem dX0_paintRing_59 : decode cX0_paintRing 59 = .ok (.iadd, 1) := by decide +kernel
theorem dX0_paintRing_60 : decode cX0_paintRing 60 = .ok (.istore 6, 2) := by decide +kernel
theorem dX0_paintRing_62 : decode cX0_paintRing 62 = .ok (.aload_n 0, 1) := by decide +kernel
theorem dX0_paintRing_63 : decode cX0_paintRing 63 = .ok (.iload 5, 2) := by decide +kernel
theorem dX0_paintRing_65 : decode cX0_paintRing 65 = .ok (.iload 6, 2) := by decide +kernel
theorem dX0_paintRing_67 : decode cX0_paintRing 67 = .ok (.aload_n 0, 1) := by decide +kernel
theorem dX0_paintRing_68 : decode cX0_paintRing 68 = .ok (.getfield 24, 3) := by decide +kernel
theorem dX0_paintRing_71 : decode cX0_paintRing 71 = .ok (.if_icmp .ge 8, 3) := by decide +kernel
theorem dX0_paintRing_74 : decode cX0_paintRing 74 = .ok (.iload 6, 2) := by decide +kernel
theorem dX0_paintRing_76 : decode cX0_paintRing 76 = .ok (.goto 10, 3) := by decide +kernel
theorem dX0_paintRing_79 : decode cX0_paintRing 79 = .ok (.iload 6, 2) := by decide +kernel
theorem dX0_paintRing_81 : decode cX0_paintRing 81 = .ok (.aload_n 0, 1) := by decide +kernel
theorem dX0_paintRing_82 : decode cX0_paintRing 82 = .ok (.getfield 24, 3) := by decide +kernel
theorem dX0_paintRing_85 : decode cX0_paintRing 85 = .ok (.isub, 1) := by decide +kernel
theorem dX0_paintRing_86 : decode cX0_paintRing 86 = .ok (.iload 4, 2) := by decide +kernel
theorem dX0_paintRing_88 : decode cX0_paintRing 88 = .ok (.invokevirtual 34, 3) := by decide +kernel
theorem dX0_paintRing_91 : decode cX0_paintRing 91 = .ok (.iinc 5 1, 3) := by decide +kernel
theorem dX0_paintRing_94 : decode cX0_paintRing 94 = .ok (.goto (-47), 3) := by decide +kernel
theorem dX0_paintRing_97 : decode cX0_paintRing 97 = .ok (.iinc 3 1, 3) := by decide +kernel
theorem dX0_paintRing_100 : decode cX0_paintRing 100 = .ok (.goto (-73), 3) := by decide +kernel
theorem dX0_paintRing_103 : decode cX0_paintRing 103 = .ok (.aload_n 0, 1) := by decide +kernel
theorem dX0_paintRing_104 : decode cX0_paintRing 104 = .ok (.invokevirtual 38, 3) := by decide +kernel
theorem dX0_paintRing_107 : decode cX0_paintRing 107 = .ok (.return_, 1) := by decide +kernel
theorem dX0_paintFused_0 : decode cX0_paintFused 0 = .ok (.aload_n 0, 1) := by decide +kernel
theorem dX0_paintFused_1 : decode cX0_paintFused 1 = .ok (.aload_n 1, 1) := by decide +kernel
theorem dX0_paintFused_2 : decode cX0_paintFused 2 = .ok (.getfield 24, 3) := by decide +kernel
theorem dX0_paintFused_5 : decode cX0_paintFused 5 = .ok (.putfield 24, 3) := by decide +kernel
theorem dX0_paintFused_8 : decode cX0_paintFused 8 = .ok (.iconst 0, 1) := by decide +kernel
theorem dX0_paintFused_9 : decode cX0_paintFused 9 = .ok (.istore_n 3, 1) := by decide +kernel
theorem dX0_paintFused_10 : decode cX0_paintFused 10 = .ok (.iload_n 3, 1) := by decide +kernel
theorem dX0_paintFused_11 : decode cX0_paintFused 11 = .ok (.aload_n 0, 1) := by decide +kernel
theorem dX0_paintFused_12 : decode cX0_paintFused 12 = .ok (.getfield 24, 3) := by decide +kernel
theorem dX0_paintFused_15 : decode cX0_paintFused 15 = .ok (.if_icmp .ge 45, 3) := by decide +kernel
theorem dX0_paintFused_18 : decode cX0_paintFused 18 = .ok (.iconst 0, 1) := by decide +kernel
theorem dX0_paintFused_19 : decode cX0_paintFused 19 = .ok (.istore 4, 2) := by decide +kernel
theorem dX0_paintFused_21 : decode cX0_paintFused 21 = .ok (.iload 4, 2) := by decide +kernel
theorem dX0_paintFused_23 : decode cX0_paintFused 23 = .ok (.aload_n 0, 1) := by decide +kernel
theorem dX0_paintFused_24 : decode cX0_paintFused 24 = .ok (.getfield 24, 3) := by decide +kernel
theorem dX0_paintFused_27 : decode cX0_paintFused 27 = .ok (.if_icmp .ge 27, 3) := by decide +kernel
theorem dX0_paintFused_30 : decode cX0_paintFused 30 = .ok (.aload_n 0, 1) := by decide +kernel
theorem dX0_paintFused_31 : decode cX0_paintFused 31 = .ok (.iload_n 3, 1) := by decide +kernel
theorem dX0_paintFused_32 : decode cX0_paintFused 32 = .ok (.iload 4, 2) := by decide +kernel
theorem dX0_paintFused_34 : decode cX0_paintFused 34 = .ok (.iload_n 2, 1) := by decide +kernel
theorem dX0_paintFused_35 : decode cX0_paintFused 35 = .ok (.aload_n 1, 1) := by decide +kernel
theorem dX0_paintFused_36 : decode cX0_paintFused 36 = .ok (.iload_n 3, 1) := by decide +kernel
theorem dX0_paintFused_37 : decode cX0_paintFused 37 = .ok (.iload 4, 2) := by decide +kernel
theorem dX0_paintFused_39 : decode cX0_paintFused 39 = .ok (.invokevirtual 41, 3) := by decide +kernel
theorem dX0_paintFused_42 : decode cX0_paintFused 42 = .ok (.invokestatic 45, 3) := by decide +kernel
theorem dX0_paintFused_45 : decode cX0_paintFused 45 = .ok (.invokevirtual 34, 3) := by decide +kernel
theorem dX0_paintFused_48 : decode cX0_paintFused 48 = .ok (.iinc 4 1, 3) := by decide +kernel
theorem dX0_paintFused_51 : decode cX0_paintFused 51 = .ok (.goto (-30), 3) := by decide +kernel
theorem dX0_paintFused_54 : decode cX0_paintFused 54 = .ok (.iinc 3 1, 3) := by decide +kernel
theorem dX0_paintFused_57 : decode cX0_paintFused 57 = .ok (.goto (-47), 3) := by decide +kernel
theorem dX0_paintFused_60 : decode cX0_paintFused 60 = .ok (.aload_n 0, 1) := by decide +kernel
theorem dX0_paintFused_61 : decode cX0_paintFused 61 = .ok (.invokevirtual 38, 3) := by decide +kernel
theorem dX0_paintFused_64 : decode cX0_paintFused 64 = .ok (.return_, 1) := by decide +kernel
theorem dX0_fusedColour_0 : decode cX0_fusedColour 0 = .ok (.iload_n 1, 1) := by decide +kernel
theorem dX0_fusedColour_1 : decode cX0_fusedColour 1 = .ok (.ifCond .ne 5, 3) := by decide +kernel
theorem dX0_fusedColour_4 : decode cX0_fusedColour 4 = .ok (.iconst 0, 1) := by decide +kernel
theorem dX0_fusedColour_5 : decode cX0_fusedColour 5 = .ok (.ireturn, 1) := by decide +kernel
theorem dX0_fusedColour_6 : decode cX0_fusedColour 6 = .ok (.iload_n 0, 1) := by decide +kernel
theorem dX0_fusedColour_7 : decode cX0_fusedColour 7 = .ok (.istore_n 2, 1) := by decide +kernel
theorem dX0_fusedColour_8 : decode cX0_fusedColour 8 = .ok (.iconst 1, 1) := by decide +kernel
theorem dX0_fusedColour_9 : decode cX0_fusedColour 9 = .ok (.istore_n 3, 1) := by decide +kernel
theorem dX0_fusedColour_10 : decode cX0_fusedColour 10 = .ok (.iload_n 3, 1) := by decide +kernel
theorem dX0_fusedColour_11 : decode cX0_fusedColour 11 = .ok (.iload_n 1, 1) := by decide +kernel
theorem dX0_fusedColour_12 : decode cX0_fusedColour 12 = .ok (.if_icmp .ge 13, 3) := by decide +kernel
theorem dX0_fusedColour_15 : decode cX0_fusedColour 15 = .ok (.iload_n 2, 1) := by decide +kernel
theorem dX0_fusedColour_16 : decode cX0_fusedColour 16 = .ok (.iconst 5, 1) := by decide +kernel
theorem dX0_fusedColour_17 : decode cX0_fusedColour 17 = .ok (.idiv, 1) := by decide +kernel
theorem dX0_fusedColour_18 : decode cX0_fusedColour 18 = .ok (.istore_n 2, 1) := by decide +kernel
theorem dX0_fusedColour_19 : decode cX0_fusedColour 19 = .ok (.iinc 3 1, 3) := by decide +kernel
theorem dX0_fusedColour_22 : decode cX0_fusedColour 22 = .ok (.goto (-12), 3) := by decide +kernel
theorem dX0_fusedColour_25 : decode cX0_fusedColour 25 = .ok (.iload_n 2, 1) := by decide +kernel
theorem dX0_fusedColour_26 : decode cX0_fusedColour 26 = .ok (.iconst 5, 1) := by decide +kernel
theorem dX0_fusedColour_27 : decode cX0_fusedColour 27 = .ok (.irem, 1) := by decide +kernel
theorem dX0_fusedColour_28 : decode cX0_fusedColour 28 = .ok (.ireturn, 1) := by decide +kernel
theorem dX0_measure_0 : decode cX0_measure 0 = .ok (.aload_n 0, 1) := by decide +kernel
theorem dX0_measure_1 : decode cX0_measure 1 = .ok (.invokevirtual 48, 3) := by decide +kernel
theorem dX0_measure_4 : decode cX0_measure 4 = .ok (.aload_n 0, 1) := by decide +kernel
theorem dX0_measure_5 : decode cX0_measure 5 = .ok (.aload_n 0, 1) := by decide +kernel
theorem dX0_measure_6 : decode cX0_measure 6 = .ok (.invokevirtual 51, 3) := by decide +kernel
theorem dX0_measure_9 : decode cX0_measure 9 = .ok (.putfield 31, 3) := by decide +kernel
theorem dX0_measure_12 : decode cX0_measure 12 = .ok (.return_, 1) := by decide +kernel
theorem dX0_findFirsts_0 : decode cX0_findFirsts 0 = .ok (.iconst 0, 1) := by decide +kernel
theorem dX0_findFirsts_1 : decode cX0_findFirsts 1 = .ok (.istore_n 1, 1) := by decide +kernel
theorem dX0_findFirsts_2 : decode cX0_findFirsts 2 = .ok (.iload_n 1, 1) := by decide +kernel
theorem dX0_findFirsts_3 : decode cX0_findFirsts 3 = .ok (.iconst 5, 1) := by decide +kernel
theorem dX0_findFirsts_4 : decode cX0_findFirsts 4 = .ok (.if_icmp .ge 16, 3) := by decide +kernel
theorem dX0_findFirsts_7 : decode cX0_findFirsts 7 = .ok (.aload_n 0, 1) := by decide +kernel
theorem dX0_findFirsts_8 : decode cX0_findFirsts 8 = .ok (.getfield 15, 3) := by decide +kernel
theorem dX0_findFirsts_11 : decode cX0_findFirsts 11 = .ok (.iload_n 1, 1) := by decide +kernel
theorem dX0_findFirsts_12 : decode cX0_findFirsts 12 = .ok (.iconst (-1), 1) := by decide +kernel
theorem dX0_findFirsts_13 : decode cX0_findFirsts 13 = .ok (.iastore, 1) := by decide +kernel
theorem dX0_findFirsts_14 : decode cX0_findFirsts 14 = .ok (.iinc 1 1, 3) := by decide +kernel
theorem dX0_findFirsts_17 : decode cX0_findFirsts 17 = .ok (.goto (-15), 3) := by decide +kernel
theorem dX0_findFirsts_20 : decode cX0_findFirsts 20 = .ok (.aload_n 0, 1) := by decide +kernel
theorem dX0_findFirsts_21 : decode cX0_findFirsts 21 = .ok (.iconst 1, 1) := by decide +kernel
theorem dX0_findFirsts_22 : decode cX0_findFirsts 22 = .ok (.putfield 28, 3) := by decide +kernel
theorem dX0_findFirsts_25 : decode cX0_findFirsts 25 = .ok (.iconst 0, 1) := by decide +kernel
theorem dX0_findFirsts_26 : decode cX0_findFirsts 26 = .ok (.istore_n 1, 1) := by decide +kernel
theorem dX0_findFirsts_27 : decode cX0_findFirsts 27 = .ok (.iload_n 1, 1) := by decide +kernel
theorem dX0_findFirsts_28 : decode cX0_findFirsts 28 = .ok (.aload_n 0, 1) := by decide +kernel
theorem dX0_findFirsts_29 : decode cX0_findFirsts 29 = .ok (.getfield 24, 3) := by decide +kernel
theorem dX0_findFirsts_32 : decode cX0_findFirsts 32 = .ok (.if_icmp .ge 68, 3) := by decide +kernel
theorem dX0_findFirsts_35 : decode cX0_findFirsts 35 = .ok (.iconst 0, 1) := by decide +kernel
theorem dX0_findFirsts_36 : decode cX0_findFirsts 36 = .ok (.istore_n 2, 1) := by decide +kernel
theorem dX0_findFirsts_37 : decode cX0_findFirsts 37 = .ok (.iload_n 2, 1) := by decide +kernel
theorem dX0_findFirsts_38 : decode cX0_findFirsts 38 = .ok (.aload_n 0, 1) := by decide +kernel
theorem dX0_findFirsts_39 : decode cX0_findFirsts 39 = .ok (.getfield 24, 3) := by decide +kernel
theorem dX0_findFirsts_42 : decode cX0_findFirsts 42 = .ok (.if_icmp .ge 52, 3) := by decide +kernel
theorem dX0_findFirsts_45 : decode cX0_findFirsts 45 = .ok (.aload_n 0, 1) := by decide +kernel
theorem dX0_findFirsts_46 : decode cX0_findFirsts 46 = .ok (.iload_n 1, 1) := by decide +kernel
theorem dX0_findFirsts_47 : decode cX0_findFirsts 47 = .ok (.iload_n 2, 1) := by decide +kernel
theorem dX0_findFirsts_48 : decode cX0_findFirsts 48 = .ok (.invokevirtual 41, 3) := by decide +kernel
theorem dX0_findFirsts_51 : decode cX0_findFirsts 51 = .ok (.istore_n 3, 1) := by decide +kernel
theorem dX0_findFirsts_52 : decode cX0_findFirsts 52 = .ok (.aload_n 0, 1) := by decide +kernel
theorem dX0_findFirsts_53 : decode cX0_findFirsts 53 = .ok (.getfield 15, 3) := by decide +kernel
theorem dX0_findFirsts_56 : decode cX0_findFirsts 56 = .ok (.iload_n 3, 1) := by decide +kernel
theorem dX0_findFirsts_57 : decode cX0_findFirsts 57 = .ok (.iaload, 1) := by decide +kernel
theorem dX0_findFirsts_58 : decode cX0_findFirsts 58 = .ok (.iconst (-1), 1) := by decide +kernel
theorem dX0_findFirsts_59 : decode cX0_findFirsts 59 = .ok (.if_icmp .ne 15, 3) := by decide +kernel
theorem dX0_findFirsts_62 : decode cX0_findFirsts 62 = .ok (.aload_n 0, 1) := by decide +kernel
theorem dX0_findFirsts_63 : decode cX0_findFirsts 63 = .ok (.getfield 15, 3) := by decide +kernel
theorem dX0_findFirsts_66 : decode cX0_findFirsts 66 = .ok (.iload_n 3, 1) := by decide +kernel
theorem dX0_findFirsts_67 : decode cX0_findFirsts 67 = .ok (.iload_n 1, 1) := by decide +kernel
theorem dX0_findFirsts_68 : decode cX0_findFirsts 68 = .ok (.bipush 8, 2) := by decide +kernel
theorem dX0_findFirsts_70 : decode cX0_findFirsts 70 = .ok (.imul, 1) := by decide +kernel
theorem dX0_findFirsts_71 : decode cX0_findFirsts 71 = .ok (.iload_n 2, 1) := by decide +kernel
theorem dX0_findFirsts_72 : decode cX0_findFirsts 72 = .ok (.iadd, 1) := by decide +kernel
theorem dX0_findFirsts_73 : decode cX0_findFirsts 73 = .ok (.iastore, 1) := by decide +kernel
theorem dX0_findFirsts_74 : decode cX0_findFirsts 74 = .ok (.aload_n 0, 1) := by decide +kernel
theorem dX0_findFirsts_75 : decode cX0_findFirsts 75 = .ok (.aload_n 0, 1) := by decide +kernel
theorem dX0_findFirsts_76 : decode cX0_findFirsts 76 = .ok (.getfield 28, 3) := by decide +kernel
theorem dX0_findFirsts_79 : decode cX0_findFirsts 79 = .ok (.iload_n 3, 1) := by decide +kernel
theorem dX0_findFirsts_80 : decode cX0_findFirsts 80 = .ok (.iconst 1, 1) := by decide +kernel
theorem dX0_findFirsts_81 : decode cX0_findFirsts 81 = .ok (.iadd, 1) := by decide +kernel
theorem dX0_findFirsts_82 : decode cX0_findFirsts 82 = .ok (.invokestatic 55, 3) := by decide +kernel
theorem dX0_findFirsts_85 : decode cX0_findFirsts 85 = .ok (.putfield 28, 3) := by decide +kernel
theorem dX0_findFirsts_88 : decode cX0_findFirsts 88 = .ok (.iinc 2 1, 3) := by decide +kernel
theorem dX0_findFirsts_91 : decode cX0_findFirsts 91 = .ok (.goto (-54), 3) := by decide +kernel
theorem dX0_findFirsts_94 : decode cX0_findFirsts 94 = .ok (.iinc 1 1, 3) := by decide +kernel
theorem dX0_findFirsts_97 : decode cX0_findFirsts 97 = .ok (.goto (-70), 3) := by decide +kernel
theorem dX0_findFirsts_100 : decode cX0_findFirsts 100 = .ok (.return_, 1) := by decide +kernel
theorem dX0_firstFailure_0 : decode cX0_firstFailure 0 = .ok (.aload_n 0, 1) := by decide +kernel
theorem dX0_firstFailure_1 : decode cX0_firstFailure 1 = .ok (.invokevirtual 60, 3) := by decide +kernel
theorem dX0_firstFailure_4 : decode cX0_firstFailure 4 = .ok (.istore_n 1, 1) := by decide +kernel
theorem dX0_firstFailure_5 : decode cX0_firstFailure 5 = .ok (.iload_n 1, 1) := by decide +kernel
theorem dX0_firstFailure_6 : decode cX0_firstFailure 6 = .ok (.ifCond .ne 8, 3) := by decide +kernel
theorem dX0_firstFailure_9 : decode cX0_firstFailure 9 = .ok (.aload_n 0, 1) := by decide +kernel
theorem dX0_firstFailure_10 : decode cX0_firstFailure 10 = .ok (.invokevirtual 63, 3) := by decide +kernel
theorem dX0_firstFailure_13 : decode cX0_firstFailure 13 = .ok (.istore_n 1, 1) := by decide +kernel
theorem dX0_firstFailure_14 : decode cX0_firstFailure 14 = .ok (.iload_n 1, 1) := by decide +kernel
theorem dX0_firstFailure_15 : decode cX0_firstFailure 15 = .ok (.ifCond .ne 8, 3) := by decide +kernel
theorem dX0_firstFailure_18 : decode cX0_firstFailure 18 = .ok (.aload_n 0, 1) := by decide +kernel
theorem dX0_firstFailure_19 : decode cX0_firstFailure 19 = .ok (.invokevirtual 66, 3) := by decide +kernel
theorem dX0_firstFailure_22 : decode cX0_firstFailure 22 = .ok (.istore_n 1, 1) := by decide +kernel
theorem dX0_firstFailure_23 : decode cX0_firstFailure 23 = .ok (.iload_n 1, 1) := by decide +kernel
theorem dX0_firstFailure_24 : decode cX0_firstFailure 24 = .ok (.ifCond .ne 8, 3) := by decide +kernel
theorem dX0_firstFailure_27 : decode cX0_firstFailure 27 = .ok (.aload_n 0, 1) := by decide +kernel
theorem dX0_firstFailure_28 : decode cX0_firstFailure 28 = .ok (.invokevirtual 69, 3) := by decide +kernel
theorem dX0_firstFailure_31 : decode cX0_firstFailure 31 = .ok (.istore_n 1, 1) := by decide +kernel
theorem dX0_firstFailure_32 : decode cX0_firstFailure 32 = .ok (.iload_n 1, 1) := by decide +kernel
theorem dX0_firstFailure_33 : decode cX0_firstFailure 33 = .ok (.ireturn, 1) := by decide +kernel
theorem dX0_failureAt_0 : decode cX0_failureAt 0 = .ok (.bipush 100, 2) := by decide +kernel
theorem dX0_failureAt_2 : decode cX0_failureAt 2 = .ok (.iload_n 0, 1) := by decide +kernel
theorem dX0_failureAt_3 : decode cX0_failureAt 3 = .ok (.imul, 1) := by decide +kernel
theorem dX0_failureAt_4 : decode cX0_failureAt 4 = .ok (.bipush 10, 2) := by decide +kernel
theorem dX0_failureAt_6 : decode cX0_failureAt 6 = .ok (.iload_n 1, 1) := by decide +kernel
theorem dX0_failureAt_7 : decode cX0_failureAt 7 = .ok (.imul, 1) := by decide +kernel
theorem dX0_failureAt_8 : decode cX0_failureAt 8 = .ok (.iadd, 1) := by decide +kernel
theorem dX0_failureAt_9 : decode cX0_failureAt 9 = .ok (.iload_n 2, 1) := by decide +kernel
theorem dX0_failureAt_10 : decode cX0_failureAt 10 = .ok (.iadd, 1) := by decide +kernel
theorem dX0_failureAt_11 : decode cX0_failureAt 11 = .ok (.ireturn, 1) := by decide +kernel
theorem dX0_misplacedZero_0 : decode cX0_misplacedZero 0 = .ok (.iconst 0, 1) := by decide +kernel
theorem dX0_misplacedZero_1 : decode cX0_misplacedZero 1 = .ok (.istore_n 1, 1) := by decide +kernel
theorem dX0_misplacedZero_2 : decode cX0_misplacedZero 2 = .ok (.iload_n 1, 1) := by decide +kernel
theorem dX0_misplacedZero_3 : decode cX0_misplacedZero 3 = .ok (.aload_n 0, 1) := by decide +kernel
theorem dX0_misplacedZero_4 : decode cX0_misplacedZero 4 = .ok (.getfield 24, 3) := by decide +kernel
theorem dX0_misplacedZero_7 : decode cX0_misplacedZero 7 = .ok (.if_icmp .ge 59, 3) := by decide +kernel
theorem dX0_misplacedZero_10 : decode cX0_misplacedZero 10 = .ok (.iconst 0, 1) := by decide +kernel
theorem dX0_misplacedZero_11 : decode cX0_misplacedZero 11 = .ok (.istore_n 2, 1) := by decide +kernel
theorem dX0_misplacedZero_12 : decode cX0_misplacedZero 12 = .ok (.iload_n 2, 1) := by decide +kernel
theorem dX0_misplacedZero_13 : decode cX0_misplacedZero 13 = .ok (.aload_n 0, 1) := by decide +kernel
theorem dX0_misplacedZero_14 : decode cX0_misplacedZero 14 = .ok (.getfield 24, 3) := by decide +kernel
theorem dX0_misplacedZero_17 : decode cX0_misplacedZero 17 = .ok (.if_icmp .ge 43, 3) := by decide +kernel
theorem dX0_misplacedZero_20 : decode cX0_misplacedZero 20 = .ok (.aload_n 0, 1) := by decide +kernel
theorem dX0_misplacedZero_21 : decode cX0_misplacedZero 21 = .ok (.iload_n 1, 1) := by decide +kernel
theorem dX0_misplacedZero_22 : decode cX0_misplacedZero 22 = .ok (.iload_n 2, 1) := by decide +kernel
theorem dX0_misplacedZero_23 : decode cX0_misplacedZero 23 = .ok (.invokevirtual 41, 3) := by decide +kernel
theorem dX0_misplacedZero_26 : decode cX0_misplacedZero 26 = .ok (.ifCond .ne 7, 3) := by decide +kernel
theorem dX0_misplacedZero_29 : decode cX0_misplacedZero 29 = .ok (.iconst 1, 1) := by decide +kernel
theorem dX0_misplacedZero_30 : decode cX0_misplacedZero 30 = .ok (.goto 4, 3) := by decide +kernel
theorem dX0_misplacedZero_33 : decode cX0_misplacedZero 33 = .ok (.iconst 0, 1) := by decide +kernel
theorem dX0_misplacedZero_34 : decode cX0_misplacedZero 34 = .ok (.iload_n 1, 1) := by decide +kernel
theorem dX0_misplacedZero_35 : decode cX0_misplacedZero 35 = .ok (.iload_n 2, 1) := by decide +kernel
theorem dX0_misplacedZero_36 : decode cX0_misplacedZero 36 = .ok (.if_icmp .ne 7, 3) := by decide +kernel
theorem dX0_misplacedZero_39 : decode cX0_misplacedZero 39 = .ok (.iconst 1, 1) := by decide +kernel
theorem dX0_misplacedZero_40 : decode cX0_misplacedZero 40 = .ok (.goto 4, 3) := by decide +kernel
theorem dX0_misplacedZero_43 : decode cX0_misplacedZero 43 = .ok (.iconst 0, 1) := by decide +kernel
theorem dX0_misplacedZero_44 : decode cX0_misplacedZero 44 = .ok (.if_icmp .eq 10, 3) := by decide +kernel
theorem dX0_misplacedZero_47 : decode cX0_misplacedZero 47 = .ok (.iconst 1, 1) := by decide +kernel
theorem dX0_misplacedZero_48 : decode cX0_misplacedZero 48 = .ok (.iload_n 1, 1) := by decide +kernel
theorem dX0_misplacedZero_49 : decode cX0_misplacedZero 49 = .ok (.iload_n 2, 1) := by decide +kernel
theorem dX0_misplacedZero_50 : decode cX0_misplacedZero 50 = .ok (.invokestatic 72, 3) := by decide +kernel
theorem dX0_misplacedZero_53 : decode cX0_misplacedZero 53 = .ok (.ireturn, 1) := by decide +kernel
theorem dX0_misplacedZero_54 : decode cX0_misplacedZero 54 = .ok (.iinc 2 1, 3) := by decide +kernel
theorem dX0_misplacedZero_57 : decode cX0_misplacedZero 57 = .ok (.goto (-45), 3) := by decide +kernel
theorem dX0_misplacedZero_60 : decode cX0_misplacedZero 60 = .ok (.iinc 1 1, 3) := by decide +kernel
theorem dX0_misplacedZero_63 : decode cX0_misplacedZero 63 = .ok (.goto (-61), 3) := by decide +kernel
theorem dX0_misplacedZero_66 : decode cX0_misplacedZero 66 = .ok (.iconst 0, 1) := by decide +kernel
theorem dX0_misplacedZero_67 : decode cX0_misplacedZero 67 = .ok (.ireturn, 1) := by decide +kernel
theorem dX0_missingColour_0 : decode cX0_missingColour 0 = .ok (.iconst 0, 1) := by decide +kernel
theorem dX0_missingColour_1 : decode cX0_missingColour 1 = .ok (.istore_n 1, 1) := by decide +kernel
theorem dX0_missingColour_2 : decode cX0_missingColour 2 = .ok (.iload_n 1, 1) := by decide +kernel
theorem dX0_missingColour_3 : decode cX0_missingColour 3 = .ok (.aload_n 0, 1) := by decide +kernel
theorem dX0_missingColour_4 : decode cX0_missingColour 4 = .ok (.getfield 28, 3) := by decide +kernel
theorem dX0_missingColour_7 : decode cX0_missingColour 7 = .ok (.if_icmp .ge 26, 3) := by decide +kernel
theorem dX0_missingColour_10 : decode cX0_missingColour 10 = .ok (.aload_n 0, 1) := by decide +kernel
theorem dX0_missingColour_11 : decode cX0_missingColour 11 = .ok (.getfield 15, 3) := by decide +kernel
theorem dX0_missingColour_14 : decode cX0_missingColour 14 = .ok (.iload_n 1, 1) := by decide +kernel
theorem dX0_missingColour_15 : decode cX0_missingColour 15 = .ok (.iaload, 1) := by decide +kernel
theorem dX0_missingColour_16 : decode cX0_missingColour 16 = .ok (.iconst (-1), 1) := by decide +kernel
theorem dX0_missingColour_17 : decode cX0_missingColour 17 = .ok (.if_icmp .ne 10, 3) := by decide +kernel
theorem dX0_missingColour_20 : decode cX0_missingColour 20 = .ok (.iconst 2, 1) := by decide +kernel
theorem dX0_missingColour_21 : decode cX0_missingColour 21 = .ok (.iconst 0, 1) := by decide +kernel
theorem dX0_missingColour_22 : decode cX0_missingColour 22 = .ok (.iconst 0, 1) := by decide +kernel
theorem dX0_missingColour_23 : decode cX0_missingColour 23 = .ok (.invokestatic 72, 3) := by decide +kernel
theorem dX0_missingColour_26 : decode cX0_missingColour 26 = .ok (.ireturn, 1) := by decide +kernel
theorem dX0_missingColour_27 : decode cX0_missingColour 27 = .ok (.iinc 1 1, 3) := by decide +kernel
theorem dX0_missingColour_30 : decode cX0_missingColour 30 = .ok (.goto (-28), 3) := by decide +kernel
theorem dX0_missingColour_33 : decode cX0_missingColour 33 = .ok (.iconst 0, 1) := by decide +kernel
theorem dX0_missingColour_34 : decode cX0_missingColour 34 = .ok (.ireturn, 1) := by decide +kernel
theorem dX0_wrongReversal_0 : decode cX0_wrongReversal 0 = .ok (.iconst 0, 1) := by decide +kernel
theorem dX0_wrongReversal_1 : decode cX0_wrongReversal 1 = .ok (.istore_n 1, 1) := by decide +kernel
theorem dX0_wrongReversal_2 : decode cX0_wrongReversal 2 = .ok (.iload_n 1, 1) := by decide +kernel
theorem dX0_wrongReversal_3 : decode cX0_wrongReversal 3 = .ok (.aload_n 0, 1) := by decide +kernel
theorem dX0_wrongReversal_4 : decode cX0_wrongReversal 4 = .ok (.getfield 24, 3) := by decide +kernel
theorem dX0_wrongReversal_7 : decode cX0_wrongReversal 7 = .ok (.if_icmp .ge 51, 3) := by decide +kernel
theorem dX0_wrongReversal_10 : decode cX0_wrongReversal 10 = .ok (.iconst 0, 1) := by decide +kernel
theorem dX0_wrongReversal_11 : decode cX0_wrongReversal 11 = .ok (.istore_n 2, 1) := by decide +kernel
theorem dX0_wrongReversal_12 : decode cX0_wrongReversal 12 = .ok (.iload_n 2, 1) := by decide +kernel
theorem dX0_wrongReversal_13 : decode cX0_wrongReversal 13 = .ok (.aload_n 0, 1) := by decide +kernel
theorem dX0_wrongReversal_14 : decode cX0_wrongReversal 14 = .ok (.getfield 24, 3) := by decide +kernel
theorem dX0_wrongReversal_17 : decode cX0_wrongReversal 17 = .ok (.if_icmp .ge 35, 3) := by decide +kernel
theorem dX0_wrongReversal_20 : decode cX0_wrongReversal 20 = .ok (.aload_n 0, 1) := by decide +kernel
theorem dX0_wrongReversal_21 : decode cX0_wrongReversal 21 = .ok (.iload_n 2, 1) := by decide +kernel
theorem dX0_wrongReversal_22 : decode cX0_wrongReversal 22 = .ok (.iload_n 1, 1) := by decide +kernel
theorem dX0_wrongReversal_23 : decode cX0_wrongReversal 23 = .ok (.invokevirtual 41, 3) := by decide +kernel
theorem dX0_wrongReversal_26 : decode cX0_wrongReversal 26 = .ok (.aload_n 0, 1) := by decide +kernel
theorem dX0_wrongReversal_27 : decode cX0_wrongReversal 27 = .ok (.aload_n 0, 1) := by decide +kernel
theorem dX0_wrongReversal_28 : decode cX0_wrongReversal 28 = .ok (.iload_n 1, 1) := by decide +kernel
theorem dX0_wrongReversal_29 : decode cX0_wrongReversal 29 = .ok (.iload_n 2, 1) := by decide +kernel
theorem dX0_wrongReversal_30 : decode cX0_wrongReversal 30 = .ok (.invokevirtual 41, 3) := by decide +kernel
theorem dX0_wrongReversal_33 : decode cX0_wrongReversal 33 = .ok (.invokevirtual 76, 3) := by decide +kernel
theorem dX0_wrongReversal_36 : decode cX0_wrongReversal 36 = .ok (.if_icmp .eq 10, 3) := by decide +kernel
theorem dX0_wrongReversal_39 : decode cX0_wrongReversal 39 = .ok (.iconst 3, 1) := by decide +kernel
theorem dX0_wrongReversal_40 : decode cX0_wrongReversal 40 = .ok (.iload_n 1, 1) := by decide +kernel
theorem dX0_wrongReversal_41 : decode cX0_wrongReversal 41 = .ok (.iload_n 2, 1) := by decide +kernel
theorem dX0_wrongReversal_42 : decode cX0_wrongReversal 42 = .ok (.invokestatic 72, 3) := by decide +kernel
theorem dX0_wrongReversal_45 : decode cX0_wrongReversal 45 = .ok (.ireturn, 1) := by decide +kernel
theorem dX0_wrongReversal_46 : decode cX0_wrongReversal 46 = .ok (.iinc 2 1, 3) := by decide +kernel
theorem dX0_wrongReversal_49 : decode cX0_wrongReversal 49 = .ok (.goto (-37), 3) := by decide +kernel
theorem dX0_wrongReversal_52 : decode cX0_wrongReversal 52 = .ok (.iinc 1 1, 3) := by decide +kernel
theorem dX0_wrongReversal_55 : decode cX0_wrongReversal 55 = .ok (.goto (-53), 3) := by decide +kernel
theorem dX0_wrongReversal_58 : decode cX0_wrongReversal 58 = .ok (.iconst 0, 1) := by decide +kernel
theorem dX0_wrongReversal_59 : decode cX0_wrongReversal 59 = .ok (.ireturn, 1) := by decide +kernel
theorem dX0_wrongCounts_0 : decode cX0_wrongCounts 0 = .ok (.iconst 0, 1) := by decide +kernel
theorem dX0_wrongCounts_1 : decode cX0_wrongCounts 1 = .ok (.istore_n 1, 1) := by decide +kernel
theorem dX0_wrongCounts_2 : decode cX0_wrongCounts 2 = .ok (.iload_n 1, 1) := by decide +kernel
theorem dX0_wrongCounts_3 : decode cX0_wrongCounts 3 = .ok (.aload_n 0, 1) := by decide +kernel
theorem dX0_wrongCounts_4 : decode cX0_wrongCounts 4 = .ok (.getfield 24, 3) := by decide +kernel
theorem dX0_wrongCounts_7 : decode cX0_wrongCounts 7 = .ok (.if_icmp .ge 76, 3) := by decide +kernel
theorem dX0_wrongCounts_10 : decode cX0_wrongCounts 10 = .ok (.iconst 0, 1) := by decide +kernel
theorem dX0_wrongCounts_11 : decode cX0_wrongCounts 11 = .ok (.istore_n 2, 1) := by decide +kernel
theorem dX0_wrongCounts_12 : decode cX0_wrongCounts 12 = .ok (.iload_n 2, 1) := by decide +kernel
theorem dX0_wrongCounts_13 : decode cX0_wrongCounts 13 = .ok (.aload_n 0, 1) := by decide +kernel
theorem dX0_wrongCounts_14 : decode cX0_wrongCounts 14 = .ok (.getfield 24, 3) := by decide +kernel
theorem dX0_wrongCounts_17 : decode cX0_wrongCounts 17 = .ok (.if_icmp .ge 60, 3) := by decide +kernel
theorem dX0_wrongCounts_20 : decode cX0_wrongCounts 20 = .ok (.aload_n 0, 1) := by decide +kernel
theorem dX0_wrongCounts_21 : decode cX0_wrongCounts 21 = .ok (.iload_n 1, 1) := by decide +kernel
theorem dX0_wrongCounts_22 : decode cX0_wrongCounts 22 = .ok (.iload_n 2, 1) := by decide +kernel
theorem dX0_wrongCounts_23 : decode cX0_wrongCounts 23 = .ok (.invokevirtual 41, 3) := by decide +kernel
theorem dX0_wrongCounts_26 : decode cX0_wrongCounts 26 = .ok (.istore_n 3, 1) := by decide +kernel
theorem dX0_wrongCounts_27 : decode cX0_wrongCounts 27 = .ok (.aload_n 0, 1) := by decide +kernel
theorem dX0_wrongCounts_28 : decode cX0_wrongCounts 28 = .ok (.iload_n 1, 1) := by decide +kernel
theorem dX0_wrongCounts_29 : decode cX0_wrongCounts 29 = .ok (.iload_n 2, 1) := by decide +kernel
theorem dX0_wrongCounts_30 : decode cX0_wrongCounts 30 = .ok (.invokevirtual 80, 3) := by decide +kernel
theorem dX0_wrongCounts_33 : decode cX0_wrongCounts 33 = .ok (.aload_n 0, 1) := by decide +kernel
theorem dX0_wrongCounts_34 : decode cX0_wrongCounts 34 = .ok (.getfield 15, 3) := by decide +kernel
theorem dX0_wrongCounts_37 : decode cX0_wrongCounts 37 = .ok (.iload_n 3, 1) := by decide +kernel
theorem dX0_wrongCounts_38 : decode cX0_wrongCounts 38 = .ok (.iaload, 1) := by decide +kernel
theorem dX0_wrongCounts_39 : decode cX0_wrongCounts 39 = .ok (.iload_n 1, 1) := by decide +kernel
theorem dX0_wrongCounts_40 : decode cX0_wrongCounts 40 = .ok (.bipush 8, 2) := by decide +kernel
theorem dX0_wrongCounts_42 : decode cX0_wrongCounts 42 = .ok (.imul, 1) := by decide +kernel
theorem dX0_wrongCounts_43 : decode cX0_wrongCounts 43 = .ok (.iload_n 2, 1) := by decide +kernel
theorem dX0_wrongCounts_44 : decode cX0_wrongCounts 44 = .ok (.iadd, 1) := by decide +kernel
theorem dX0_wrongCounts_45 : decode cX0_wrongCounts 45 = .ok (.if_icmp .ne 11, 3) := by decide +kernel
theorem dX0_wrongCounts_48 : decode cX0_wrongCounts 48 = .ok (.aload_n 0, 1) := by decide +kernel
theorem dX0_wrongCounts_49 : decode cX0_wrongCounts 49 = .ok (.iload_n 3, 1) := by decide +kernel
theorem dX0_wrongCounts_50 : decode cX0_wrongCounts 50 = .ok (.invokevirtual 84, 3) := by decide +kernel
theorem dX0_wrongCounts_53 : decode cX0_wrongCounts 53 = .ok (.goto 18, 3) := by decide +kernel
theorem dX0_wrongCounts_56 : decode cX0_wrongCounts 56 = .ok (.aload_n 0, 1) := by decide +kernel
theorem dX0_wrongCounts_57 : decode cX0_wrongCounts 57 = .ok (.iload_n 3, 1) := by decide +kernel
theorem dX0_wrongCounts_58 : decode cX0_wrongCounts 58 = .ok (.invokevirtual 88, 3) := by decide +kernel
theorem dX0_wrongCounts_61 : decode cX0_wrongCounts 61 = .ok (.ifCond .ne 10, 3) := by decide +kernel
theorem dX0_wrongCounts_64 : decode cX0_wrongCounts 64 = .ok (.iconst 4, 1) := by decide +kernel
theorem dX0_wrongCounts_65 : decode cX0_wrongCounts 65 = .ok (.iload_n 1, 1) := by decide +kernel
theorem dX0_wrongCounts_66 : decode cX0_wrongCounts 66 = .ok (.iload_n 2, 1) := by decide +kernel
theorem dX0_wrongCounts_67 : decode cX0_wrongCounts 67 = .ok (.invokestatic 72, 3) := by decide +kernel
theorem dX0_wrongCounts_70 : decode cX0_wrongCounts 70 = .ok (.ireturn, 1) := by decide +kernel
theorem dX0_wrongCounts_71 : decode cX0_wrongCounts 71 = .ok (.iinc 2 1, 3) := by decide +kernel
theorem dX0_wrongCounts_74 : decode cX0_wrongCounts 74 = .ok (.goto (-62), 3) := by decide +kernel
theorem dX0_wrongCounts_77 : decode cX0_wrongCounts 77 = .ok (.iinc 1 1, 3) := by decide +kernel
theorem dX0_wrongCounts_80 : decode cX0_wrongCounts 80 = .ok (.goto (-78), 3) := by decide +kernel
theorem dX0_wrongCounts_83 : decode cX0_wrongCounts 83 = .ok (.iconst 0, 1) := by decide +kernel
theorem dX0_wrongCounts_84 : decode cX0_wrongCounts 84 = .ok (.ireturn, 1) := by decide +kernel
theorem dX0_countBetween_0 : decode cX0_countBetween 0 = .ok (.iconst 0, 1) := by decide +kernel
theorem dX0_countBetween_1 : decode cX0_countBetween 1 = .ok (.istore_n 3, 1) := by decide +kernel
theorem dX0_countBetween_2 : decode cX0_countBetween 2 = .ok (.iload_n 3, 1) := by decide +kernel
theorem dX0_countBetween_3 : decode cX0_countBetween 3 = .ok (.bipush 25, 2) := by decide +kernel
theorem dX0_countBetween_5 : decode cX0_countBetween 5 = .ok (.if_icmp .ge 16, 3) := by decide +kernel
theorem dX0_countBetween_8 : decode cX0_countBetween 8 = .ok (.aload_n 0, 1) := by decide +kernel
theorem dX0_countBetween_9 : decode cX0_countBetween 9 = .ok (.getfield 21, 3) := by decide +kernel
theorem dX0_countBetween_12 : decode cX0_countBetween 12 = .ok (.iload_n 3, 1) := by decide +kernel
theorem dX0_countBetween_13 : decode cX0_countBetween 13 = .ok (.iconst 0, 1) := by decide +kernel
theorem dX0_countBetween_14 : decode cX0_countBetween 14 = .ok (.iastore, 1) := by decide +kernel
theorem dX0_countBetween_15 : decode cX0_countBetween 15 = .ok (.iinc 3 1, 3) := by decide +kernel
theorem dX0_countBetween_18 : decode cX0_countBetween 18 = .ok (.goto (-16), 3) := by decide +kernel
theorem dX0_countBetween_21 : decode cX0_countBetween 21 = .ok (.iconst 0, 1) := by decide +kernel
theorem dX0_countBetween_22 : decode cX0_countBetween 22 = .ok (.istore_n 3, 1) := by decide +kernel
theorem dX0_countBetween_23 : decode cX0_countBetween 23 = .ok (.iload_n 3, 1) := by decide +kernel
theorem dX0_countBetween_24 : decode cX0_countBetween 24 = .ok (.aload_n 0, 1) := by decide +kernel
theorem dX0_countBetween_25 : decode cX0_countBetween 25 = .ok (.getfield 24, 3) := by decide +kernel
theorem dX0_countBetween_28 : decode cX0_countBetween 28 = .ok (.if_icmp .ge 33, 3) := by decide +kernel
theorem dX0_countBetween_31 : decode cX0_countBetween 31 = .ok (.aload_n 0, 1) := by decide +kernel
theorem dX0_countBetween_32 : decode cX0_countBetween 32 = .ok (.getfield 21, 3) := by decide +kernel
theorem dX0_countBetween_35 : decode cX0_countBetween 35 = .ok (.aload_n 0, 1) := by decide +kernel
theorem dX0_countBetween_36 : decode cX0_countBetween 36 = .ok (.iload_n 1, 1) := by decide +kernel
theorem dX0_countBetween_37 : decode cX0_countBetween 37 = .ok (.iload_n 3, 1) := by decide +kernel
theorem dX0_countBetween_38 : decode cX0_countBetween 38 = .ok (.invokevirtual 41, 3) := by decide +kernel
theorem dX0_countBetween_41 : decode cX0_countBetween 41 = .ok (.iconst 5, 1) := by decide +kernel
theorem dX0_countBetween_42 : decode cX0_countBetween 42 = .ok (.imul, 1) := by decide +kernel
theorem dX0_countBetween_43 : decode cX0_countBetween 43 = .ok (.aload_n 0, 1) := by decide +kernel
theorem dX0_countBetween_44 : decode cX0_countBetween 44 = .ok (.iload_n 3, 1) := by decide +kernel
theorem dX0_countBetween_45 : decode cX0_countBetween 45 = .ok (.iload_n 2, 1) := by decide +kernel
theorem dX0_countBetween_46 : decode cX0_countBetween 46 = .ok (.invokevirtual 41, 3) := by decide +kernel
theorem dX0_countBetween_49 : decode cX0_countBetween 49 = .ok (.iadd, 1) := by decide +kernel
theorem dX0_countBetween_50 : decode cX0_countBetween 50 = .ok (.dup2, 1) := by decide +kernel
theorem dX0_countBetween_51 : decode cX0_countBetween 51 = .ok (.iaload, 1) := by decide +kernel
theorem dX0_countBetween_52 : decode cX0_countBetween 52 = .ok (.iconst 1, 1) := by decide +kernel
theorem dX0_countBetween_53 : decode cX0_countBetween 53 = .ok (.iadd, 1) := by decide +kernel
theorem dX0_countBetween_54 : decode cX0_countBetween 54 = .ok (.iastore, 1) := by decide +kernel
theorem dX0_countBetween_55 : decode cX0_countBetween 55 = .ok (.iinc 3 1, 3) := by decide +kernel
theorem dX0_countBetween_58 : decode cX0_countBetween 58 = .ok (.goto (-35), 3) := by decide +kernel
theorem dX0_countBetween_61 : decode cX0_countBetween 61 = .ok (.return_, 1) := by decide +kernel
theorem dX0_keepCounts_0 : decode cX0_keepCounts 0 = .ok (.iconst 0, 1) := by decide +kernel
theorem dX0_keepCounts_1 : decode cX0_keepCounts 1 = .ok (.istore_n 2, 1) := by decide +kernel
theorem dX0_keepCounts_2 : decode cX0_keepCounts 2 = .ok (.iload_n 2, 1) := by decide +kernel
theorem dX0_keepCounts_3 : decode cX0_keepCounts 3 = .ok (.bipush 25, 2) := by decide +kernel
theorem dX0_keepCounts_5 : decode cX0_keepCounts 5 = .ok (.if_icmp .ge 27, 3) := by decide +kernel
theorem dX0_keepCounts_8 : decode cX0_keepCounts 8 = .ok (.aload_n 0, 1) := by decide +kernel
theorem dX0_keepCounts_9 : decode cX0_keepCounts 9 = .ok (.getfield 18, 3) := by decide +kernel
theorem dX0_keepCounts_12 : decode cX0_keepCounts 12 = .ok (.iload_n 1, 1) := by decide +kernel
theorem dX0_keepCounts_13 : decode cX0_keepCounts 13 = .ok (.iconst 5, 1) := by decide +kernel
theorem dX0_keepCounts_14 : decode cX0_keepCounts 14 = .ok (.imul, 1) := by decide +kernel
theorem dX0_keepCounts_15 : decode cX0_keepCounts 15 = .ok (.iconst 5, 1) := by decide +kernel
theorem dX0_keepCounts_16 : decode cX0_keepCounts 16 = .ok (.imul, 1) := by decide +kernel
theorem dX0_keepCounts_17 : decode cX0_keepCounts 17 = .ok (.iload_n 2, 1) := by decide +kernel
theorem dX0_keepCounts_18 : decode cX0_keepCounts 18 = .ok (.iadd, 1) := by decide +kernel
theorem dX0_keepCounts_19 : decode cX0_keepCounts 19 = .ok (.aload_n 0, 1) := by decide +kernel
theorem dX0_keepCounts_20 : decode cX0_keepCounts 20 = .ok (.getfield 21, 3) := by decide +kernel
theorem dX0_keepCounts_23 : decode cX0_keepCounts 23 = .ok (.iload_n 2, 1) := by decide +kernel
theorem dX0_keepCounts_24 : decode cX0_keepCounts 24 = .ok (.iaload, 1) := by decide +kernel
theorem dX0_keepCounts_25 : decode cX0_keepCounts 25 = .ok (.iastore, 1) := by decide +kernel
theorem dX0_keepCounts_26 : decode cX0_keepCounts 26 = .ok (.iinc 2 1, 3) := by decide +kernel
theorem dX0_keepCounts_29 : decode cX0_keepCounts 29 = .ok (.goto (-27), 3) := by decide +kernel
theorem dX0_keepCounts_32 : decode cX0_keepCounts 32 = .ok (.return_, 1) := by decide +kernel
theorem dX0_countsAreKept_0 : decode cX0_countsAreKept 0 = .ok (.iconst 0, 1) := by decide +kernel
theorem dX0_countsAreKept_1 : decode cX0_countsAreKept 1 = .ok (.istore_n 2, 1) := by decide +kernel
theorem dX0_countsAreKept_2 : decode cX0_countsAreKept 2 = .ok (.iload_n 2, 1) := by decide +kernel
theorem dX0_countsAreKept_3 : decode cX0_countsAreKept 3 = .ok (.bipush 25, 2) := by decide +kernel
theorem dX0_countsAreKept_5 : decode cX0_countsAreKept 5 = .ok (.if_icmp .ge 32, 3) := by decide +kernel
theorem dX0_countsAreKept_8 : decode cX0_countsAreKept 8 = .ok (.aload_n 0, 1) := by decide +kernel
theorem dX0_countsAreKept_9 : decode cX0_countsAreKept 9 = .ok (.getfield 18, 3) := by decide +kernel
theorem dX0_countsAreKept_12 : decode cX0_countsAreKept 12 = .ok (.iload_n 1, 1) := by decide +kernel
theorem dX0_countsAreKept_13 : decode cX0_countsAreKept 13 = .ok (.iconst 5, 1) := by decide +kernel
theorem dX0_countsAreKept_14 : decode cX0_countsAreKept 14 = .ok (.imul, 1) := by decide +kernel
theorem dX0_countsAreKept_15 : decode cX0_countsAreKept 15 = .ok (.iconst 5, 1) := by decide +kernel
theorem dX0_countsAreKept_16 : decode cX0_countsAreKept 16 = .ok (.imul, 1) := by decide +kernel
theorem dX0_countsAreKept_17 : decode cX0_countsAreKept 17 = .ok (.iload_n 2, 1) := by decide +kernel
theorem dX0_countsAreKept_18 : decode cX0_countsAreKept 18 = .ok (.iadd, 1) := by decide +kernel
theorem dX0_countsAreKept_19 : decode cX0_countsAreKept 19 = .ok (.iaload, 1) := by decide +kernel
theorem dX0_countsAreKept_20 : decode cX0_countsAreKept 20 = .ok (.aload_n 0, 1) := by decide +kernel
theorem dX0_countsAreKept_21 : decode cX0_countsAreKept 21 = .ok (.getfield 21, 3) := by decide +kernel
theorem dX0_countsAreKept_24 : decode cX0_countsAreKept 24 = .ok (.iload_n 2, 1) := by decide +kernel
theorem dX0_countsAreKept_25 : decode cX0_countsAreKept 25 = .ok (.iaload, 1) := by decide +kernel
theorem dX0_countsAreKept_26 : decode cX0_countsAreKept 26 = .ok (.if_icmp .eq 5, 3) := by decide +kernel
theorem dX0_countsAreKept_29 : decode cX0_countsAreKept 29 = .ok (.iconst 0, 1) := by decide +kernel
theorem dX0_countsAreKept_30 : decode cX0_countsAreKept 30 = .ok (.ireturn, 1) := by decide +kernel
theorem dX0_countsAreKept_31 : decode cX0_countsAreKept 31 = .ok (.iinc 2 1, 3) := by decide +kernel
theorem dX0_countsAreKept_34 : decode cX0_countsAreKept 34 = .ok (.goto (-32), 3) := by decide +kernel
theorem dX0_countsAreKept_37 : decode cX0_countsAreKept 37 = .ok (.iconst 1, 1) := by decide +kernel
theorem dX0_countsAreKept_38 : decode cX0_countsAreKept 38 = .ok (.ireturn, 1) := by decide +kernel
theorem dX0_reverseOf_0 : decode cX0_reverseOf 0 = .ok (.aload_n 0, 1) := by decide +kernel
theorem dX0_reverseOf_1 : decode cX0_reverseOf 1 = .ok (.getfield 15, 3) := by decide +kernel
theorem dX0_reverseOf_4 : decode cX0_reverseOf 4 = .ok (.iload_n 1, 1) := by decide +kernel
theorem dX0_reverseOf_5 : decode cX0_reverseOf 5 = .ok (.iaload, 1) := by decide +kernel
theorem dX0_reverseOf_6 : decode cX0_reverseOf 6 = .ok (.istore_n 2, 1) := by decide +kernel
theorem dX0_reverseOf_7 : decode cX0_reverseOf 7 = .ok (.iload_n 2, 1) := by decide +kernel
theorem dX0_reverseOf_8 : decode cX0_reverseOf 8 = .ok (.iconst (-1), 1) := by decide +kernel
theorem dX0_reverseOf_9 : decode cX0_reverseOf 9 = .ok (.if_icmp .ne 5, 3) := by decide +kernel
theorem dX0_reverseOf_12 : decode cX0_reverseOf 12 = .ok (.iconst 0, 1) := by decide +kernel
theorem dX0_reverseOf_13 : decode cX0_reverseOf 13 = .ok (.ireturn, 1) := by decide +kernel
theorem dX0_reverseOf_14 : decode cX0_reverseOf 14 = .ok (.aload_n 0, 1) := by decide +kernel
theorem dX0_reverseOf_15 : decode cX0_reverseOf 15 = .ok (.iload_n 2, 1) := by decide +kernel
theorem dX0_reverseOf_16 : decode cX0_reverseOf 16 = .ok (.bipush 8, 2) := by decide +kernel
theorem dX0_reverseOf_18 : decode cX0_reverseOf 18 = .ok (.irem, 1) := by decide +kernel
theorem dX0_reverseOf_19 : decode cX0_reverseOf 19 = .ok (.iload_n 2, 1) := by decide +kernel
theorem dX0_reverseOf_20 : decode cX0_reverseOf 20 = .ok (.bipush 8, 2) := by decide +kernel
theorem dX0_reverseOf_22 : decode cX0_reverseOf 22 = .ok (.idiv, 1) := by decide +kernel
theorem dX0_reverseOf_23 : decode cX0_reverseOf 23 = .ok (.invokevirtual 41, 3) := by decide +kernel
theorem dX0_reverseOf_26 : decode cX0_reverseOf 26 = .ok (.ireturn, 1) := by decide +kernel
theorem dX0_numberOf_0 : decode cX0_numberOf 0 = .ok (.aload_n 0, 1) := by decide +kernel
theorem dX0_numberOf_1 : decode cX0_numberOf 1 = .ok (.getfield 18, 3) := by decide +kernel
theorem dX0_numberOf_4 : decode cX0_numberOf 4 = .ok (.iload_n 3, 1) := by decide +kernel
theorem dX0_numberOf_5 : decode cX0_numberOf 5 = .ok (.iconst 5, 1) := by decide +kernel
theorem dX0_numberOf_6 : decode cX0_numberOf 6 = .ok (.imul, 1) := by decide +kernel
theorem dX0_numberOf_7 : decode cX0_numberOf 7 = .ok (.iload_n 1, 1) := by decide +kernel
theorem dX0_numberOf_8 : decode cX0_numberOf 8 = .ok (.iadd, 1) := by decide +kernel
theorem dX0_numberOf_9 : decode cX0_numberOf 9 = .ok (.iconst 5, 1) := by decide +kernel
theorem dX0_numberOf_10 : decode cX0_numberOf 10 = .ok (.imul, 1) := by decide +kernel
theorem dX0_numberOf_11 : decode cX0_numberOf 11 = .ok (.iload_n 2, 1) := by decide +kernel
theorem dX0_numberOf_12 : decode cX0_numberOf 12 = .ok (.iadd, 1) := by decide +kernel
theorem dX0_numberOf_13 : decode cX0_numberOf 13 = .ok (.iaload, 1) := by decide +kernel
theorem dX0_numberOf_14 : decode cX0_numberOf 14 = .ok (.ireturn, 1) := by decide +kernel
theorem dX0_degreeOf_0 : decode cX0_degreeOf 0 = .ok (.iconst 0, 1) := by decide +kernel
theorem dX0_degreeOf_1 : decode cX0_degreeOf 1 = .ok (.istore_n 2, 1) := by decide +kernel
theorem dX0_degreeOf_2 : decode cX0_degreeOf 2 = .ok (.iconst 0, 1) := by decide +kernel
theorem dX0_degreeOf_3 : decode cX0_degreeOf 3 = .ok (.istore_n 3, 1) := by decide +kernel
theorem dX0_degreeOf_4 : decode cX0_degreeOf 4 = .ok (.iload_n 3, 1) := by decide +kernel
theorem dX0_degreeOf_5 : decode cX0_degreeOf 5 = .ok (.aload_n 0, 1) := by decide +kernel
theorem dX0_degreeOf_6 : decode cX0_degreeOf 6 = .ok (.getfield 24, 3) := by decide +kernel
theorem dX0_degreeOf_9 : decode cX0_degreeOf 9 = .ok (.if_icmp .ge 22, 3) := by decide +kernel
theorem dX0_degreeOf_12 : decode cX0_degreeOf 12 = .ok (.aload_n 0, 1) := by decide +kernel
theorem dX0_degreeOf_13 : decode cX0_degreeOf 13 = .ok (.iconst 0, 1) := by decide +kernel
theorem dX0_degreeOf_14 : decode cX0_degreeOf 14 = .ok (.iload_n 3, 1) := by decide +kernel
theorem dX0_degreeOf_15 : decode cX0_degreeOf 15 = .ok (.invokevirtual 41, 3) := by decide +kernel
theorem dX0_degreeOf_18 : decode cX0_degreeOf 18 = .ok (.iload_n 1, 1) := by decide +kernel
theorem dX0_degreeOf_19 : decode cX0_degreeOf 19 = .ok (.if_icmp .ne 6, 3) := by decide +kernel
theorem dX0_degreeOf_22 : decode cX0_degreeOf 22 = .ok (.iinc 2 1, 3) := by decide +kernel
theorem dX0_degreeOf_25 : decode cX0_degreeOf 25 = .ok (.iinc 3 1, 3) := by decide +kernel
theorem dX0_degreeOf_28 : decode cX0_degreeOf 28 = .ok (.goto (-24), 3) := by decide +kernel
theorem dX0_degreeOf_31 : decode cX0_degreeOf 31 = .ok (.iload_n 2, 1) := by decide +kernel
theorem dX0_degreeOf_32 : decode cX0_degreeOf 32 = .ok (.ireturn, 1) := by decide +kernel
theorem dX0_multipliesEitherWay_0 : decode cX0_multipliesEitherWay 0 = .ok (.iconst 0, 1) := by decide +kernel
theorem dX0_multipliesEitherWay_1 : decode cX0_multipliesEitherWay 1 = .ok (.istore_n 1, 1) := by decide +kernel
theorem dX0_multipliesEitherWay_2 : decode cX0_multipliesEitherWay 2 = .ok (.iload_n 1, 1) := by decide +kernel
theorem dX0_multipliesEitherWay_3 : decode cX0_multipliesEitherWay 3 = .ok (.aload_n 0, 1) := by decide +kernel
theorem dX0_multipliesEitherWay_4 : decode cX0_multipliesEitherWay 4 = .ok (.getfield 28, 3) := by decide +kernel
theorem dX0_multipliesEitherWay_7 : decode cX0_multipliesEitherWay 7 = .ok (.if_icmp .ge 57, 3) := by decide +kernel
theorem dX0_multipliesEitherWay_10 : decode cX0_multipliesEitherWay 10 = .ok (.iconst 0, 1) := by decide +kernel
theorem dX0_multipliesEitherWay_11 : decode cX0_multipliesEitherWay 11 = .ok (.istore_n 2, 1) := by decide +kernel
theorem dX0_multipliesEitherWay_12 : decode cX0_multipliesEitherWay 12 = .ok (.iload_n 2, 1) := by decide +kernel
theorem dX0_multipliesEitherWay_13 : decode cX0_multipliesEitherWay 13 = .ok (.iload_n 1, 1) := by decide +kernel
theorem dX0_multipliesEitherWay_14 : decode cX0_multipliesEitherWay 14 = .ok (.if_icmp .ge 44, 3) := by decide +kernel
theorem dX0_multipliesEitherWay_17 : decode cX0_multipliesEitherWay 17 = .ok (.iconst 0, 1) := by decide +kernel
theorem dX0_multipliesEitherWay_18 : decode cX0_multipliesEitherWay 18 = .ok (.istore_n 3, 1) := by decide +kernel
theorem dX0_multipliesEitherWay_19 : decode cX0_multipliesEitherWay 19 = .ok (.iload_n 3, 1) := by decide +kernel
theorem dX0_multipliesEitherWay_20 : decode cX0_multipliesEitherWay 20 = .ok (.aload_n 0, 1) := by decide +kernel
theorem dX0_multipliesEitherWay_21 : decode cX0_multipliesEitherWay 21 = .ok (.getfield 28, 3) := by decide +kernel
theorem dX0_multipliesEitherWay_24 : decode cX0_multipliesEitherWay 24 = .ok (.if_icmp .ge 28, 3) := by decide +kernel
theorem dX0_multipliesEitherWay_27 : decode cX0_multipliesEitherWay 27 = .ok (.aload_n 0, 1) := by decide +kernel
theorem dX0_multipliesEitherWay_28 : decode cX0_multipliesEitherWay 28 = .ok (.iload_n 1, 1) := by decide +kernel
theorem dX0_multipliesEitherWay_29 : decode cX0_multipliesEitherWay 29 = .ok (.iload_n 2, 1) := by decide +kernel
theorem dX0_multipliesEitherWay_30 : decode cX0_multipliesEitherWay 30 = .ok (.iload_n 3, 1) := by decide +kernel
theorem dX0_multipliesEitherWay_31 : decode cX0_multipliesEitherWay 31 = .ok (.invokevirtual 92, 3) := by decide +kernel
theorem dX0_multipliesEitherWay_34 : decode cX0_multipliesEitherWay 34 = .ok (.aload_n 0, 1) := by decide +kernel
theorem dX0_multipliesEitherWay_35 : decode cX0_multipliesEitherWay 35 = .ok (.iload_n 2, 1) := by decide +kernel
theorem dX0_multipliesEitherWay_36 : decode cX0_multipliesEitherWay 36 = .ok (.iload_n 1, 1) := by decide +kernel
theorem dX0_multipliesEitherWay_37 : decode cX0_multipliesEitherWay 37 = .ok (.iload_n 3, 1) := by decide +kernel
theorem dX0_multipliesEitherWay_38 : decode cX0_multipliesEitherWay 38 = .ok (.invokevirtual 92, 3) := by decide +kernel
theorem dX0_multipliesEitherWay_41 : decode cX0_multipliesEitherWay 41 = .ok (.if_icmp .eq 5, 3) := by decide +kernel
theorem dX0_multipliesEitherWay_44 : decode cX0_multipliesEitherWay 44 = .ok (.iconst 0, 1) := by decide +kernel
theorem dX0_multipliesEitherWay_45 : decode cX0_multipliesEitherWay 45 = .ok (.ireturn, 1) := by decide +kernel
theorem dX0_multipliesEitherWay_46 : decode cX0_multipliesEitherWay 46 = .ok (.iinc 3 1, 3) := by decide +kernel
theorem dX0_multipliesEitherWay_49 : decode cX0_multipliesEitherWay 49 = .ok (.goto (-30), 3) := by decide +kernel
theorem dX0_multipliesEitherWay_52 : decode cX0_multipliesEitherWay 52 = .ok (.iinc 2 1, 3) := by decide +kernel
theorem dX0_multipliesEitherWay_55 : decode cX0_multipliesEitherWay 55 = .ok (.goto (-43), 3) := by decide +kernel
theorem dX0_multipliesEitherWay_58 : decode cX0_multipliesEitherWay 58 = .ok (.iinc 1 1, 3) := by decide +kernel
theorem dX0_multipliesEitherWay_61 : decode cX0_multipliesEitherWay 61 = .ok (.goto (-59), 3) := by decide +kernel
theorem dX0_multipliesEitherWay_64 : decode cX0_multipliesEitherWay 64 = .ok (.iconst 1, 1) := by decide +kernel
theorem dX0_multipliesEitherWay_65 : decode cX0_multipliesEitherWay 65 = .ok (.ireturn, 1) := by decide +kernel
theorem dX0_has_0 : decode cX0_has 0 = .ok (.iload_n 0, 1) := by decide +kernel
theorem dX0_has_1 : decode cX0_has 1 = .ok (.iload_n 1, 1) := by decide +kernel
theorem dX0_has_2 : decode cX0_has 2 = .ok (.ishr, 1) := by decide +kernel
theorem dX0_has_3 : decode cX0_has 3 = .ok (.iconst 1, 1) := by decide +kernel
theorem dX0_has_4 : decode cX0_has 4 = .ok (.iand, 1) := by decide +kernel
theorem dX0_has_5 : decode cX0_has 5 = .ok (.iconst 1, 1) := by decide +kernel
theorem dX0_has_6 : decode cX0_has 6 = .ok (.if_icmp .ne 7, 3) := by decide +kernel
theorem dX0_has_9 : decode cX0_has 9 = .ok (.iconst 1, 1) := by decide +kernel
theorem dX0_has_10 : decode cX0_has 10 = .ok (.goto 4, 3) := by decide +kernel
theorem dX0_has_13 : decode cX0_has 13 = .ok (.iconst 0, 1) := by decide +kernel
theorem dX0_has_14 : decode cX0_has 14 = .ok (.ireturn, 1) := by decide +kernel
theorem dX0_isClosed_0 : decode cX0_isClosed 0 = .ok (.iload_n 1, 1) := by decide +kernel
theorem dX0_isClosed_1 : decode cX0_isClosed 1 = .ok (.iconst 0, 1) := by decide +kernel
theorem dX0_isClosed_2 : decode cX0_isClosed 2 = .ok (.invokestatic 95, 3) := by decide +kernel
theorem dX0_isClosed_5 : decode cX0_isClosed 5 = .ok (.ifCond .eq 19, 3) := by decide +kernel
theorem dX0_isClosed_8 : decode cX0_isClosed 8 = .ok (.aload_n 0, 1) := by decide +kernel
theorem dX0_isClosed_9 : decode cX0_isClosed 9 = .ok (.iload_n 1, 1) := by decide +kernel
theorem dX0_isClosed_10 : decode cX0_isClosed 10 = .ok (.invokevirtual 99, 3) := by decide +kernel
theorem dX0_isClosed_13 : decode cX0_isClosed 13 = .ok (.iload_n 1, 1) := by decide +kernel
theorem dX0_isClosed_14 : decode cX0_isClosed 14 = .ok (.iconst (-1), 1) := by decide +kernel
theorem dX0_isClosed_15 : decode cX0_isClosed 15 = .ok (.ixor, 1) := by decide +kernel
theorem dX0_isClosed_16 : decode cX0_isClosed 16 = .ok (.iand, 1) := by decide +kernel
theorem dX0_isClosed_17 : decode cX0_isClosed 17 = .ok (.ifCond .ne 7, 3) := by decide +kernel
theorem dX0_isClosed_20 : decode cX0_isClosed 20 = .ok (.iconst 1, 1) := by decide +kernel
theorem dX0_isClosed_21 : decode cX0_isClosed 21 = .ok (.goto 4, 3) := by decide +kernel
theorem dX0_isClosed_24 : decode cX0_isClosed 24 = .ok (.iconst 0, 1) := by decide +kernel
theorem dX0_isClosed_25 : decode cX0_isClosed 25 = .ok (.ireturn, 1) := by decide +kernel
theorem dX0_productsOf_0 : decode cX0_productsOf 0 = .ok (.iconst 0, 1) := by decide +kernel
theorem dX0_productsOf_1 : decode cX0_productsOf 1 = .ok (.istore_n 2, 1) := by decide +kernel
theorem dX0_productsOf_2 : decode cX0_productsOf 2 = .ok (.iconst 0, 1) := by decide +kernel
theorem dX0_productsOf_3 : decode cX0_productsOf 3 = .ok (.istore_n 3, 1) := by decide +kernel
theorem dX0_productsOf_4 : decode cX0_productsOf 4 = .ok (.iload_n 3, 1) := by decide +kernel
theorem dX0_productsOf_5 : decode cX0_productsOf 5 = .ok (.aload_n 0, 1) := by decide +kernel
theorem dX0_productsOf_6 : decode cX0_productsOf 6 = .ok (.getfield 28, 3) := by decide +kernel
theorem dX0_productsOf_9 : decode cX0_productsOf 9 = .ok (.if_icmp .ge 54, 3) := by decide +kernel
theorem dX0_productsOf_12 : decode cX0_productsOf 12 = .ok (.iconst 0, 1) := by decide +kernel
theorem dX0_productsOf_13 : decode cX0_productsOf 13 = .ok (.istore 4, 2) := by decide +kernel
theorem dX0_productsOf_15 : decode cX0_productsOf 15 = .ok (.iload 4, 2) := by decide +kernel
theorem dX0_productsOf_17 : decode cX0_productsOf 17 = .ok (.aload_n 0, 1) := by decide +kernel
theorem dX0_productsOf_18 : decode cX0_productsOf 18 = .ok (.getfield 28, 3) := by decide +kernel
theorem dX0_productsOf_21 : decode cX0_productsOf 21 = .ok (.if_icmp .ge 36, 3) := by decide +kernel
theorem dX0_productsOf_24 : decode cX0_productsOf 24 = .ok (.iload_n 1, 1) := by decide +kernel
theorem dX0_productsOf_25 : decode cX0_productsOf 25 = .ok (.iload_n 3, 1) := by decide +kernel
theorem dX0_productsOf_26 : decode cX0_productsOf 26 = .ok (.invokestatic 95, 3) := by decide +kernel
theorem dX0_productsOf_29 : decode cX0_productsOf 29 = .ok (.ifCond .eq 22, 3) := by decide +kernel
theorem dX0_productsOf_32 : decode cX0_productsOf 32 = .ok (.iload_n 1, 1) := by decide +kernel
theorem dX0_productsOf_33 : decode cX0_productsOf 33 = .ok (.iload 4, 2) := by decide +kernel
theorem dX0_productsOf_35 : decode cX0_productsOf 35 = .ok (.invokestatic 95, 3) := by decide +kernel
theorem dX0_productsOf_38 : decode cX0_productsOf 38 = .ok (.ifCond .eq 13, 3) := by decide +kernel
theorem dX0_productsOf_41 : decode cX0_productsOf 41 = .ok (.iload_n 2, 1) := by decide +kernel
theorem dX0_productsOf_42 : decode cX0_productsOf 42 = .ok (.aload_n 0, 1) := by decide +kernel
theorem dX0_productsOf_43 : decode cX0_productsOf 43 = .ok (.iload_n 3, 1) := by decide +kernel
theorem dX0_productsOf_44 : decode cX0_productsOf 44 = .ok (.iload 4, 2) := by decide +kernel
theorem dX0_productsOf_46 : decode cX0_productsOf 46 = .ok (.invokevirtual 102, 3) := by decide +kernel
theorem dX0_productsOf_49 : decode cX0_productsOf 49 = .ok (.ior, 1) := by decide +kernel
theorem dX0_productsOf_50 : decode cX0_productsOf 50 = .ok (.istore_n 2, 1) := by decide +kernel
theorem dX0_productsOf_51 : decode cX0_productsOf 51 = .ok (.iinc 4 1, 3) := by decide +kernel
theorem dX0_productsOf_54 : decode cX0_productsOf 54 = .ok (.goto (-39), 3) := by decide +kernel
theorem dX0_productsOf_57 : decode cX0_productsOf 57 = .ok (.iinc 3 1, 3) := by decide +kernel
theorem dX0_productsOf_60 : decode cX0_productsOf 60 = .ok (.goto (-56), 3) := by decide +kernel
theorem dX0_productsOf_63 : decode cX0_productsOf 63 = .ok (.iload_n 2, 1) := by decide +kernel
theorem dX0_productsOf_64 : decode cX0_productsOf 64 = .ok (.ireturn, 1) := by decide +kernel
theorem dX0_productsOfTwo_0 : decode cX0_productsOfTwo 0 = .ok (.iconst 0, 1) := by decide +kernel
theorem dX0_productsOfTwo_1 : decode cX0_productsOfTwo 1 = .ok (.istore_n 3, 1) := by decide +kernel
theorem dX0_productsOfTwo_2 : decode cX0_productsOfTwo 2 = .ok (.iconst 0, 1) := by decide +kernel
theorem dX0_productsOfTwo_3 : decode cX0_productsOfTwo 3 = .ok (.istore 4, 2) := by decide +kernel
theorem dX0_productsOfTwo_5 : decode cX0_productsOfTwo 5 = .ok (.iload 4, 2) := by decide +kernel
theorem dX0_productsOfTwo_7 : decode cX0_productsOfTwo 7 = .ok (.aload_n 0, 1) := by decide +kernel
theorem dX0_productsOfTwo_8 : decode cX0_productsOfTwo 8 = .ok (.getfield 28, 3) := by decide +kernel
theorem dX0_productsOfTwo_11 : decode cX0_productsOfTwo 11 = .ok (.if_icmp .ge 27, 3) := by decide +kernel
theorem dX0_productsOfTwo_14 : decode cX0_productsOfTwo 14 = .ok (.aload_n 0, 1) := by decide +kernel
theorem dX0_productsOfTwo_15 : decode cX0_productsOfTwo 15 = .ok (.iload_n 1, 1) := by decide +kernel
theorem dX0_productsOfTwo_16 : decode cX0_productsOfTwo 16 = .ok (.iload_n 2, 1) := by decide +kernel
theorem dX0_productsOfTwo_17 : decode cX0_productsOfTwo 17 = .ok (.iload 4, 2) := by decide +kernel
theorem dX0_productsOfTwo_19 : decode cX0_productsOfTwo 19 = .ok (.invokevirtual 92, 3) := by decide +kernel
theorem dX0_productsOfTwo_22 : decode cX0_productsOfTwo 22 = .ok (.ifCond .le 10, 3) := by decide +kernel
theorem dX0_productsOfTwo_25 : decode cX0_productsOfTwo 25 = .ok (.iload_n 3, 1) := by decide +kernel
theorem dX0_productsOfTwo_26 : decode cX0_productsOfTwo 26 = .ok (.iconst 1, 1) := by decide +kernel
theorem dX0_productsOfTwo_27 : decode cX0_productsOfTwo 27 = .ok (.iload 4, 2) := by decide +kernel
theorem dX0_productsOfTwo_29 : decode cX0_productsOfTwo 29 = .ok (.ishl, 1) := by decide +kernel
theorem dX0_productsOfTwo_30 : decode cX0_productsOfTwo 30 = .ok (.ior, 1) := by decide +kernel
theorem dX0_productsOfTwo_31 : decode cX0_productsOfTwo 31 = .ok (.istore_n 3, 1) := by decide +kernel
theorem dX0_productsOfTwo_32 : decode cX0_productsOfTwo 32 = .ok (.iinc 4 1, 3) := by decide +kernel
theorem dX0_productsOfTwo_35 : decode cX0_productsOfTwo 35 = .ok (.goto (-30), 3) := by decide +kernel
theorem dX0_productsOfTwo_38 : decode cX0_productsOfTwo 38 = .ok (.iload_n 3, 1) := by decide +kernel
theorem dX0_productsOfTwo_39 : decode cX0_productsOfTwo 39 = .ok (.ireturn, 1) := by decide +kernel
theorem dX0_hullOf_0 : decode cX0_hullOf 0 = .ok (.iload_n 1, 1) := by decide +kernel
theorem dX0_hullOf_1 : decode cX0_hullOf 1 = .ok (.iconst 1, 1) := by decide +kernel
theorem dX0_hullOf_2 : decode cX0_hullOf 2 = .ok (.ior, 1) := by decide +kernel
theorem dX0_hullOf_3 : decode cX0_hullOf 3 = .ok (.istore_n 2, 1) := by decide +kernel
theorem dX0_hullOf_4 : decode cX0_hullOf 4 = .ok (.iconst 0, 1) := by decide +kernel
theorem dX0_hullOf_5 : decode cX0_hullOf 5 = .ok (.istore_n 3, 1) := by decide +kernel
theorem dX0_hullOf_6 : decode cX0_hullOf 6 = .ok (.iload_n 3, 1) := by decide +kernel
end
section
-- decode rows (by program)
theorem dX0_hullOf_7 : decode cX0_hullOf 7 = .ok (.aload_n 0, 1) := by decide +kernel
theorem dX0_hullOf_8 : decode cX0_hullOf 8 = .ok (.getfield 28, 3) := by decide +kernel
theorem dX0_hullOf_11 : decode cX0_hullOf 11 = .ok (.if_icmp .ge 17, 3) := by decide +kernel
theorem dX0_hullOf_14 : decode cX0_hullOf 14 = .ok (.iload_n 2, 1) := by decide +kernel
theorem dX0_hullOf_15 : decode cX0_hullOf 15 = .ok (.aload_n 0, 1) := by decide +kernel
theorem dX0_hullOf_16 : decode cX0_hullOf 16 = .ok (.iload_n 2, 1) := by decide +kernel
theorem dX0_hullOf_17 : decode cX0_hullOf 17 = .ok (.invokevirtual 99, 3) := by decide +kernel
theorem dX0_hullOf_20 : decode cX0_hullOf 20 = .ok (.ior, 1) := by decide +kernel
theorem dX0_hullOf_21 : decode cX0_hullOf 21 = .ok (.istore_n 2, 1) := by decide +kernel
theorem dX0_hullOf_22 : decode cX0_hullOf 22 = .ok (.iinc 3 1, 3) := by decide +kernel
theorem dX0_hullOf_25 : decode cX0_hullOf 25 = .ok (.goto (-19), 3) := by decide +kernel
theorem dX0_hullOf_28 : decode cX0_hullOf 28 = .ok (.iload_n 2, 1) := by decide +kernel
theorem dX0_hullOf_29 : decode cX0_hullOf 29 = .ok (.ireturn, 1) := by decide +kernel
theorem dX0_closedSets_0 : decode cX0_closedSets 0 = .ok (.iconst 0, 1) := by decide +kernel
theorem dX0_closedSets_1 : decode cX0_closedSets 1 = .ok (.istore_n 1, 1) := by decide +kernel
theorem dX0_closedSets_2 : decode cX0_closedSets 2 = .ok (.iconst 0, 1) := by decide +kernel
theorem dX0_closedSets_3 : decode cX0_closedSets 3 = .ok (.istore_n 2, 1) := by decide +kernel
theorem dX0_closedSets_4 : decode cX0_closedSets 4 = .ok (.iload_n 2, 1) := by decide +kernel
theorem dX0_closedSets_5 : decode cX0_closedSets 5 = .ok (.iconst 1, 1) := by decide +kernel
theorem dX0_closedSets_6 : decode cX0_closedSets 6 = .ok (.aload_n 0, 1) := by decide +kernel
theorem dX0_closedSets_7 : decode cX0_closedSets 7 = .ok (.getfield 28, 3) := by decide +kernel
theorem dX0_closedSets_10 : decode cX0_closedSets 10 = .ok (.ishl, 1) := by decide +kernel
theorem dX0_closedSets_11 : decode cX0_closedSets 11 = .ok (.if_icmp .ge 20, 3) := by decide +kernel
theorem dX0_closedSets_14 : decode cX0_closedSets 14 = .ok (.aload_n 0, 1) := by decide +kernel
theorem dX0_closedSets_15 : decode cX0_closedSets 15 = .ok (.iload_n 2, 1) := by decide +kernel
theorem dX0_closedSets_16 : decode cX0_closedSets 16 = .ok (.invokevirtual 105, 3) := by decide +kernel
theorem dX0_closedSets_19 : decode cX0_closedSets 19 = .ok (.ifCond .eq 6, 3) := by decide +kernel
theorem dX0_closedSets_22 : decode cX0_closedSets 22 = .ok (.iinc 1 1, 3) := by decide +kernel
theorem dX0_closedSets_25 : decode cX0_closedSets 25 = .ok (.iinc 2 1, 3) := by decide +kernel
theorem dX0_closedSets_28 : decode cX0_closedSets 28 = .ok (.goto (-24), 3) := by decide +kernel
theorem dX0_closedSets_31 : decode cX0_closedSets 31 = .ok (.iload_n 1, 1) := by decide +kernel
theorem dX0_closedSets_32 : decode cX0_closedSets 32 = .ok (.ireturn, 1) := by decide +kernel
theorem dX0_orderOf_0 : decode cX0_orderOf 0 = .ok (.iconst 0, 1) := by decide +kernel
theorem dX0_orderOf_1 : decode cX0_orderOf 1 = .ok (.istore_n 2, 1) := by decide +kernel
theorem dX0_orderOf_2 : decode cX0_orderOf 2 = .ok (.iconst 0, 1) := by decide +kernel
theorem dX0_orderOf_3 : decode cX0_orderOf 3 = .ok (.istore_n 3, 1) := by decide +kernel
theorem dX0_orderOf_4 : decode cX0_orderOf 4 = .ok (.iload_n 3, 1) := by decide +kernel
theorem dX0_orderOf_5 : decode cX0_orderOf 5 = .ok (.aload_n 0, 1) := by decide +kernel
theorem dX0_orderOf_6 : decode cX0_orderOf 6 = .ok (.getfield 28, 3) := by decide +kernel
theorem dX0_orderOf_9 : decode cX0_orderOf 9 = .ok (.if_icmp .ge 25, 3) := by decide +kernel
theorem dX0_orderOf_12 : decode cX0_orderOf 12 = .ok (.iload_n 1, 1) := by decide +kernel
theorem dX0_orderOf_13 : decode cX0_orderOf 13 = .ok (.iload_n 3, 1) := by decide +kernel
theorem dX0_orderOf_14 : decode cX0_orderOf 14 = .ok (.invokestatic 95, 3) := by decide +kernel
theorem dX0_orderOf_17 : decode cX0_orderOf 17 = .ok (.ifCond .eq 11, 3) := by decide +kernel
theorem dX0_orderOf_20 : decode cX0_orderOf 20 = .ok (.iload_n 2, 1) := by decide +kernel
theorem dX0_orderOf_21 : decode cX0_orderOf 21 = .ok (.aload_n 0, 1) := by decide +kernel
theorem dX0_orderOf_22 : decode cX0_orderOf 22 = .ok (.iload_n 3, 1) := by decide +kernel
theorem dX0_orderOf_23 : decode cX0_orderOf 23 = .ok (.invokevirtual 108, 3) := by decide +kernel
theorem dX0_orderOf_26 : decode cX0_orderOf 26 = .ok (.iadd, 1) := by decide +kernel
theorem dX0_orderOf_27 : decode cX0_orderOf 27 = .ok (.istore_n 2, 1) := by decide +kernel
theorem dX0_orderOf_28 : decode cX0_orderOf 28 = .ok (.iinc 3 1, 3) := by decide +kernel
theorem dX0_orderOf_31 : decode cX0_orderOf 31 = .ok (.goto (-27), 3) := by decide +kernel
theorem dX0_orderOf_34 : decode cX0_orderOf 34 = .ok (.iload_n 2, 1) := by decide +kernel
theorem dX0_orderOf_35 : decode cX0_orderOf 35 = .ok (.ireturn, 1) := by decide +kernel
end
section
-- decode rows (by program)
theorem dX1_init_0 : decode cX1_init 0 = .ok (.aload_n 0, 1) := by decide +kernel
theorem dX1_init_1 : decode cX1_init 1 = .ok (.invokespecial 3, 3) := by decide +kernel
theorem dX1_init_4 : decode cX1_init 4 = .ok (.aload_n 0, 1) := by decide +kernel
theorem dX1_init_5 : decode cX1_init 5 = .ok (.bipush 8, 2) := by decide +kernel
theorem dX1_init_7 : decode cX1_init 7 = .ok (.newarray .int, 2) := by decide +kernel
theorem dX1_init_9 : decode cX1_init 9 = .ok (.putfield 9, 3) := by decide +kernel
theorem dX1_init_12 : decode cX1_init 12 = .ok (.aload_n 0, 1) := by decide +kernel
theorem dX1_init_13 : decode cX1_init 13 = .ok (.iconst 5, 1) := by decide +kernel
theorem dX1_init_14 : decode cX1_init 14 = .ok (.newarray .int, 2) := by decide +kernel
theorem dX1_init_16 : decode cX1_init 16 = .ok (.putfield 15, 3) := by decide +kernel
theorem dX1_init_19 : decode cX1_init 19 = .ok (.aload_n 0, 1) := by decide +kernel
theorem dX1_init_20 : decode cX1_init 20 = .ok (.bipush 64, 2) := by decide +kernel
theorem dX1_init_22 : decode cX1_init 22 = .ok (.newarray .int, 2) := by decide +kernel
theorem dX1_init_24 : decode cX1_init 24 = .ok (.putfield 18, 3) := by decide +kernel
theorem dX1_init_27 : decode cX1_init 27 = .ok (.aload_n 0, 1) := by decide +kernel
theorem dX1_init_28 : decode cX1_init 28 = .ok (.iconst 0, 1) := by decide +kernel
theorem dX1_init_29 : decode cX1_init 29 = .ok (.putfield 21, 3) := by decide +kernel
theorem dX1_init_32 : decode cX1_init 32 = .ok (.return_, 1) := by decide +kernel
theorem dX1_divide_0 : decode cX1_divide 0 = .ok (.aload_n 0, 1) := by decide +kernel
theorem dX1_divide_1 : decode cX1_divide 1 = .ok (.aload_n 1, 1) := by decide +kernel
theorem dX1_divide_2 : decode cX1_divide 2 = .ok (.iload_n 2, 1) := by decide +kernel
theorem dX1_divide_3 : decode cX1_divide 3 = .ok (.invokevirtual 25, 3) := by decide +kernel
theorem dX1_divide_6 : decode cX1_divide 6 = .ok (.aload_n 0, 1) := by decide +kernel
theorem dX1_divide_7 : decode cX1_divide 7 = .ok (.aload_n 1, 1) := by decide +kernel
theorem dX1_divide_8 : decode cX1_divide 8 = .ok (.invokevirtual 29, 3) := by decide +kernel
theorem dX1_divide_11 : decode cX1_divide 11 = .ok (.aload_n 3, 1) := by decide +kernel
theorem dX1_divide_12 : decode cX1_divide 12 = .ok (.aload_n 0, 1) := by decide +kernel
theorem dX1_divide_13 : decode cX1_divide 13 = .ok (.getfield 21, 3) := by decide +kernel
theorem dX1_divide_16 : decode cX1_divide 16 = .ok (.putfield 33, 3) := by decide +kernel
theorem dX1_divide_19 : decode cX1_divide 19 = .ok (.iconst 0, 1) := by decide +kernel
theorem dX1_divide_20 : decode cX1_divide 20 = .ok (.istore 4, 2) := by decide +kernel
theorem dX1_divide_22 : decode cX1_divide 22 = .ok (.iload 4, 2) := by decide +kernel
theorem dX1_divide_24 : decode cX1_divide 24 = .ok (.aload_n 1, 1) := by decide +kernel
theorem dX1_divide_25 : decode cX1_divide 25 = .ok (.getfield 33, 3) := by decide +kernel
theorem dX1_divide_28 : decode cX1_divide 28 = .ok (.if_icmp .ge 57, 3) := by decide +kernel
theorem dX1_divide_31 : decode cX1_divide 31 = .ok (.iconst 0, 1) := by decide +kernel
theorem dX1_divide_32 : decode cX1_divide 32 = .ok (.istore 5, 2) := by decide +kernel
theorem dX1_divide_34 : decode cX1_divide 34 = .ok (.iload 5, 2) := by decide +kernel
theorem dX1_divide_36 : decode cX1_divide 36 = .ok (.aload_n 1, 1) := by decide +kernel
theorem dX1_divide_37 : decode cX1_divide 37 = .ok (.getfield 33, 3) := by decide +kernel
theorem dX1_divide_40 : decode cX1_divide 40 = .ok (.if_icmp .ge 39, 3) := by decide +kernel
theorem dX1_divide_43 : decode cX1_divide 43 = .ok (.aload_n 3, 1) := by decide +kernel
theorem dX1_divide_44 : decode cX1_divide 44 = .ok (.aload_n 0, 1) := by decide +kernel
theorem dX1_divide_45 : decode cX1_divide 45 = .ok (.getfield 9, 3) := by decide +kernel
theorem dX1_divide_48 : decode cX1_divide 48 = .ok (.iload 4, 2) := by decide +kernel
theorem dX1_divide_50 : decode cX1_divide 50 = .ok (.iaload, 1) := by decide +kernel
theorem dX1_divide_51 : decode cX1_divide 51 = .ok (.aload_n 0, 1) := by decide +kernel
theorem dX1_divide_52 : decode cX1_divide 52 = .ok (.getfield 9, 3) := by decide +kernel
theorem dX1_divide_55 : decode cX1_divide 55 = .ok (.iload 5, 2) := by decide +kernel
theorem dX1_divide_57 : decode cX1_divide 57 = .ok (.iaload, 1) := by decide +kernel
theorem dX1_divide_58 : decode cX1_divide 58 = .ok (.aload_n 0, 1) := by decide +kernel
theorem dX1_divide_59 : decode cX1_divide 59 = .ok (.aload_n 1, 1) := by decide +kernel
theorem dX1_divide_60 : decode cX1_divide 60 = .ok (.iload 4, 2) := by decide +kernel
theorem dX1_divide_62 : decode cX1_divide 62 = .ok (.iload 5, 2) := by decide +kernel
theorem dX1_divide_64 : decode cX1_divide 64 = .ok (.invokevirtual 36, 3) := by decide +kernel
theorem dX1_divide_67 : decode cX1_divide 67 = .ok (.invokevirtual 40, 3) := by decide +kernel
theorem dX1_divide_70 : decode cX1_divide 70 = .ok (.invokevirtual 44, 3) := by decide +kernel
theorem dX1_divide_73 : decode cX1_divide 73 = .ok (.iinc 5 1, 3) := by decide +kernel
theorem dX1_divide_76 : decode cX1_divide 76 = .ok (.goto (-42), 3) := by decide +kernel
theorem dX1_divide_79 : decode cX1_divide 79 = .ok (.iinc 4 1, 3) := by decide +kernel
theorem dX1_divide_82 : decode cX1_divide 82 = .ok (.goto (-60), 3) := by decide +kernel
theorem dX1_divide_85 : decode cX1_divide 85 = .ok (.aload_n 3, 1) := by decide +kernel
theorem dX1_divide_86 : decode cX1_divide 86 = .ok (.invokevirtual 48, 3) := by decide +kernel
theorem dX1_divide_89 : decode cX1_divide 89 = .ok (.return_, 1) := by decide +kernel
theorem dX1_findBlocks_0 : decode cX1_findBlocks 0 = .ok (.aload_n 0, 1) := by decide +kernel
theorem dX1_findBlocks_1 : decode cX1_findBlocks 1 = .ok (.iconst 0, 1) := by decide +kernel
theorem dX1_findBlocks_2 : decode cX1_findBlocks 2 = .ok (.putfield 21, 3) := by decide +kernel
theorem dX1_findBlocks_5 : decode cX1_findBlocks 5 = .ok (.iconst 0, 1) := by decide +kernel
theorem dX1_findBlocks_6 : decode cX1_findBlocks 6 = .ok (.istore_n 3, 1) := by decide +kernel
theorem dX1_findBlocks_7 : decode cX1_findBlocks 7 = .ok (.iload_n 3, 1) := by decide +kernel
theorem dX1_findBlocks_8 : decode cX1_findBlocks 8 = .ok (.aload_n 1, 1) := by decide +kernel
theorem dX1_findBlocks_9 : decode cX1_findBlocks 9 = .ok (.getfield 33, 3) := by decide +kernel
theorem dX1_findBlocks_12 : decode cX1_findBlocks 12 = .ok (.if_icmp .ge 84, 3) := by decide +kernel
theorem dX1_findBlocks_15 : decode cX1_findBlocks 15 = .ok (.aload_n 0, 1) := by decide +kernel
theorem dX1_findBlocks_16 : decode cX1_findBlocks 16 = .ok (.getfield 9, 3) := by decide +kernel
theorem dX1_findBlocks_19 : decode cX1_findBlocks 19 = .ok (.iload_n 3, 1) := by decide +kernel
theorem dX1_findBlocks_20 : decode cX1_findBlocks 20 = .ok (.aload_n 0, 1) := by decide +kernel
theorem dX1_findBlocks_21 : decode cX1_findBlocks 21 = .ok (.getfield 21, 3) := by decide +kernel
theorem dX1_findBlocks_24 : decode cX1_findBlocks 24 = .ok (.iastore, 1) := by decide +kernel
theorem dX1_findBlocks_25 : decode cX1_findBlocks 25 = .ok (.iconst 0, 1) := by decide +kernel
theorem dX1_findBlocks_26 : decode cX1_findBlocks 26 = .ok (.istore 4, 2) := by decide +kernel
theorem dX1_findBlocks_28 : decode cX1_findBlocks 28 = .ok (.iload 4, 2) := by decide +kernel
theorem dX1_findBlocks_30 : decode cX1_findBlocks 30 = .ok (.iload_n 3, 1) := by decide +kernel
theorem dX1_findBlocks_31 : decode cX1_findBlocks 31 = .ok (.if_icmp .ge 36, 3) := by decide +kernel
theorem dX1_findBlocks_34 : decode cX1_findBlocks 34 = .ok (.iload_n 2, 1) := by decide +kernel
theorem dX1_findBlocks_35 : decode cX1_findBlocks 35 = .ok (.aload_n 1, 1) := by decide +kernel
theorem dX1_findBlocks_36 : decode cX1_findBlocks 36 = .ok (.iload 4, 2) := by decide +kernel
theorem dX1_findBlocks_38 : decode cX1_findBlocks 38 = .ok (.iload_n 3, 1) := by decide +kernel
theorem dX1_findBlocks_39 : decode cX1_findBlocks 39 = .ok (.invokevirtual 36, 3) := by decide +kernel
theorem dX1_findBlocks_42 : decode cX1_findBlocks 42 = .ok (.invokestatic 51, 3) := by decide +kernel
theorem dX1_findBlocks_45 : decode cX1_findBlocks 45 = .ok (.ifCond .eq 16, 3) := by decide +kernel
theorem dX1_findBlocks_48 : decode cX1_findBlocks 48 = .ok (.aload_n 0, 1) := by decide +kernel
theorem dX1_findBlocks_49 : decode cX1_findBlocks 49 = .ok (.getfield 9, 3) := by decide +kernel
theorem dX1_findBlocks_52 : decode cX1_findBlocks 52 = .ok (.iload_n 3, 1) := by decide +kernel
theorem dX1_findBlocks_53 : decode cX1_findBlocks 53 = .ok (.aload_n 0, 1) := by decide +kernel
theorem dX1_findBlocks_54 : decode cX1_findBlocks 54 = .ok (.getfield 9, 3) := by decide +kernel
theorem dX1_findBlocks_57 : decode cX1_findBlocks 57 = .ok (.iload 4, 2) := by decide +kernel
theorem dX1_findBlocks_59 : decode cX1_findBlocks 59 = .ok (.iaload, 1) := by decide +kernel
theorem dX1_findBlocks_60 : decode cX1_findBlocks 60 = .ok (.iastore, 1) := by decide +kernel
theorem dX1_findBlocks_61 : decode cX1_findBlocks 61 = .ok (.iinc 4 1, 3) := by decide +kernel
theorem dX1_findBlocks_64 : decode cX1_findBlocks 64 = .ok (.goto (-36), 3) := by decide +kernel
theorem dX1_findBlocks_67 : decode cX1_findBlocks 67 = .ok (.aload_n 0, 1) := by decide +kernel
theorem dX1_findBlocks_68 : decode cX1_findBlocks 68 = .ok (.getfield 9, 3) := by decide +kernel
theorem dX1_findBlocks_71 : decode cX1_findBlocks 71 = .ok (.iload_n 3, 1) := by decide +kernel
theorem dX1_findBlocks_72 : decode cX1_findBlocks 72 = .ok (.iaload, 1) := by decide +kernel
theorem dX1_findBlocks_73 : decode cX1_findBlocks 73 = .ok (.aload_n 0, 1) := by decide +kernel
theorem dX1_findBlocks_74 : decode cX1_findBlocks 74 = .ok (.getfield 21, 3) := by decide +kernel
theorem dX1_findBlocks_77 : decode cX1_findBlocks 77 = .ok (.if_icmp .ne 13, 3) := by decide +kernel
theorem dX1_findBlocks_80 : decode cX1_findBlocks 80 = .ok (.aload_n 0, 1) := by decide +kernel
theorem dX1_findBlocks_81 : decode cX1_findBlocks 81 = .ok (.dup, 1) := by decide +kernel
theorem dX1_findBlocks_82 : decode cX1_findBlocks 82 = .ok (.getfield 21, 3) := by decide +kernel
theorem dX1_findBlocks_85 : decode cX1_findBlocks 85 = .ok (.iconst 1, 1) := by decide +kernel
theorem dX1_findBlocks_86 : decode cX1_findBlocks 86 = .ok (.iadd, 1) := by decide +kernel
theorem dX1_findBlocks_87 : decode cX1_findBlocks 87 = .ok (.putfield 21, 3) := by decide +kernel
theorem dX1_findBlocks_90 : decode cX1_findBlocks 90 = .ok (.iinc 3 1, 3) := by decide +kernel
theorem dX1_findBlocks_93 : decode cX1_findBlocks 93 = .ok (.goto (-86), 3) := by decide +kernel
theorem dX1_findBlocks_96 : decode cX1_findBlocks 96 = .ok (.return_, 1) := by decide +kernel
theorem dX1_joinColours_0 : decode cX1_joinColours 0 = .ok (.iconst 0, 1) := by decide +kernel
theorem dX1_joinColours_1 : decode cX1_joinColours 1 = .ok (.istore_n 2, 1) := by decide +kernel
theorem dX1_joinColours_2 : decode cX1_joinColours 2 = .ok (.iload_n 2, 1) := by decide +kernel
theorem dX1_joinColours_3 : decode cX1_joinColours 3 = .ok (.iconst 5, 1) := by decide +kernel
theorem dX1_joinColours_4 : decode cX1_joinColours 4 = .ok (.if_icmp .ge 16, 3) := by decide +kernel
theorem dX1_joinColours_7 : decode cX1_joinColours 7 = .ok (.aload_n 0, 1) := by decide +kernel
theorem dX1_joinColours_8 : decode cX1_joinColours 8 = .ok (.getfield 15, 3) := by decide +kernel
theorem dX1_joinColours_11 : decode cX1_joinColours 11 = .ok (.iload_n 2, 1) := by decide +kernel
theorem dX1_joinColours_12 : decode cX1_joinColours 12 = .ok (.iload_n 2, 1) := by decide +kernel
theorem dX1_joinColours_13 : decode cX1_joinColours 13 = .ok (.iastore, 1) := by decide +kernel
theorem dX1_joinColours_14 : decode cX1_joinColours 14 = .ok (.iinc 2 1, 3) := by decide +kernel
theorem dX1_joinColours_17 : decode cX1_joinColours 17 = .ok (.goto (-15), 3) := by decide +kernel
theorem dX1_joinColours_20 : decode cX1_joinColours 20 = .ok (.iconst 0, 1) := by decide +kernel
theorem dX1_joinColours_21 : decode cX1_joinColours 21 = .ok (.istore_n 2, 1) := by decide +kernel
theorem dX1_joinColours_22 : decode cX1_joinColours 22 = .ok (.iload_n 2, 1) := by decide +kernel
theorem dX1_joinColours_23 : decode cX1_joinColours 23 = .ok (.bipush 64, 2) := by decide +kernel
theorem dX1_joinColours_25 : decode cX1_joinColours 25 = .ok (.if_icmp .ge 16, 3) := by decide +kernel
theorem dX1_joinColours_28 : decode cX1_joinColours 28 = .ok (.aload_n 0, 1) := by decide +kernel
theorem dX1_joinColours_29 : decode cX1_joinColours 29 = .ok (.getfield 18, 3) := by decide +kernel
theorem dX1_joinColours_32 : decode cX1_joinColours 32 = .ok (.iload_n 2, 1) := by decide +kernel
theorem dX1_joinColours_33 : decode cX1_joinColours 33 = .ok (.iconst (-1), 1) := by decide +kernel
theorem dX1_joinColours_34 : decode cX1_joinColours 34 = .ok (.iastore, 1) := by decide +kernel
theorem dX1_joinColours_35 : decode cX1_joinColours 35 = .ok (.iinc 2 1, 3) := by decide +kernel
theorem dX1_joinColours_38 : decode cX1_joinColours 38 = .ok (.goto (-16), 3) := by decide +kernel
theorem dX1_joinColours_41 : decode cX1_joinColours 41 = .ok (.iconst 0, 1) := by decide +kernel
theorem dX1_joinColours_42 : decode cX1_joinColours 42 = .ok (.istore_n 2, 1) := by decide +kernel
theorem dX1_joinColours_43 : decode cX1_joinColours 43 = .ok (.iload_n 2, 1) := by decide +kernel
theorem dX1_joinColours_44 : decode cX1_joinColours 44 = .ok (.aload_n 1, 1) := by decide +kernel
theorem dX1_joinColours_45 : decode cX1_joinColours 45 = .ok (.getfield 33, 3) := by decide +kernel
theorem dX1_joinColours_48 : decode cX1_joinColours 48 = .ok (.if_icmp .ge 97, 3) := by decide +kernel
theorem dX1_joinColours_51 : decode cX1_joinColours 51 = .ok (.iconst 0, 1) := by decide +kernel
theorem dX1_joinColours_52 : decode cX1_joinColours 52 = .ok (.istore_n 3, 1) := by decide +kernel
theorem dX1_joinColours_53 : decode cX1_joinColours 53 = .ok (.iload_n 3, 1) := by decide +kernel
theorem dX1_joinColours_54 : decode cX1_joinColours 54 = .ok (.aload_n 1, 1) := by decide +kernel
theorem dX1_joinColours_55 : decode cX1_joinColours 55 = .ok (.getfield 33, 3) := by decide +kernel
theorem dX1_joinColours_58 : decode cX1_joinColours 58 = .ok (.if_icmp .ge 81, 3) := by decide +kernel
theorem dX1_joinColours_61 : decode cX1_joinColours 61 = .ok (.aload_n 0, 1) := by decide +kernel
theorem dX1_joinColours_62 : decode cX1_joinColours 62 = .ok (.getfield 9, 3) := by decide +kernel
theorem dX1_joinColours_65 : decode cX1_joinColours 65 = .ok (.iload_n 2, 1) := by decide +kernel
theorem dX1_joinColours_66 : decode cX1_joinColours 66 = .ok (.iaload, 1) := by decide +kernel
theorem dX1_joinColours_67 : decode cX1_joinColours 67 = .ok (.bipush 8, 2) := by decide +kernel
theorem dX1_joinColours_69 : decode cX1_joinColours 69 = .ok (.imul, 1) := by decide +kernel
theorem dX1_joinColours_70 : decode cX1_joinColours 70 = .ok (.aload_n 0, 1) := by decide +kernel
theorem dX1_joinColours_71 : decode cX1_joinColours 71 = .ok (.getfield 9, 3) := by decide +kernel
theorem dX1_joinColours_74 : decode cX1_joinColours 74 = .ok (.iload_n 3, 1) := by decide +kernel
theorem dX1_joinColours_75 : decode cX1_joinColours 75 = .ok (.iaload, 1) := by decide +kernel
theorem dX1_joinColours_76 : decode cX1_joinColours 76 = .ok (.iadd, 1) := by decide +kernel
theorem dX1_joinColours_77 : decode cX1_joinColours 77 = .ok (.istore 4, 2) := by decide +kernel
theorem dX1_joinColours_79 : decode cX1_joinColours 79 = .ok (.aload_n 0, 1) := by decide +kernel
theorem dX1_joinColours_80 : decode cX1_joinColours 80 = .ok (.getfield 18, 3) := by decide +kernel
theorem dX1_joinColours_83 : decode cX1_joinColours 83 = .ok (.iload 4, 2) := by decide +kernel
theorem dX1_joinColours_85 : decode cX1_joinColours 85 = .ok (.iaload, 1) := by decide +kernel
theorem dX1_joinColours_86 : decode cX1_joinColours 86 = .ok (.iconst (-1), 1) := by decide +kernel
theorem dX1_joinColours_87 : decode cX1_joinColours 87 = .ok (.if_icmp .ne 19, 3) := by decide +kernel
theorem dX1_joinColours_90 : decode cX1_joinColours 90 = .ok (.aload_n 0, 1) := by decide +kernel
theorem dX1_joinColours_91 : decode cX1_joinColours 91 = .ok (.getfield 18, 3) := by decide +kernel
theorem dX1_joinColours_94 : decode cX1_joinColours 94 = .ok (.iload 4, 2) := by decide +kernel
theorem dX1_joinColours_96 : decode cX1_joinColours 96 = .ok (.aload_n 1, 1) := by decide +kernel
theorem dX1_joinColours_97 : decode cX1_joinColours 97 = .ok (.iload_n 2, 1) := by decide +kernel
theorem dX1_joinColours_98 : decode cX1_joinColours 98 = .ok (.iload_n 3, 1) := by decide +kernel
theorem dX1_joinColours_99 : decode cX1_joinColours 99 = .ok (.invokevirtual 36, 3) := by decide +kernel
theorem dX1_joinColours_102 : decode cX1_joinColours 102 = .ok (.iastore, 1) := by decide +kernel
theorem dX1_joinColours_103 : decode cX1_joinColours 103 = .ok (.goto 30, 3) := by decide +kernel
theorem dX1_joinColours_106 : decode cX1_joinColours 106 = .ok (.aload_n 0, 1) := by decide +kernel
theorem dX1_joinColours_107 : decode cX1_joinColours 107 = .ok (.aload_n 0, 1) := by decide +kernel
theorem dX1_joinColours_108 : decode cX1_joinColours 108 = .ok (.getfield 15, 3) := by decide +kernel
theorem dX1_joinColours_111 : decode cX1_joinColours 111 = .ok (.aload_n 0, 1) := by decide +kernel
theorem dX1_joinColours_112 : decode cX1_joinColours 112 = .ok (.getfield 18, 3) := by decide +kernel
theorem dX1_joinColours_115 : decode cX1_joinColours 115 = .ok (.iload 4, 2) := by decide +kernel
theorem dX1_joinColours_117 : decode cX1_joinColours 117 = .ok (.iaload, 1) := by decide +kernel
theorem dX1_joinColours_118 : decode cX1_joinColours 118 = .ok (.iaload, 1) := by decide +kernel
theorem dX1_joinColours_119 : decode cX1_joinColours 119 = .ok (.aload_n 0, 1) := by decide +kernel
theorem dX1_joinColours_120 : decode cX1_joinColours 120 = .ok (.getfield 15, 3) := by decide +kernel
theorem dX1_joinColours_123 : decode cX1_joinColours 123 = .ok (.aload_n 1, 1) := by decide +kernel
theorem dX1_joinColours_124 : decode cX1_joinColours 124 = .ok (.iload_n 2, 1) := by decide +kernel
theorem dX1_joinColours_125 : decode cX1_joinColours 125 = .ok (.iload_n 3, 1) := by decide +kernel
theorem dX1_joinColours_126 : decode cX1_joinColours 126 = .ok (.invokevirtual 36, 3) := by decide +kernel
theorem dX1_joinColours_129 : decode cX1_joinColours 129 = .ok (.iaload, 1) := by decide +kernel
theorem dX1_joinColours_130 : decode cX1_joinColours 130 = .ok (.invokevirtual 55, 3) := by decide +kernel
theorem dX1_joinColours_133 : decode cX1_joinColours 133 = .ok (.iinc 3 1, 3) := by decide +kernel
theorem dX1_joinColours_136 : decode cX1_joinColours 136 = .ok (.goto (-83), 3) := by decide +kernel
theorem dX1_joinColours_139 : decode cX1_joinColours 139 = .ok (.iinc 2 1, 3) := by decide +kernel
theorem dX1_joinColours_142 : decode cX1_joinColours 142 = .ok (.goto (-99), 3) := by decide +kernel
theorem dX1_joinColours_145 : decode cX1_joinColours 145 = .ok (.return_, 1) := by decide +kernel
theorem dX1_join_0 : decode cX1_join 0 = .ok (.iload_n 1, 1) := by decide +kernel
theorem dX1_join_1 : decode cX1_join 1 = .ok (.iload_n 2, 1) := by decide +kernel
theorem dX1_join_2 : decode cX1_join 2 = .ok (.invokestatic 59, 3) := by decide +kernel
theorem dX1_join_5 : decode cX1_join 5 = .ok (.istore_n 3, 1) := by decide +kernel
theorem dX1_join_6 : decode cX1_join 6 = .ok (.iconst 0, 1) := by decide +kernel
theorem dX1_join_7 : decode cX1_join 7 = .ok (.istore 4, 2) := by decide +kernel
theorem dX1_join_9 : decode cX1_join 9 = .ok (.iload 4, 2) := by decide +kernel
theorem dX1_join_11 : decode cX1_join 11 = .ok (.iconst 5, 1) := by decide +kernel
theorem dX1_join_12 : decode cX1_join 12 = .ok (.if_icmp .ge 39, 3) := by decide +kernel
theorem dX1_join_15 : decode cX1_join 15 = .ok (.aload_n 0, 1) := by decide +kernel
theorem dX1_join_16 : decode cX1_join 16 = .ok (.getfield 15, 3) := by decide +kernel
theorem dX1_join_19 : decode cX1_join 19 = .ok (.iload 4, 2) := by decide +kernel
theorem dX1_join_21 : decode cX1_join 21 = .ok (.iaload, 1) := by decide +kernel
theorem dX1_join_22 : decode cX1_join 22 = .ok (.iload_n 1, 1) := by decide +kernel
theorem dX1_join_23 : decode cX1_join 23 = .ok (.if_icmp .eq 14, 3) := by decide +kernel
theorem dX1_join_26 : decode cX1_join 26 = .ok (.aload_n 0, 1) := by decide +kernel
theorem dX1_join_27 : decode cX1_join 27 = .ok (.getfield 15, 3) := by decide +kernel
theorem dX1_join_30 : decode cX1_join 30 = .ok (.iload 4, 2) := by decide +kernel
theorem dX1_join_32 : decode cX1_join 32 = .ok (.iaload, 1) := by decide +kernel
theorem dX1_join_33 : decode cX1_join 33 = .ok (.iload_n 2, 1) := by decide +kernel
theorem dX1_join_34 : decode cX1_join 34 = .ok (.if_icmp .ne 11, 3) := by decide +kernel
theorem dX1_join_37 : decode cX1_join 37 = .ok (.aload_n 0, 1) := by decide +kernel
theorem dX1_join_38 : decode cX1_join 38 = .ok (.getfield 15, 3) := by decide +kernel
theorem dX1_join_41 : decode cX1_join 41 = .ok (.iload 4, 2) := by decide +kernel
theorem dX1_join_43 : decode cX1_join 43 = .ok (.iload_n 3, 1) := by decide +kernel
theorem dX1_join_44 : decode cX1_join 44 = .ok (.iastore, 1) := by decide +kernel
theorem dX1_join_45 : decode cX1_join 45 = .ok (.iinc 4 1, 3) := by decide +kernel
theorem dX1_join_48 : decode cX1_join 48 = .ok (.goto (-39), 3) := by decide +kernel
theorem dX1_join_51 : decode cX1_join 51 = .ok (.return_, 1) := by decide +kernel
theorem dX1_kindOf_0 : decode cX1_kindOf 0 = .ok (.iconst 0, 1) := by decide +kernel
theorem dX1_kindOf_1 : decode cX1_kindOf 1 = .ok (.istore_n 2, 1) := by decide +kernel
theorem dX1_kindOf_2 : decode cX1_kindOf 2 = .ok (.iconst 0, 1) := by decide +kernel
theorem dX1_kindOf_3 : decode cX1_kindOf 3 = .ok (.istore_n 3, 1) := by decide +kernel
theorem dX1_kindOf_4 : decode cX1_kindOf 4 = .ok (.iload_n 3, 1) := by decide +kernel
theorem dX1_kindOf_5 : decode cX1_kindOf 5 = .ok (.aload_n 0, 1) := by decide +kernel
theorem dX1_kindOf_6 : decode cX1_kindOf 6 = .ok (.getfield 15, 3) := by decide +kernel
theorem dX1_kindOf_9 : decode cX1_kindOf 9 = .ok (.iload_n 1, 1) := by decide +kernel
theorem dX1_kindOf_10 : decode cX1_kindOf 10 = .ok (.iaload, 1) := by decide +kernel
theorem dX1_kindOf_11 : decode cX1_kindOf 11 = .ok (.if_icmp .ge 22, 3) := by decide +kernel
theorem dX1_kindOf_14 : decode cX1_kindOf 14 = .ok (.aload_n 0, 1) := by decide +kernel
theorem dX1_kindOf_15 : decode cX1_kindOf 15 = .ok (.getfield 15, 3) := by decide +kernel
theorem dX1_kindOf_18 : decode cX1_kindOf 18 = .ok (.iload_n 3, 1) := by decide +kernel
theorem dX1_kindOf_19 : decode cX1_kindOf 19 = .ok (.iaload, 1) := by decide +kernel
theorem dX1_kindOf_20 : decode cX1_kindOf 20 = .ok (.iload_n 3, 1) := by decide +kernel
theorem dX1_kindOf_21 : decode cX1_kindOf 21 = .ok (.if_icmp .ne 6, 3) := by decide +kernel
theorem dX1_kindOf_24 : decode cX1_kindOf 24 = .ok (.iinc 2 1, 3) := by decide +kernel
theorem dX1_kindOf_27 : decode cX1_kindOf 27 = .ok (.iinc 3 1, 3) := by decide +kernel
theorem dX1_kindOf_30 : decode cX1_kindOf 30 = .ok (.goto (-26), 3) := by decide +kernel
theorem dX1_kindOf_33 : decode cX1_kindOf 33 = .ok (.iload_n 2, 1) := by decide +kernel
theorem dX1_kindOf_34 : decode cX1_kindOf 34 = .ok (.ireturn, 1) := by decide +kernel
end
section
-- decode rows (by program)
theorem dX2_firstFailure_0 : decode cX2_firstFailure 0 = .ok (.iload_n 1, 1) := by decide +kernel
theorem dX2_firstFailure_1 : decode cX2_firstFailure 1 = .ok (.iload_n 1, 1) := by decide +kernel
theorem dX2_firstFailure_2 : decode cX2_firstFailure 2 = .ok (.iload_n 2, 1) := by decide +kernel
theorem dX2_firstFailure_3 : decode cX2_firstFailure 3 = .ok (.isub, 1) := by decide +kernel
theorem dX2_firstFailure_4 : decode cX2_firstFailure 4 = .ok (.iconst 1, 1) := by decide +kernel
theorem dX2_firstFailure_5 : decode cX2_firstFailure 5 = .ok (.isub, 1) := by decide +kernel
theorem dX2_firstFailure_6 : decode cX2_firstFailure 6 = .ok (.imul, 1) := by decide +kernel
theorem dX2_firstFailure_7 : decode cX2_firstFailure 7 = .ok (.iload_n 0, 1) := by decide +kernel
theorem dX2_firstFailure_8 : decode cX2_firstFailure 8 = .ok (.iload_n 1, 1) := by decide +kernel
theorem dX2_firstFailure_9 : decode cX2_firstFailure 9 = .ok (.isub, 1) := by decide +kernel
theorem dX2_firstFailure_10 : decode cX2_firstFailure 10 = .ok (.iconst 1, 1) := by decide +kernel
theorem dX2_firstFailure_11 : decode cX2_firstFailure 11 = .ok (.isub, 1) := by decide +kernel
theorem dX2_firstFailure_12 : decode cX2_firstFailure 12 = .ok (.iload_n 3, 1) := by decide +kernel
theorem dX2_firstFailure_13 : decode cX2_firstFailure 13 = .ok (.imul, 1) := by decide +kernel
theorem dX2_firstFailure_14 : decode cX2_firstFailure 14 = .ok (.if_icmp .eq 5, 3) := by decide +kernel
theorem dX2_firstFailure_17 : decode cX2_firstFailure 17 = .ok (.iconst 1, 1) := by decide +kernel
theorem dX2_firstFailure_18 : decode cX2_firstFailure 18 = .ok (.ireturn, 1) := by decide +kernel
theorem dX2_firstFailure_19 : decode cX2_firstFailure 19 = .ok (.iload_n 2, 1) := by decide +kernel
theorem dX2_firstFailure_20 : decode cX2_firstFailure 20 = .ok (.iload_n 3, 1) := by decide +kernel
theorem dX2_firstFailure_21 : decode cX2_firstFailure 21 = .ok (.isub, 1) := by decide +kernel
theorem dX2_firstFailure_22 : decode cX2_firstFailure 22 = .ok (.iload_n 2, 1) := by decide +kernel
theorem dX2_firstFailure_23 : decode cX2_firstFailure 23 = .ok (.iload_n 3, 1) := by decide +kernel
theorem dX2_firstFailure_24 : decode cX2_firstFailure 24 = .ok (.isub, 1) := by decide +kernel
theorem dX2_firstFailure_25 : decode cX2_firstFailure 25 = .ok (.imul, 1) := by decide +kernel
theorem dX2_firstFailure_26 : decode cX2_firstFailure 26 = .ok (.iconst 4, 1) := by decide +kernel
theorem dX2_firstFailure_27 : decode cX2_firstFailure 27 = .ok (.iload_n 1, 1) := by decide +kernel
theorem dX2_firstFailure_28 : decode cX2_firstFailure 28 = .ok (.iload_n 3, 1) := by decide +kernel
theorem dX2_firstFailure_29 : decode cX2_firstFailure 29 = .ok (.isub, 1) := by decide +kernel
theorem dX2_firstFailure_30 : decode cX2_firstFailure 30 = .ok (.imul, 1) := by decide +kernel
theorem dX2_firstFailure_31 : decode cX2_firstFailure 31 = .ok (.iadd, 1) := by decide +kernel
theorem dX2_firstFailure_32 : decode cX2_firstFailure 32 = .ok (.istore 4, 2) := by decide +kernel
theorem dX2_firstFailure_34 : decode cX2_firstFailure 34 = .ok (.iconst 2, 1) := by decide +kernel
theorem dX2_firstFailure_35 : decode cX2_firstFailure 35 = .ok (.iload_n 1, 1) := by decide +kernel
theorem dX2_firstFailure_36 : decode cX2_firstFailure 36 = .ok (.imul, 1) := by decide +kernel
theorem dX2_firstFailure_37 : decode cX2_firstFailure 37 = .ok (.iload_n 0, 1) := by decide +kernel
theorem dX2_firstFailure_38 : decode cX2_firstFailure 38 = .ok (.iconst 1, 1) := by decide +kernel
theorem dX2_firstFailure_39 : decode cX2_firstFailure 39 = .ok (.isub, 1) := by decide +kernel
theorem dX2_firstFailure_40 : decode cX2_firstFailure 40 = .ok (.iload_n 2, 1) := by decide +kernel
theorem dX2_firstFailure_41 : decode cX2_firstFailure 41 = .ok (.iload_n 3, 1) := by decide +kernel
theorem dX2_firstFailure_42 : decode cX2_firstFailure 42 = .ok (.isub, 1) := by decide +kernel
theorem dX2_firstFailure_43 : decode cX2_firstFailure 43 = .ok (.imul, 1) := by decide +kernel
theorem dX2_firstFailure_44 : decode cX2_firstFailure 44 = .ok (.iadd, 1) := by decide +kernel
theorem dX2_firstFailure_45 : decode cX2_firstFailure 45 = .ok (.istore 5, 2) := by decide +kernel
theorem dX2_firstFailure_47 : decode cX2_firstFailure 47 = .ok (.iload 4, 2) := by decide +kernel
theorem dX2_firstFailure_49 : decode cX2_firstFailure 49 = .ok (.ifCond .gt 5, 3) := by decide +kernel
theorem dX2_firstFailure_52 : decode cX2_firstFailure 52 = .ok (.iconst 2, 1) := by decide +kernel
theorem dX2_firstFailure_53 : decode cX2_firstFailure 53 = .ok (.ireturn, 1) := by decide +kernel
theorem dX2_firstFailure_54 : decode cX2_firstFailure 54 = .ok (.iload 5, 2) := by decide +kernel
theorem dX2_firstFailure_56 : decode cX2_firstFailure 56 = .ok (.ifCond .ne 15, 3) := by decide +kernel
theorem dX2_firstFailure_59 : decode cX2_firstFailure 59 = .ok (.iload_n 0, 1) := by decide +kernel
theorem dX2_firstFailure_60 : decode cX2_firstFailure 60 = .ok (.iconst 2, 1) := by decide +kernel
theorem dX2_firstFailure_61 : decode cX2_firstFailure 61 = .ok (.irem, 1) := by decide +kernel
theorem dX2_firstFailure_62 : decode cX2_firstFailure 62 = .ok (.ifCond .ne 7, 3) := by decide +kernel
theorem dX2_firstFailure_65 : decode cX2_firstFailure 65 = .ok (.iconst 2, 1) := by decide +kernel
theorem dX2_firstFailure_66 : decode cX2_firstFailure 66 = .ok (.goto 4, 3) := by decide +kernel
theorem dX2_firstFailure_69 : decode cX2_firstFailure 69 = .ok (.iconst 0, 1) := by decide +kernel
theorem dX2_firstFailure_70 : decode cX2_firstFailure 70 = .ok (.ireturn, 1) := by decide +kernel
theorem dX2_firstFailure_71 : decode cX2_firstFailure 71 = .ok (.iload 4, 2) := by decide +kernel
theorem dX2_firstFailure_73 : decode cX2_firstFailure 73 = .ok (.invokestatic 9, 3) := by decide +kernel
theorem dX2_firstFailure_76 : decode cX2_firstFailure 76 = .ok (.istore 6, 2) := by decide +kernel
theorem dX2_firstFailure_78 : decode cX2_firstFailure 78 = .ok (.iload 6, 2) := by decide +kernel
theorem dX2_firstFailure_80 : decode cX2_firstFailure 80 = .ok (.ifCond .le 25, 3) := by decide +kernel
theorem dX2_firstFailure_83 : decode cX2_firstFailure 83 = .ok (.iload 5, 2) := by decide +kernel
theorem dX2_firstFailure_85 : decode cX2_firstFailure 85 = .ok (.iload 6, 2) := by decide +kernel
theorem dX2_firstFailure_87 : decode cX2_firstFailure 87 = .ok (.irem, 1) := by decide +kernel
theorem dX2_firstFailure_88 : decode cX2_firstFailure 88 = .ok (.ifCond .ne 17, 3) := by decide +kernel
theorem dX2_firstFailure_91 : decode cX2_firstFailure 91 = .ok (.iload_n 0, 1) := by decide +kernel
theorem dX2_firstFailure_92 : decode cX2_firstFailure 92 = .ok (.iconst 1, 1) := by decide +kernel
theorem dX2_firstFailure_93 : decode cX2_firstFailure 93 = .ok (.isub, 1) := by decide +kernel
theorem dX2_firstFailure_94 : decode cX2_firstFailure 94 = .ok (.iload 5, 2) := by decide +kernel
theorem dX2_firstFailure_96 : decode cX2_firstFailure 96 = .ok (.iload 6, 2) := by decide +kernel
theorem dX2_firstFailure_98 : decode cX2_firstFailure 98 = .ok (.idiv, 1) := by decide +kernel
theorem dX2_firstFailure_99 : decode cX2_firstFailure 99 = .ok (.iadd, 1) := by decide +kernel
theorem dX2_firstFailure_100 : decode cX2_firstFailure 100 = .ok (.iconst 2, 1) := by decide +kernel
theorem dX2_firstFailure_101 : decode cX2_firstFailure 101 = .ok (.irem, 1) := by decide +kernel
theorem dX2_firstFailure_102 : decode cX2_firstFailure 102 = .ok (.ifCond .eq 5, 3) := by decide +kernel
theorem dX2_firstFailure_105 : decode cX2_firstFailure 105 = .ok (.iconst 2, 1) := by decide +kernel
theorem dX2_firstFailure_106 : decode cX2_firstFailure 106 = .ok (.ireturn, 1) := by decide +kernel
theorem dX2_firstFailure_107 : decode cX2_firstFailure 107 = .ok (.iload_n 2, 1) := by decide +kernel
theorem dX2_firstFailure_108 : decode cX2_firstFailure 108 = .ok (.iload_n 3, 1) := by decide +kernel
theorem dX2_firstFailure_109 : decode cX2_firstFailure 109 = .ok (.isub, 1) := by decide +kernel
theorem dX2_firstFailure_110 : decode cX2_firstFailure 110 = .ok (.iload 6, 2) := by decide +kernel
theorem dX2_firstFailure_112 : decode cX2_firstFailure 112 = .ok (.iadd, 1) := by decide +kernel
theorem dX2_firstFailure_113 : decode cX2_firstFailure 113 = .ok (.iconst 2, 1) := by decide +kernel
theorem dX2_firstFailure_114 : decode cX2_firstFailure 114 = .ok (.idiv, 1) := by decide +kernel
theorem dX2_firstFailure_115 : decode cX2_firstFailure 115 = .ok (.istore 7, 2) := by decide +kernel
theorem dX2_firstFailure_117 : decode cX2_firstFailure 117 = .ok (.iload_n 2, 1) := by decide +kernel
theorem dX2_firstFailure_118 : decode cX2_firstFailure 118 = .ok (.iload_n 3, 1) := by decide +kernel
theorem dX2_firstFailure_119 : decode cX2_firstFailure 119 = .ok (.isub, 1) := by decide +kernel
theorem dX2_firstFailure_120 : decode cX2_firstFailure 120 = .ok (.iload 6, 2) := by decide +kernel
theorem dX2_firstFailure_122 : decode cX2_firstFailure 122 = .ok (.isub, 1) := by decide +kernel
theorem dX2_firstFailure_123 : decode cX2_firstFailure 123 = .ok (.iconst 2, 1) := by decide +kernel
theorem dX2_firstFailure_124 : decode cX2_firstFailure 124 = .ok (.idiv, 1) := by decide +kernel
theorem dX2_firstFailure_125 : decode cX2_firstFailure 125 = .ok (.istore 8, 2) := by decide +kernel
theorem dX2_firstFailure_127 : decode cX2_firstFailure 127 = .ok (.iload_n 1, 1) := by decide +kernel
theorem dX2_firstFailure_128 : decode cX2_firstFailure 128 = .ok (.iload 7, 2) := by decide +kernel
theorem dX2_firstFailure_130 : decode cX2_firstFailure 130 = .ok (.iload 8, 2) := by decide +kernel
theorem dX2_firstFailure_132 : decode cX2_firstFailure 132 = .ok (.invokestatic 15, 3) := by decide +kernel
theorem dX2_firstFailure_135 : decode cX2_firstFailure 135 = .ok (.ifCond .ne 14, 3) := by decide +kernel
theorem dX2_firstFailure_138 : decode cX2_firstFailure 138 = .ok (.iload_n 1, 1) := by decide +kernel
theorem dX2_firstFailure_139 : decode cX2_firstFailure 139 = .ok (.iload 8, 2) := by decide +kernel
theorem dX2_firstFailure_141 : decode cX2_firstFailure 141 = .ok (.iload 7, 2) := by decide +kernel
theorem dX2_firstFailure_143 : decode cX2_firstFailure 143 = .ok (.invokestatic 15, 3) := by decide +kernel
theorem dX2_firstFailure_146 : decode cX2_firstFailure 146 = .ok (.ifCond .eq 5, 3) := by decide +kernel
theorem dX2_firstFailure_149 : decode cX2_firstFailure 149 = .ok (.iconst 3, 1) := by decide +kernel
theorem dX2_firstFailure_150 : decode cX2_firstFailure 150 = .ok (.ireturn, 1) := by decide +kernel
theorem dX2_firstFailure_151 : decode cX2_firstFailure 151 = .ok (.iload_n 0, 1) := by decide +kernel
theorem dX2_firstFailure_152 : decode cX2_firstFailure 152 = .ok (.iconst 1, 1) := by decide +kernel
theorem dX2_firstFailure_153 : decode cX2_firstFailure 153 = .ok (.isub, 1) := by decide +kernel
theorem dX2_firstFailure_154 : decode cX2_firstFailure 154 = .ok (.iload 5, 2) := by decide +kernel
theorem dX2_firstFailure_156 : decode cX2_firstFailure 156 = .ok (.iload 6, 2) := by decide +kernel
theorem dX2_firstFailure_158 : decode cX2_firstFailure 158 = .ok (.idiv, 1) := by decide +kernel
theorem dX2_firstFailure_159 : decode cX2_firstFailure 159 = .ok (.isub, 1) := by decide +kernel
theorem dX2_firstFailure_160 : decode cX2_firstFailure 160 = .ok (.iconst 2, 1) := by decide +kernel
theorem dX2_firstFailure_161 : decode cX2_firstFailure 161 = .ok (.idiv, 1) := by decide +kernel
theorem dX2_firstFailure_162 : decode cX2_firstFailure 162 = .ok (.istore 9, 2) := by decide +kernel
theorem dX2_firstFailure_164 : decode cX2_firstFailure 164 = .ok (.iload_n 0, 1) := by decide +kernel
theorem dX2_firstFailure_165 : decode cX2_firstFailure 165 = .ok (.iconst 1, 1) := by decide +kernel
theorem dX2_firstFailure_166 : decode cX2_firstFailure 166 = .ok (.isub, 1) := by decide +kernel
theorem dX2_firstFailure_167 : decode cX2_firstFailure 167 = .ok (.iload 5, 2) := by decide +kernel
theorem dX2_firstFailure_169 : decode cX2_firstFailure 169 = .ok (.iload 6, 2) := by decide +kernel
theorem dX2_firstFailure_171 : decode cX2_firstFailure 171 = .ok (.idiv, 1) := by decide +kernel
theorem dX2_firstFailure_172 : decode cX2_firstFailure 172 = .ok (.iadd, 1) := by decide +kernel
theorem dX2_firstFailure_173 : decode cX2_firstFailure 173 = .ok (.iconst 2, 1) := by decide +kernel
theorem dX2_firstFailure_174 : decode cX2_firstFailure 174 = .ok (.idiv, 1) := by decide +kernel
theorem dX2_firstFailure_175 : decode cX2_firstFailure 175 = .ok (.istore 10, 2) := by decide +kernel
theorem dX2_firstFailure_177 : decode cX2_firstFailure 177 = .ok (.iload_n 3, 1) := by decide +kernel
theorem dX2_firstFailure_178 : decode cX2_firstFailure 178 = .ok (.ifCond .le 12, 3) := by decide +kernel
theorem dX2_firstFailure_181 : decode cX2_firstFailure 181 = .ok (.iload_n 3, 1) := by decide +kernel
theorem dX2_firstFailure_182 : decode cX2_firstFailure 182 = .ok (.iload_n 1, 1) := by decide +kernel
theorem dX2_firstFailure_183 : decode cX2_firstFailure 183 = .ok (.if_icmp .ge 7, 3) := by decide +kernel
theorem dX2_firstFailure_186 : decode cX2_firstFailure 186 = .ok (.iconst 1, 1) := by decide +kernel
theorem dX2_firstFailure_187 : decode cX2_firstFailure 187 = .ok (.goto 4, 3) := by decide +kernel
theorem dX2_firstFailure_190 : decode cX2_firstFailure 190 = .ok (.iconst 0, 1) := by decide +kernel
theorem dX2_firstFailure_191 : decode cX2_firstFailure 191 = .ok (.istore 11, 2) := by decide +kernel
theorem dX2_firstFailure_193 : decode cX2_firstFailure 193 = .ok (.iload 11, 2) := by decide +kernel
theorem dX2_firstFailure_195 : decode cX2_firstFailure 195 = .ok (.ifCond .eq 33, 3) := by decide +kernel
theorem dX2_firstFailure_198 : decode cX2_firstFailure 198 = .ok (.iconst 2, 1) := by decide +kernel
theorem dX2_firstFailure_199 : decode cX2_firstFailure 199 = .ok (.iload_n 0, 1) := by decide +kernel
theorem dX2_firstFailure_200 : decode cX2_firstFailure 200 = .ok (.imul, 1) := by decide +kernel
theorem dX2_firstFailure_201 : decode cX2_firstFailure 201 = .ok (.iload 9, 2) := by decide +kernel
theorem dX2_firstFailure_203 : decode cX2_firstFailure 203 = .ok (.iload 9, 2) := by decide +kernel
theorem dX2_firstFailure_205 : decode cX2_firstFailure 205 = .ok (.iconst 3, 1) := by decide +kernel
theorem dX2_firstFailure_206 : decode cX2_firstFailure 206 = .ok (.iadd, 1) := by decide +kernel
theorem dX2_firstFailure_207 : decode cX2_firstFailure 207 = .ok (.imul, 1) := by decide +kernel
theorem dX2_firstFailure_208 : decode cX2_firstFailure 208 = .ok (.if_icmp .gt 16, 3) := by decide +kernel
theorem dX2_firstFailure_211 : decode cX2_firstFailure 211 = .ok (.iconst 2, 1) := by decide +kernel
theorem dX2_firstFailure_212 : decode cX2_firstFailure 212 = .ok (.iload_n 0, 1) := by decide +kernel
theorem dX2_firstFailure_213 : decode cX2_firstFailure 213 = .ok (.imul, 1) := by decide +kernel
theorem dX2_firstFailure_214 : decode cX2_firstFailure 214 = .ok (.iload 10, 2) := by decide +kernel
theorem dX2_firstFailure_216 : decode cX2_firstFailure 216 = .ok (.iload 10, 2) := by decide +kernel
theorem dX2_firstFailure_218 : decode cX2_firstFailure 218 = .ok (.iconst 3, 1) := by decide +kernel
theorem dX2_firstFailure_219 : decode cX2_firstFailure 219 = .ok (.iadd, 1) := by decide +kernel
theorem dX2_firstFailure_220 : decode cX2_firstFailure 220 = .ok (.imul, 1) := by decide +kernel
theorem dX2_firstFailure_221 : decode cX2_firstFailure 221 = .ok (.if_icmp .le 7, 3) := by decide +kernel
theorem dX2_firstFailure_224 : decode cX2_firstFailure 224 = .ok (.iconst 4, 1) := by decide +kernel
theorem dX2_firstFailure_225 : decode cX2_firstFailure 225 = .ok (.goto 4, 3) := by decide +kernel
theorem dX2_firstFailure_228 : decode cX2_firstFailure 228 = .ok (.iconst 0, 1) := by decide +kernel
theorem dX2_firstFailure_229 : decode cX2_firstFailure 229 = .ok (.ireturn, 1) := by decide +kernel
theorem dX2_breaksBound_0 : decode cX2_breaksBound 0 = .ok (.iload_n 1, 1) := by decide +kernel
theorem dX2_breaksBound_1 : decode cX2_breaksBound 1 = .ok (.iconst 1, 1) := by decide +kernel
theorem dX2_breaksBound_2 : decode cX2_breaksBound 2 = .ok (.iadd, 1) := by decide +kernel
theorem dX2_breaksBound_3 : decode cX2_breaksBound 3 = .ok (.iload_n 0, 1) := by decide +kernel
theorem dX2_breaksBound_4 : decode cX2_breaksBound 4 = .ok (.iload_n 1, 1) := by decide +kernel
theorem dX2_breaksBound_5 : decode cX2_breaksBound 5 = .ok (.iadd, 1) := by decide +kernel
theorem dX2_breaksBound_6 : decode cX2_breaksBound 6 = .ok (.iconst 2, 1) := by decide +kernel
theorem dX2_breaksBound_7 : decode cX2_breaksBound 7 = .ok (.iload_n 1, 1) := by decide +kernel
theorem dX2_breaksBound_8 : decode cX2_breaksBound 8 = .ok (.imul, 1) := by decide +kernel
theorem dX2_breaksBound_9 : decode cX2_breaksBound 9 = .ok (.iload_n 2, 1) := by decide +kernel
theorem dX2_breaksBound_10 : decode cX2_breaksBound 10 = .ok (.imul, 1) := by decide +kernel
theorem dX2_breaksBound_11 : decode cX2_breaksBound 11 = .ok (.iadd, 1) := by decide +kernel
theorem dX2_breaksBound_12 : decode cX2_breaksBound 12 = .ok (.imul, 1) := by decide +kernel
theorem dX2_breaksBound_13 : decode cX2_breaksBound 13 = .ok (.iload_n 0, 1) := by decide +kernel
theorem dX2_breaksBound_14 : decode cX2_breaksBound 14 = .ok (.iload_n 1, 1) := by decide +kernel
theorem dX2_breaksBound_15 : decode cX2_breaksBound 15 = .ok (.iadd, 1) := by decide +kernel
theorem dX2_breaksBound_16 : decode cX2_breaksBound 16 = .ok (.iload_n 2, 1) := by decide +kernel
theorem dX2_breaksBound_17 : decode cX2_breaksBound 17 = .ok (.iconst 1, 1) := by decide +kernel
theorem dX2_breaksBound_18 : decode cX2_breaksBound 18 = .ok (.iadd, 1) := by decide +kernel
theorem dX2_breaksBound_19 : decode cX2_breaksBound 19 = .ok (.imul, 1) := by decide +kernel
theorem dX2_breaksBound_20 : decode cX2_breaksBound 20 = .ok (.iload_n 2, 1) := by decide +kernel
theorem dX2_breaksBound_21 : decode cX2_breaksBound 21 = .ok (.iconst 1, 1) := by decide +kernel
theorem dX2_breaksBound_22 : decode cX2_breaksBound 22 = .ok (.iadd, 1) := by decide +kernel
theorem dX2_breaksBound_23 : decode cX2_breaksBound 23 = .ok (.imul, 1) := by decide +kernel
theorem dX2_breaksBound_24 : decode cX2_breaksBound 24 = .ok (.if_icmp .le 7, 3) := by decide +kernel
theorem dX2_breaksBound_27 : decode cX2_breaksBound 27 = .ok (.iconst 1, 1) := by decide +kernel
theorem dX2_breaksBound_28 : decode cX2_breaksBound 28 = .ok (.goto 4, 3) := by decide +kernel
theorem dX2_breaksBound_31 : decode cX2_breaksBound 31 = .ok (.iconst 0, 1) := by decide +kernel
theorem dX2_breaksBound_32 : decode cX2_breaksBound 32 = .ok (.ireturn, 1) := by decide +kernel
theorem dX2_wholeRoot_0 : decode cX2_wholeRoot 0 = .ok (.iconst 0, 1) := by decide +kernel
theorem dX2_wholeRoot_1 : decode cX2_wholeRoot 1 = .ok (.istore_n 1, 1) := by decide +kernel
theorem dX2_wholeRoot_2 : decode cX2_wholeRoot 2 = .ok (.iload_n 1, 1) := by decide +kernel
theorem dX2_wholeRoot_3 : decode cX2_wholeRoot 3 = .ok (.sipush 200, 3) := by decide +kernel
theorem dX2_wholeRoot_6 : decode cX2_wholeRoot 6 = .ok (.if_icmp .gt 18, 3) := by decide +kernel
theorem dX2_wholeRoot_9 : decode cX2_wholeRoot 9 = .ok (.iload_n 1, 1) := by decide +kernel
theorem dX2_wholeRoot_10 : decode cX2_wholeRoot 10 = .ok (.iload_n 1, 1) := by decide +kernel
theorem dX2_wholeRoot_11 : decode cX2_wholeRoot 11 = .ok (.imul, 1) := by decide +kernel
theorem dX2_wholeRoot_12 : decode cX2_wholeRoot 12 = .ok (.iload_n 0, 1) := by decide +kernel
theorem dX2_wholeRoot_13 : decode cX2_wholeRoot 13 = .ok (.if_icmp .ne 5, 3) := by decide +kernel
theorem dX2_wholeRoot_16 : decode cX2_wholeRoot 16 = .ok (.iload_n 1, 1) := by decide +kernel
theorem dX2_wholeRoot_17 : decode cX2_wholeRoot 17 = .ok (.ireturn, 1) := by decide +kernel
theorem dX2_wholeRoot_18 : decode cX2_wholeRoot 18 = .ok (.iinc 1 1, 3) := by decide +kernel
theorem dX2_wholeRoot_21 : decode cX2_wholeRoot 21 = .ok (.goto (-19), 3) := by decide +kernel
theorem dX2_wholeRoot_24 : decode cX2_wholeRoot 24 = .ok (.iconst (-1), 1) := by decide +kernel
theorem dX2_wholeRoot_25 : decode cX2_wholeRoot 25 = .ok (.ireturn, 1) := by decide +kernel
end
section
-- decode rows (by program)
theorem dX3_init_0 : decode cX3_init 0 = .ok (.aload_n 0, 1) := by decide +kernel
theorem dX3_init_1 : decode cX3_init 1 = .ok (.invokespecial 3, 3) := by decide +kernel
theorem dX3_init_4 : decode cX3_init 4 = .ok (.aload_n 0, 1) := by decide +kernel
theorem dX3_init_5 : decode cX3_init 5 = .ok (.iconst 5, 1) := by decide +kernel
theorem dX3_init_6 : decode cX3_init 6 = .ok (.newarray .long, 2) := by decide +kernel
theorem dX3_init_8 : decode cX3_init 8 = .ok (.putfield 9, 3) := by decide +kernel
theorem dX3_init_11 : decode cX3_init 11 = .ok (.aload_n 0, 1) := by decide +kernel
theorem dX3_init_12 : decode cX3_init 12 = .ok (.bipush 8, 2) := by decide +kernel
theorem dX3_init_14 : decode cX3_init 14 = .ok (.newarray .long, 2) := by decide +kernel
theorem dX3_init_16 : decode cX3_init 16 = .ok (.putfield 15, 3) := by decide +kernel
theorem dX3_init_19 : decode cX3_init 19 = .ok (.aload_n 0, 1) := by decide +kernel
theorem dX3_init_20 : decode cX3_init 20 = .ok (.bipush 8, 2) := by decide +kernel
theorem dX3_init_22 : decode cX3_init 22 = .ok (.newarray .long, 2) := by decide +kernel
theorem dX3_init_24 : decode cX3_init 24 = .ok (.putfield 18, 3) := by decide +kernel
theorem dX3_init_27 : decode cX3_init 27 = .ok (.aload_n 0, 1) := by decide +kernel
theorem dX3_init_28 : decode cX3_init 28 = .ok (.lconst 1, 1) := by decide +kernel
theorem dX3_init_29 : decode cX3_init 29 = .ok (.putfield 21, 3) := by decide +kernel
theorem dX3_init_32 : decode cX3_init 32 = .ok (.return_, 1) := by decide +kernel
theorem dX3_go_0 : decode cX3_go 0 = .ok (.aload_n 0, 1) := by decide +kernel
theorem dX3_go_1 : decode cX3_go 1 = .ok (.aload_n 1, 1) := by decide +kernel
theorem dX3_go_2 : decode cX3_go 2 = .ok (.aload_n 2, 1) := by decide +kernel
theorem dX3_go_3 : decode cX3_go 3 = .ok (.invokevirtual 25, 3) := by decide +kernel
theorem dX3_go_6 : decode cX3_go 6 = .ok (.lstore 4, 2) := by decide +kernel
theorem dX3_go_8 : decode cX3_go 8 = .ok (.iconst 0, 1) := by decide +kernel
theorem dX3_go_9 : decode cX3_go 9 = .ok (.istore 6, 2) := by decide +kernel
theorem dX3_go_11 : decode cX3_go 11 = .ok (.iload 6, 2) := by decide +kernel
theorem dX3_go_13 : decode cX3_go 13 = .ok (.bipush 8, 2) := by decide +kernel
theorem dX3_go_15 : decode cX3_go 15 = .ok (.if_icmp .ge 26, 3) := by decide +kernel
theorem dX3_go_18 : decode cX3_go 18 = .ok (.aload_n 0, 1) := by decide +kernel
theorem dX3_go_19 : decode cX3_go 19 = .ok (.getfield 15, 3) := by decide +kernel
theorem dX3_go_22 : decode cX3_go 22 = .ok (.iload 6, 2) := by decide +kernel
theorem dX3_go_24 : decode cX3_go 24 = .ok (.iload 6, 2) := by decide +kernel
theorem dX3_go_26 : decode cX3_go 26 = .ok (.ifCond .ne 7, 3) := by decide +kernel
theorem dX3_go_29 : decode cX3_go 29 = .ok (.lconst 1, 1) := by decide +kernel
theorem dX3_go_30 : decode cX3_go 30 = .ok (.goto 4, 3) := by decide +kernel
theorem dX3_go_33 : decode cX3_go 33 = .ok (.lconst 0, 1) := by decide +kernel
theorem dX3_go_34 : decode cX3_go 34 = .ok (.lastore, 1) := by decide +kernel
theorem dX3_go_35 : decode cX3_go 35 = .ok (.iinc 6 1, 3) := by decide +kernel
theorem dX3_go_38 : decode cX3_go 38 = .ok (.goto (-27), 3) := by decide +kernel
theorem dX3_go_41 : decode cX3_go 41 = .ok (.aload_n 0, 1) := by decide +kernel
theorem dX3_go_42 : decode cX3_go 42 = .ok (.lconst 1, 1) := by decide +kernel
theorem dX3_go_43 : decode cX3_go 43 = .ok (.putfield 21, 3) := by decide +kernel
theorem dX3_go_46 : decode cX3_go 46 = .ok (.iconst 0, 1) := by decide +kernel
theorem dX3_go_47 : decode cX3_go 47 = .ok (.istore 6, 2) := by decide +kernel
theorem dX3_go_49 : decode cX3_go 49 = .ok (.iload 6, 2) := by decide +kernel
theorem dX3_go_51 : decode cX3_go 51 = .ok (.iload_n 3, 1) := by decide +kernel
theorem dX3_go_52 : decode cX3_go 52 = .ok (.if_icmp .ge 25, 3) := by decide +kernel
theorem dX3_go_55 : decode cX3_go 55 = .ok (.aload_n 0, 1) := by decide +kernel
theorem dX3_go_56 : decode cX3_go 56 = .ok (.aload_n 1, 1) := by decide +kernel
theorem dX3_go_57 : decode cX3_go 57 = .ok (.invokevirtual 29, 3) := by decide +kernel
theorem dX3_go_60 : decode cX3_go 60 = .ok (.aload_n 0, 1) := by decide +kernel
theorem dX3_go_61 : decode cX3_go 61 = .ok (.dup, 1) := by decide +kernel
theorem dX3_go_62 : decode cX3_go 62 = .ok (.getfield 21, 3) := by decide +kernel
theorem dX3_go_65 : decode cX3_go 65 = .ok (.lload 4, 2) := by decide +kernel
theorem dX3_go_67 : decode cX3_go 67 = .ok (.lmul, 1) := by decide +kernel
theorem dX3_go_68 : decode cX3_go 68 = .ok (.putfield 21, 3) := by decide +kernel
theorem dX3_go_71 : decode cX3_go 71 = .ok (.iinc 6 1, 3) := by decide +kernel
theorem dX3_go_74 : decode cX3_go 74 = .ok (.goto (-25), 3) := by decide +kernel
theorem dX3_go_77 : decode cX3_go 77 = .ok (.return_, 1) := by decide +kernel
theorem dX3_share_0 : decode cX3_share 0 = .ok (.lconst 1, 1) := by decide +kernel
theorem dX3_share_1 : decode cX3_share 1 = .ok (.lstore_n 3, 1) := by decide +kernel
theorem dX3_share_2 : decode cX3_share 2 = .ok (.iconst 0, 1) := by decide +kernel
theorem dX3_share_3 : decode cX3_share 3 = .ok (.istore 5, 2) := by decide +kernel
theorem dX3_share_5 : decode cX3_share 5 = .ok (.iload 5, 2) := by decide +kernel
theorem dX3_share_7 : decode cX3_share 7 = .ok (.aload_n 1, 1) := by decide +kernel
theorem dX3_share_8 : decode cX3_share 8 = .ok (.getfield 33, 3) := by decide +kernel
theorem dX3_share_11 : decode cX3_share 11 = .ok (.if_icmp .ge 21, 3) := by decide +kernel
theorem dX3_share_14 : decode cX3_share 14 = .ok (.lload_n 3, 1) := by decide +kernel
theorem dX3_share_15 : decode cX3_share 15 = .ok (.aload_n 1, 1) := by decide +kernel
theorem dX3_share_16 : decode cX3_share 16 = .ok (.iload 5, 2) := by decide +kernel
theorem dX3_share_18 : decode cX3_share 18 = .ok (.invokevirtual 39, 3) := by decide +kernel
theorem dX3_share_21 : decode cX3_share 21 = .ok (.i2l, 1) := by decide +kernel
theorem dX3_share_22 : decode cX3_share 22 = .ok (.invokestatic 43, 3) := by decide +kernel
theorem dX3_share_25 : decode cX3_share 25 = .ok (.lstore_n 3, 1) := by decide +kernel
theorem dX3_share_26 : decode cX3_share 26 = .ok (.iinc 5 1, 3) := by decide +kernel
theorem dX3_share_29 : decode cX3_share 29 = .ok (.goto (-24), 3) := by decide +kernel
theorem dX3_share_32 : decode cX3_share 32 = .ok (.lconst 0, 1) := by decide +kernel
theorem dX3_share_33 : decode cX3_share 33 = .ok (.lstore 5, 2) := by decide +kernel
theorem dX3_share_35 : decode cX3_share 35 = .ok (.iconst 0, 1) := by decide +kernel
theorem dX3_share_36 : decode cX3_share 36 = .ok (.istore 7, 2) := by decide +kernel
theorem dX3_share_38 : decode cX3_share 38 = .ok (.iload 7, 2) := by decide +kernel
theorem dX3_share_40 : decode cX3_share 40 = .ok (.aload_n 1, 1) := by decide +kernel
theorem dX3_share_41 : decode cX3_share 41 = .ok (.getfield 33, 3) := by decide +kernel
theorem dX3_share_44 : decode cX3_share 44 = .ok (.if_icmp .ge 54, 3) := by decide +kernel
theorem dX3_share_47 : decode cX3_share 47 = .ok (.aload_n 1, 1) := by decide +kernel
theorem dX3_share_48 : decode cX3_share 48 = .ok (.iload 7, 2) := by decide +kernel
theorem dX3_share_50 : decode cX3_share 50 = .ok (.invokevirtual 39, 3) := by decide +kernel
theorem dX3_share_53 : decode cX3_share 53 = .ok (.istore 8, 2) := by decide +kernel
theorem dX3_share_55 : decode cX3_share 55 = .ok (.aload_n 0, 1) := by decide +kernel
theorem dX3_share_56 : decode cX3_share 56 = .ok (.getfield 9, 3) := by decide +kernel
theorem dX3_share_59 : decode cX3_share 59 = .ok (.iload 7, 2) := by decide +kernel
theorem dX3_share_61 : decode cX3_share 61 = .ok (.iload 8, 2) := by decide +kernel
theorem dX3_share_63 : decode cX3_share 63 = .ok (.ifCond .ne 7, 3) := by decide +kernel
theorem dX3_share_66 : decode cX3_share 66 = .ok (.lconst 0, 1) := by decide +kernel
theorem dX3_share_67 : decode cX3_share 67 = .ok (.goto 14, 3) := by decide +kernel
theorem dX3_share_70 : decode cX3_share 70 = .ok (.aload_n 2, 1) := by decide +kernel
theorem dX3_share_71 : decode cX3_share 71 = .ok (.iload 7, 2) := by decide +kernel
theorem dX3_share_73 : decode cX3_share 73 = .ok (.iaload, 1) := by decide +kernel
theorem dX3_share_74 : decode cX3_share 74 = .ok (.i2l, 1) := by decide +kernel
theorem dX3_share_75 : decode cX3_share 75 = .ok (.lload_n 3, 1) := by decide +kernel
theorem dX3_share_76 : decode cX3_share 76 = .ok (.iload 8, 2) := by decide +kernel
theorem dX3_share_78 : decode cX3_share 78 = .ok (.i2l, 1) := by decide +kernel
theorem dX3_share_79 : decode cX3_share 79 = .ok (.ldiv, 1) := by decide +kernel
theorem dX3_share_80 : decode cX3_share 80 = .ok (.lmul, 1) := by decide +kernel
theorem dX3_share_81 : decode cX3_share 81 = .ok (.lastore, 1) := by decide +kernel
theorem dX3_share_82 : decode cX3_share 82 = .ok (.lload 5, 2) := by decide +kernel
theorem dX3_share_84 : decode cX3_share 84 = .ok (.aload_n 2, 1) := by decide +kernel
theorem dX3_share_85 : decode cX3_share 85 = .ok (.iload 7, 2) := by decide +kernel
theorem dX3_share_87 : decode cX3_share 87 = .ok (.iaload, 1) := by decide +kernel
theorem dX3_share_88 : decode cX3_share 88 = .ok (.i2l, 1) := by decide +kernel
theorem dX3_share_89 : decode cX3_share 89 = .ok (.ladd, 1) := by decide +kernel
theorem dX3_share_90 : decode cX3_share 90 = .ok (.lstore 5, 2) := by decide +kernel
theorem dX3_share_92 : decode cX3_share 92 = .ok (.iinc 7 1, 3) := by decide +kernel
theorem dX3_share_95 : decode cX3_share 95 = .ok (.goto (-57), 3) := by decide +kernel
theorem dX3_share_98 : decode cX3_share 98 = .ok (.lload 5, 2) := by decide +kernel
theorem dX3_share_100 : decode cX3_share 100 = .ok (.lload_n 3, 1) := by decide +kernel
theorem dX3_share_101 : decode cX3_share 101 = .ok (.lmul, 1) := by decide +kernel
theorem dX3_share_102 : decode cX3_share 102 = .ok (.lreturn, 1) := by decide +kernel
theorem dX3_step_0 : decode cX3_step 0 = .ok (.iconst 0, 1) := by decide +kernel
theorem dX3_step_1 : decode cX3_step 1 = .ok (.istore_n 2, 1) := by decide +kernel
theorem dX3_step_2 : decode cX3_step 2 = .ok (.iload_n 2, 1) := by decide +kernel
theorem dX3_step_3 : decode cX3_step 3 = .ok (.aload_n 1, 1) := by decide +kernel
theorem dX3_step_4 : decode cX3_step 4 = .ok (.getfield 47, 3) := by decide +kernel
theorem dX3_step_7 : decode cX3_step 7 = .ok (.if_icmp .ge 59, 3) := by decide +kernel
theorem dX3_step_10 : decode cX3_step 10 = .ok (.aload_n 0, 1) := by decide +kernel
theorem dX3_step_11 : decode cX3_step 11 = .ok (.getfield 18, 3) := by decide +kernel
theorem dX3_step_14 : decode cX3_step 14 = .ok (.iload_n 2, 1) := by decide +kernel
theorem dX3_step_15 : decode cX3_step 15 = .ok (.lconst 0, 1) := by decide +kernel
theorem dX3_step_16 : decode cX3_step 16 = .ok (.lastore, 1) := by decide +kernel
theorem dX3_step_17 : decode cX3_step 17 = .ok (.iconst 0, 1) := by decide +kernel
theorem dX3_step_18 : decode cX3_step 18 = .ok (.istore_n 3, 1) := by decide +kernel
theorem dX3_step_19 : decode cX3_step 19 = .ok (.iload_n 3, 1) := by decide +kernel
theorem dX3_step_20 : decode cX3_step 20 = .ok (.aload_n 1, 1) := by decide +kernel
theorem dX3_step_21 : decode cX3_step 21 = .ok (.getfield 47, 3) := by decide +kernel
theorem dX3_step_24 : decode cX3_step 24 = .ok (.if_icmp .ge 36, 3) := by decide +kernel
theorem dX3_step_27 : decode cX3_step 27 = .ok (.aload_n 0, 1) := by decide +kernel
theorem dX3_step_28 : decode cX3_step 28 = .ok (.getfield 18, 3) := by decide +kernel
theorem dX3_step_31 : decode cX3_step 31 = .ok (.iload_n 2, 1) := by decide +kernel
theorem dX3_step_32 : decode cX3_step 32 = .ok (.dup2, 1) := by decide +kernel
theorem dX3_step_33 : decode cX3_step 33 = .ok (.laload, 1) := by decide +kernel
theorem dX3_step_34 : decode cX3_step 34 = .ok (.aload_n 0, 1) := by decide +kernel
theorem dX3_step_35 : decode cX3_step 35 = .ok (.getfield 15, 3) := by decide +kernel
theorem dX3_step_38 : decode cX3_step 38 = .ok (.iload_n 3, 1) := by decide +kernel
theorem dX3_step_39 : decode cX3_step 39 = .ok (.laload, 1) := by decide +kernel
theorem dX3_step_40 : decode cX3_step 40 = .ok (.aload_n 0, 1) := by decide +kernel
theorem dX3_step_41 : decode cX3_step 41 = .ok (.getfield 9, 3) := by decide +kernel
theorem dX3_step_44 : decode cX3_step 44 = .ok (.aload_n 1, 1) := by decide +kernel
theorem dX3_step_45 : decode cX3_step 45 = .ok (.iload_n 3, 1) := by decide +kernel
theorem dX3_step_46 : decode cX3_step 46 = .ok (.iload_n 2, 1) := by decide +kernel
theorem dX3_step_47 : decode cX3_step 47 = .ok (.invokevirtual 50, 3) := by decide +kernel
theorem dX3_step_50 : decode cX3_step 50 = .ok (.laload, 1) := by decide +kernel
theorem dX3_step_51 : decode cX3_step 51 = .ok (.lmul, 1) := by decide +kernel
theorem dX3_step_52 : decode cX3_step 52 = .ok (.ladd, 1) := by decide +kernel
theorem dX3_step_53 : decode cX3_step 53 = .ok (.lastore, 1) := by decide +kernel
theorem dX3_step_54 : decode cX3_step 54 = .ok (.iinc 3 1, 3) := by decide +kernel
theorem dX3_step_57 : decode cX3_step 57 = .ok (.goto (-38), 3) := by decide +kernel
theorem dX3_step_60 : decode cX3_step 60 = .ok (.iinc 2 1, 3) := by decide +kernel
theorem dX3_step_63 : decode cX3_step 63 = .ok (.goto (-61), 3) := by decide +kernel
theorem dX3_step_66 : decode cX3_step 66 = .ok (.iconst 0, 1) := by decide +kernel
theorem dX3_step_67 : decode cX3_step 67 = .ok (.istore_n 2, 1) := by decide +kernel
theorem dX3_step_68 : decode cX3_step 68 = .ok (.iload_n 2, 1) := by decide +kernel
theorem dX3_step_69 : decode cX3_step 69 = .ok (.aload_n 1, 1) := by decide +kernel
theorem dX3_step_70 : decode cX3_step 70 = .ok (.getfield 47, 3) := by decide +kernel
theorem dX3_step_73 : decode cX3_step 73 = .ok (.if_icmp .ge 21, 3) := by decide +kernel
theorem dX3_step_76 : decode cX3_step 76 = .ok (.aload_n 0, 1) := by decide +kernel
theorem dX3_step_77 : decode cX3_step 77 = .ok (.getfield 15, 3) := by decide +kernel
theorem dX3_step_80 : decode cX3_step 80 = .ok (.iload_n 2, 1) := by decide +kernel
theorem dX3_step_81 : decode cX3_step 81 = .ok (.aload_n 0, 1) := by decide +kernel
theorem dX3_step_82 : decode cX3_step 82 = .ok (.getfield 18, 3) := by decide +kernel
theorem dX3_step_85 : decode cX3_step 85 = .ok (.iload_n 2, 1) := by decide +kernel
theorem dX3_step_86 : decode cX3_step 86 = .ok (.laload, 1) := by decide +kernel
theorem dX3_step_87 : decode cX3_step 87 = .ok (.lastore, 1) := by decide +kernel
theorem dX3_step_88 : decode cX3_step 88 = .ok (.iinc 2 1, 3) := by decide +kernel
theorem dX3_step_91 : decode cX3_step 91 = .ok (.goto (-23), 3) := by decide +kernel
theorem dX3_step_94 : decode cX3_step 94 = .ok (.return_, 1) := by decide +kernel
theorem dX3_waysTo_0 : decode cX3_waysTo 0 = .ok (.lconst 0, 1) := by decide +kernel
theorem dX3_waysTo_1 : decode cX3_waysTo 1 = .ok (.lstore_n 3, 1) := by decide +kernel
theorem dX3_waysTo_2 : decode cX3_waysTo 2 = .ok (.iconst 0, 1) := by decide +kernel
theorem dX3_waysTo_3 : decode cX3_waysTo 3 = .ok (.istore 5, 2) := by decide +kernel
theorem dX3_waysTo_5 : decode cX3_waysTo 5 = .ok (.iload 5, 2) := by decide +kernel
theorem dX3_waysTo_7 : decode cX3_waysTo 7 = .ok (.aload_n 1, 1) := by decide +kernel
theorem dX3_waysTo_8 : decode cX3_waysTo 8 = .ok (.getfield 47, 3) := by decide +kernel
theorem dX3_waysTo_11 : decode cX3_waysTo 11 = .ok (.if_icmp .ge 30, 3) := by decide +kernel
theorem dX3_waysTo_14 : decode cX3_waysTo 14 = .ok (.aload_n 1, 1) := by decide +kernel
theorem dX3_waysTo_15 : decode cX3_waysTo 15 = .ok (.iconst 0, 1) := by decide +kernel
theorem dX3_waysTo_16 : decode cX3_waysTo 16 = .ok (.iload 5, 2) := by decide +kernel
theorem dX3_waysTo_18 : decode cX3_waysTo 18 = .ok (.invokevirtual 50, 3) := by decide +kernel
theorem dX3_waysTo_21 : decode cX3_waysTo 21 = .ok (.iload_n 2, 1) := by decide +kernel
theorem dX3_waysTo_22 : decode cX3_waysTo 22 = .ok (.if_icmp .ne 13, 3) := by decide +kernel
theorem dX3_waysTo_25 : decode cX3_waysTo 25 = .ok (.lload_n 3, 1) := by decide +kernel
theorem dX3_waysTo_26 : decode cX3_waysTo 26 = .ok (.aload_n 0, 1) := by decide +kernel
theorem dX3_waysTo_27 : decode cX3_waysTo 27 = .ok (.getfield 15, 3) := by decide +kernel
theorem dX3_waysTo_30 : decode cX3_waysTo 30 = .ok (.iload 5, 2) := by decide +kernel
theorem dX3_waysTo_32 : decode cX3_waysTo 32 = .ok (.laload, 1) := by decide +kernel
theorem dX3_waysTo_33 : decode cX3_waysTo 33 = .ok (.ladd, 1) := by decide +kernel
theorem dX3_waysTo_34 : decode cX3_waysTo 34 = .ok (.lstore_n 3, 1) := by decide +kernel
theorem dX3_waysTo_35 : decode cX3_waysTo 35 = .ok (.iinc 5 1, 3) := by decide +kernel
theorem dX3_waysTo_38 : decode cX3_waysTo 38 = .ok (.goto (-33), 3) := by decide +kernel
theorem dX3_waysTo_41 : decode cX3_waysTo 41 = .ok (.lload_n 3, 1) := by decide +kernel
theorem dX3_waysTo_42 : decode cX3_waysTo 42 = .ok (.lreturn, 1) := by decide +kernel
theorem dX3_commonMultiple_0 : decode cX3_commonMultiple 0 = .ok (.lload_n 0, 1) := by decide +kernel
theorem dX3_commonMultiple_1 : decode cX3_commonMultiple 1 = .ok (.lload_n 2, 1) := by decide +kernel
theorem dX3_commonMultiple_2 : decode cX3_commonMultiple 2 = .ok (.invokestatic 54, 3) := by decide +kernel
theorem dX3_commonMultiple_5 : decode cX3_commonMultiple 5 = .ok (.lstore 4, 2) := by decide +kernel
theorem dX3_commonMultiple_7 : decode cX3_commonMultiple 7 = .ok (.lload 4, 2) := by decide +kernel
theorem dX3_commonMultiple_9 : decode cX3_commonMultiple 9 = .ok (.lconst 0, 1) := by decide +kernel
theorem dX3_commonMultiple_10 : decode cX3_commonMultiple 10 = .ok (.lcmp, 1) := by decide +kernel
theorem dX3_commonMultiple_11 : decode cX3_commonMultiple 11 = .ok (.ifCond .ne 7, 3) := by decide +kernel
theorem dX3_commonMultiple_14 : decode cX3_commonMultiple 14 = .ok (.lconst 0, 1) := by decide +kernel
theorem dX3_commonMultiple_15 : decode cX3_commonMultiple 15 = .ok (.goto 9, 3) := by decide +kernel
theorem dX3_commonMultiple_18 : decode cX3_commonMultiple 18 = .ok (.lload_n 0, 1) := by decide +kernel
theorem dX3_commonMultiple_19 : decode cX3_commonMultiple 19 = .ok (.lload 4, 2) := by decide +kernel
theorem dX3_commonMultiple_21 : decode cX3_commonMultiple 21 = .ok (.ldiv, 1) := by decide +kernel
theorem dX3_commonMultiple_22 : decode cX3_commonMultiple 22 = .ok (.lload_n 2, 1) := by decide +kernel
theorem dX3_commonMultiple_23 : decode cX3_commonMultiple 23 = .ok (.lmul, 1) := by decide +kernel
theorem dX3_commonMultiple_24 : decode cX3_commonMultiple 24 = .ok (.lreturn, 1) := by decide +kernel
theorem dX3_commonDivisor_0 : decode cX3_commonDivisor 0 = .ok (.lload_n 0, 1) := by decide +kernel
theorem dX3_commonDivisor_1 : decode cX3_commonDivisor 1 = .ok (.lstore 4, 2) := by decide +kernel
theorem dX3_commonDivisor_3 : decode cX3_commonDivisor 3 = .ok (.lload_n 2, 1) := by decide +kernel
theorem dX3_commonDivisor_4 : decode cX3_commonDivisor 4 = .ok (.lstore 6, 2) := by decide +kernel
theorem dX3_commonDivisor_6 : decode cX3_commonDivisor 6 = .ok (.iconst 0, 1) := by decide +kernel
theorem dX3_commonDivisor_7 : decode cX3_commonDivisor 7 = .ok (.istore 8, 2) := by decide +kernel
theorem dX3_commonDivisor_9 : decode cX3_commonDivisor 9 = .ok (.iload 8, 2) := by decide +kernel
theorem dX3_commonDivisor_11 : decode cX3_commonDivisor 11 = .ok (.sipush 200, 3) := by decide +kernel
theorem dX3_commonDivisor_14 : decode cX3_commonDivisor 14 = .ok (.if_icmp .ge 31, 3) := by decide +kernel
theorem dX3_commonDivisor_17 : decode cX3_commonDivisor 17 = .ok (.lload 6, 2) := by decide +kernel
theorem dX3_commonDivisor_19 : decode cX3_commonDivisor 19 = .ok (.lconst 0, 1) := by decide +kernel
theorem dX3_commonDivisor_20 : decode cX3_commonDivisor 20 = .ok (.lcmp, 1) := by decide +kernel
theorem dX3_commonDivisor_21 : decode cX3_commonDivisor 21 = .ok (.ifCond .eq 24, 3) := by decide +kernel
theorem dX3_commonDivisor_24 : decode cX3_commonDivisor 24 = .ok (.lload 4, 2) := by decide +kernel
theorem dX3_commonDivisor_26 : decode cX3_commonDivisor 26 = .ok (.lload 6, 2) := by decide +kernel
theorem dX3_commonDivisor_28 : decode cX3_commonDivisor 28 = .ok (.lrem, 1) := by decide +kernel
theorem dX3_commonDivisor_29 : decode cX3_commonDivisor 29 = .ok (.lstore 9, 2) := by decide +kernel
theorem dX3_commonDivisor_31 : decode cX3_commonDivisor 31 = .ok (.lload 6, 2) := by decide +kernel
theorem dX3_commonDivisor_33 : decode cX3_commonDivisor 33 = .ok (.lstore 4, 2) := by decide +kernel
theorem dX3_commonDivisor_35 : decode cX3_commonDivisor 35 = .ok (.lload 9, 2) := by decide +kernel
theorem dX3_commonDivisor_37 : decode cX3_commonDivisor 37 = .ok (.lstore 6, 2) := by decide +kernel
theorem dX3_commonDivisor_39 : decode cX3_commonDivisor 39 = .ok (.iinc 8 1, 3) := by decide +kernel
theorem dX3_commonDivisor_42 : decode cX3_commonDivisor 42 = .ok (.goto (-33), 3) := by decide +kernel
theorem dX3_commonDivisor_45 : decode cX3_commonDivisor 45 = .ok (.lload 4, 2) := by decide +kernel
theorem dX3_commonDivisor_47 : decode cX3_commonDivisor 47 = .ok (.lreturn, 1) := by decide +kernel
end
section
-- decode rows (by program)
theorem dX4_init_0 : decode cX4_init 0 = .ok (.aload_n 0, 1) := by decide +kernel
theorem dX4_init_1 : decode cX4_init 1 = .ok (.invokespecial 1, 3) := by decide +kernel
theorem dX4_init_4 : decode cX4_init 4 = .ok (.aload_n 0, 1) := by decide +kernel
theorem dX4_init_5 : decode cX4_init 5 = .ok (.iconst 5, 1) := by decide +kernel
theorem dX4_init_6 : decode cX4_init 6 = .ok (.newarray .int, 2) := by decide +kernel
theorem dX4_init_8 : decode cX4_init 8 = .ok (.putfield 9, 3) := by decide +kernel
theorem dX4_init_11 : decode cX4_init 11 = .ok (.iconst 0, 1) := by decide +kernel
theorem dX4_init_12 : decode cX4_init 12 = .ok (.istore_n 1, 1) := by decide +kernel
theorem dX4_init_13 : decode cX4_init 13 = .ok (.iload_n 1, 1) := by decide +kernel
theorem dX4_init_14 : decode cX4_init 14 = .ok (.iconst 5, 1) := by decide +kernel
theorem dX4_init_15 : decode cX4_init 15 = .ok (.if_icmp .ge 16, 3) := by decide +kernel
theorem dX4_init_18 : decode cX4_init 18 = .ok (.aload_n 0, 1) := by decide +kernel
theorem dX4_init_19 : decode cX4_init 19 = .ok (.getfield 9, 3) := by decide +kernel
theorem dX4_init_22 : decode cX4_init 22 = .ok (.iload_n 1, 1) := by decide +kernel
theorem dX4_init_23 : decode cX4_init 23 = .ok (.iconst 1, 1) := by decide +kernel
theorem dX4_init_24 : decode cX4_init 24 = .ok (.iastore, 1) := by decide +kernel
theorem dX4_init_25 : decode cX4_init 25 = .ok (.iinc 1 1, 3) := by decide +kernel
theorem dX4_init_28 : decode cX4_init 28 = .ok (.goto (-15), 3) := by decide +kernel
theorem dX4_init_31 : decode cX4_init 31 = .ok (.aload_n 0, 1) := by decide +kernel
theorem dX4_init_32 : decode cX4_init 32 = .ok (.new 13, 3) := by decide +kernel
theorem dX4_init_35 : decode cX4_init 35 = .ok (.dup, 1) := by decide +kernel
theorem dX4_init_36 : decode cX4_init 36 = .ok (.invokespecial 15, 3) := by decide +kernel
theorem dX4_init_39 : decode cX4_init 39 = .ok (.putfield 16, 3) := by decide +kernel
theorem dX4_init_42 : decode cX4_init 42 = .ok (.aload_n 0, 1) := by decide +kernel
theorem dX4_init_43 : decode cX4_init 43 = .ok (.new 20, 3) := by decide +kernel
theorem dX4_init_46 : decode cX4_init 46 = .ok (.dup, 1) := by decide +kernel
theorem dX4_init_47 : decode cX4_init 47 = .ok (.invokespecial 22, 3) := by decide +kernel
theorem dX4_init_50 : decode cX4_init 50 = .ok (.putfield 23, 3) := by decide +kernel
theorem dX4_init_53 : decode cX4_init 53 = .ok (.aload_n 0, 1) := by decide +kernel
theorem dX4_init_54 : decode cX4_init 54 = .ok (.new 27, 3) := by decide +kernel
theorem dX4_init_57 : decode cX4_init 57 = .ok (.dup, 1) := by decide +kernel
theorem dX4_init_58 : decode cX4_init 58 = .ok (.invokespecial 29, 3) := by decide +kernel
theorem dX4_init_61 : decode cX4_init 61 = .ok (.putfield 30, 3) := by decide +kernel
theorem dX4_init_64 : decode cX4_init 64 = .ok (.aload_n 0, 1) := by decide +kernel
theorem dX4_init_65 : decode cX4_init 65 = .ok (.new 27, 3) := by decide +kernel
theorem dX4_init_68 : decode cX4_init 68 = .ok (.dup, 1) := by decide +kernel
theorem dX4_init_69 : decode cX4_init 69 = .ok (.invokespecial 29, 3) := by decide +kernel
theorem dX4_init_72 : decode cX4_init 72 = .ok (.putfield 34, 3) := by decide +kernel
theorem dX4_init_75 : decode cX4_init 75 = .ok (.aload_n 0, 1) := by decide +kernel
theorem dX4_init_76 : decode cX4_init 76 = .ok (.getfield 30, 3) := by decide +kernel
theorem dX4_init_79 : decode cX4_init 79 = .ok (.iconst 1, 1) := by decide +kernel
theorem dX4_init_80 : decode cX4_init 80 = .ok (.invokevirtual 37, 3) := by decide +kernel
theorem dX4_init_83 : decode cX4_init 83 = .ok (.aload_n 0, 1) := by decide +kernel
theorem dX4_init_84 : decode cX4_init 84 = .ok (.lconst 0, 1) := by decide +kernel
theorem dX4_init_85 : decode cX4_init 85 = .ok (.putfield 41, 3) := by decide +kernel
theorem dX4_init_88 : decode cX4_init 88 = .ok (.return_, 1) := by decide +kernel
theorem dX4_points_0 : decode cX4_points 0 = .ok (.iload_n 1, 1) := by decide +kernel
theorem dX4_points_1 : decode cX4_points 1 = .ok (.iconst 1, 1) := by decide +kernel
theorem dX4_points_2 : decode cX4_points 2 = .ok (.if_icmp .lt 9, 3) := by decide +kernel
theorem dX4_points_5 : decode cX4_points 5 = .ok (.iload_n 1, 1) := by decide +kernel
theorem dX4_points_6 : decode cX4_points 6 = .ok (.bipush 8, 2) := by decide +kernel
theorem dX4_points_8 : decode cX4_points 8 = .ok (.if_icmp .le 5, 3) := by decide +kernel
theorem dX4_points_11 : decode cX4_points 11 = .ok (.iconst (-1), 1) := by decide +kernel
theorem dX4_points_12 : decode cX4_points 12 = .ok (.ireturn, 1) := by decide +kernel
theorem dX4_points_13 : decode cX4_points 13 = .ok (.aload_n 0, 1) := by decide +kernel
theorem dX4_points_14 : decode cX4_points 14 = .ok (.getfield 30, 3) := by decide +kernel
theorem dX4_points_17 : decode cX4_points 17 = .ok (.getfield 45, 3) := by decide +kernel
theorem dX4_points_20 : decode cX4_points 20 = .ok (.istore_n 2, 1) := by decide +kernel
theorem dX4_points_21 : decode cX4_points 21 = .ok (.aload_n 0, 1) := by decide +kernel
theorem dX4_points_22 : decode cX4_points 22 = .ok (.getfield 30, 3) := by decide +kernel
theorem dX4_points_25 : decode cX4_points 25 = .ok (.iload_n 1, 1) := by decide +kernel
theorem dX4_points_26 : decode cX4_points 26 = .ok (.invokevirtual 37, 3) := by decide +kernel
theorem dX4_points_29 : decode cX4_points 29 = .ok (.iload_n 2, 1) := by decide +kernel
theorem dX4_points_30 : decode cX4_points 30 = .ok (.ireturn, 1) := by decide +kernel
theorem dX4_colour_0 : decode cX4_colour 0 = .ok (.aload_n 0, 1) := by decide +kernel
theorem dX4_colour_1 : decode cX4_colour 1 = .ok (.iload_n 1, 1) := by decide +kernel
theorem dX4_colour_2 : decode cX4_colour 2 = .ok (.invokevirtual 49, 3) := by decide +kernel
theorem dX4_colour_5 : decode cX4_colour 5 = .ok (.ifCond .eq 20, 3) := by decide +kernel
theorem dX4_colour_8 : decode cX4_colour 8 = .ok (.aload_n 0, 1) := by decide +kernel
theorem dX4_colour_9 : decode cX4_colour 9 = .ok (.iload_n 2, 1) := by decide +kernel
theorem dX4_colour_10 : decode cX4_colour 10 = .ok (.invokevirtual 49, 3) := by decide +kernel
theorem dX4_colour_13 : decode cX4_colour 13 = .ok (.ifCond .eq 12, 3) := by decide +kernel
theorem dX4_colour_16 : decode cX4_colour 16 = .ok (.iload_n 3, 1) := by decide +kernel
theorem dX4_colour_17 : decode cX4_colour 17 = .ok (.ifCond .lt 8, 3) := by decide +kernel
theorem dX4_colour_20 : decode cX4_colour 20 = .ok (.iload_n 3, 1) := by decide +kernel
theorem dX4_colour_21 : decode cX4_colour 21 = .ok (.iconst 5, 1) := by decide +kernel
theorem dX4_colour_22 : decode cX4_colour 22 = .ok (.if_icmp .lt 5, 3) := by decide +kernel
theorem dX4_colour_25 : decode cX4_colour 25 = .ok (.iconst (-1), 1) := by decide +kernel
theorem dX4_colour_26 : decode cX4_colour 26 = .ok (.ireturn, 1) := by decide +kernel
theorem dX4_colour_27 : decode cX4_colour 27 = .ok (.aload_n 0, 1) := by decide +kernel
theorem dX4_colour_28 : decode cX4_colour 28 = .ok (.getfield 30, 3) := by decide +kernel
theorem dX4_colour_31 : decode cX4_colour 31 = .ok (.iload_n 1, 1) := by decide +kernel
theorem dX4_colour_32 : decode cX4_colour 32 = .ok (.iload_n 2, 1) := by decide +kernel
theorem dX4_colour_33 : decode cX4_colour 33 = .ok (.invokevirtual 53, 3) := by decide +kernel
theorem dX4_colour_36 : decode cX4_colour 36 = .ok (.istore 4, 2) := by decide +kernel
theorem dX4_colour_38 : decode cX4_colour 38 = .ok (.aload_n 0, 1) := by decide +kernel
theorem dX4_colour_39 : decode cX4_colour 39 = .ok (.getfield 30, 3) := by decide +kernel
theorem dX4_colour_42 : decode cX4_colour 42 = .ok (.iload_n 1, 1) := by decide +kernel
theorem dX4_colour_43 : decode cX4_colour 43 = .ok (.iload_n 2, 1) := by decide +kernel
theorem dX4_colour_44 : decode cX4_colour 44 = .ok (.iload_n 3, 1) := by decide +kernel
theorem dX4_colour_45 : decode cX4_colour 45 = .ok (.invokevirtual 57, 3) := by decide +kernel
theorem dX4_colour_48 : decode cX4_colour 48 = .ok (.aload_n 0, 1) := by decide +kernel
theorem dX4_colour_49 : decode cX4_colour 49 = .ok (.getfield 30, 3) := by decide +kernel
theorem dX4_colour_52 : decode cX4_colour 52 = .ok (.invokevirtual 61, 3) := by decide +kernel
theorem dX4_colour_55 : decode cX4_colour 55 = .ok (.iload 4, 2) := by decide +kernel
theorem dX4_colour_57 : decode cX4_colour 57 = .ok (.ireturn, 1) := by decide +kernel
theorem dX4_at_0 : decode cX4_at 0 = .ok (.aload_n 0, 1) := by decide +kernel
theorem dX4_at_1 : decode cX4_at 1 = .ok (.iload_n 1, 1) := by decide +kernel
theorem dX4_at_2 : decode cX4_at 2 = .ok (.invokevirtual 49, 3) := by decide +kernel
theorem dX4_at_5 : decode cX4_at 5 = .ok (.ifCond .eq 11, 3) := by decide +kernel
theorem dX4_at_8 : decode cX4_at 8 = .ok (.aload_n 0, 1) := by decide +kernel
theorem dX4_at_9 : decode cX4_at 9 = .ok (.iload_n 2, 1) := by decide +kernel
theorem dX4_at_10 : decode cX4_at 10 = .ok (.invokevirtual 49, 3) := by decide +kernel
theorem dX4_at_13 : decode cX4_at 13 = .ok (.ifCond .ne 5, 3) := by decide +kernel
theorem dX4_at_16 : decode cX4_at 16 = .ok (.iconst (-1), 1) := by decide +kernel
theorem dX4_at_17 : decode cX4_at 17 = .ok (.ireturn, 1) := by decide +kernel
theorem dX4_at_18 : decode cX4_at 18 = .ok (.aload_n 0, 1) := by decide +kernel
theorem dX4_at_19 : decode cX4_at 19 = .ok (.getfield 30, 3) := by decide +kernel
theorem dX4_at_22 : decode cX4_at 22 = .ok (.iload_n 1, 1) := by decide +kernel
theorem dX4_at_23 : decode cX4_at 23 = .ok (.iload_n 2, 1) := by decide +kernel
theorem dX4_at_24 : decode cX4_at 24 = .ok (.invokevirtual 53, 3) := by decide +kernel
theorem dX4_at_27 : decode cX4_at 27 = .ok (.ireturn, 1) := by decide +kernel
theorem dX4_ring_0 : decode cX4_ring 0 = .ok (.iconst 1, 1) := by decide +kernel
theorem dX4_ring_1 : decode cX4_ring 1 = .ok (.istore_n 2, 1) := by decide +kernel
theorem dX4_ring_2 : decode cX4_ring 2 = .ok (.iconst 1, 1) := by decide +kernel
theorem dX4_ring_3 : decode cX4_ring 3 = .ok (.istore_n 3, 1) := by decide +kernel
theorem dX4_ring_4 : decode cX4_ring 4 = .ok (.iload_n 3, 1) := by decide +kernel
theorem dX4_ring_5 : decode cX4_ring 5 = .ok (.aload_n 0, 1) := by decide +kernel
theorem dX4_ring_6 : decode cX4_ring 6 = .ok (.getfield 30, 3) := by decide +kernel
theorem dX4_ring_9 : decode cX4_ring 9 = .ok (.getfield 45, 3) := by decide +kernel
theorem dX4_ring_12 : decode cX4_ring 12 = .ok (.if_icmp .ge 13, 3) := by decide +kernel
theorem dX4_ring_15 : decode cX4_ring 15 = .ok (.iload_n 2, 1) := by decide +kernel
theorem dX4_ring_16 : decode cX4_ring 16 = .ok (.iconst 5, 1) := by decide +kernel
theorem dX4_ring_17 : decode cX4_ring 17 = .ok (.imul, 1) := by decide +kernel
theorem dX4_ring_18 : decode cX4_ring 18 = .ok (.istore_n 2, 1) := by decide +kernel
theorem dX4_ring_19 : decode cX4_ring 19 = .ok (.iinc 3 1, 3) := by decide +kernel
theorem dX4_ring_22 : decode cX4_ring 22 = .ok (.goto (-18), 3) := by decide +kernel
theorem dX4_ring_25 : decode cX4_ring 25 = .ok (.iload_n 1, 1) := by decide +kernel
theorem dX4_ring_26 : decode cX4_ring 26 = .ok (.ifCond .lt 8, 3) := by decide +kernel
theorem dX4_ring_29 : decode cX4_ring 29 = .ok (.iload_n 1, 1) := by decide +kernel
theorem dX4_ring_30 : decode cX4_ring 30 = .ok (.iload_n 2, 1) := by decide +kernel
theorem dX4_ring_31 : decode cX4_ring 31 = .ok (.if_icmp .lt 5, 3) := by decide +kernel
theorem dX4_ring_34 : decode cX4_ring 34 = .ok (.iconst (-1), 1) := by decide +kernel
theorem dX4_ring_35 : decode cX4_ring 35 = .ok (.ireturn, 1) := by decide +kernel
theorem dX4_ring_36 : decode cX4_ring 36 = .ok (.aload_n 0, 1) := by decide +kernel
theorem dX4_ring_37 : decode cX4_ring 37 = .ok (.getfield 30, 3) := by decide +kernel
theorem dX4_ring_40 : decode cX4_ring 40 = .ok (.iload_n 1, 1) := by decide +kernel
theorem dX4_ring_41 : decode cX4_ring 41 = .ok (.invokevirtual 64, 3) := by decide +kernel
theorem dX4_ring_44 : decode cX4_ring 44 = .ok (.aload_n 0, 1) := by decide +kernel
theorem dX4_ring_45 : decode cX4_ring 45 = .ok (.invokevirtual 67, 3) := by decide +kernel
theorem dX4_ring_48 : decode cX4_ring 48 = .ok (.ifCond .eq 7, 3) := by decide +kernel
theorem dX4_ring_51 : decode cX4_ring 51 = .ok (.iconst 1, 1) := by decide +kernel
theorem dX4_ring_52 : decode cX4_ring 52 = .ok (.goto 4, 3) := by decide +kernel
theorem dX4_ring_55 : decode cX4_ring 55 = .ok (.iconst 0, 1) := by decide +kernel
theorem dX4_ring_56 : decode cX4_ring 56 = .ok (.ireturn, 1) := by decide +kernel
theorem dX4_fails_0 : decode cX4_fails 0 = .ok (.aload_n 0, 1) := by decide +kernel
theorem dX4_fails_1 : decode cX4_fails 1 = .ok (.getfield 30, 3) := by decide +kernel
theorem dX4_fails_4 : decode cX4_fails 4 = .ok (.getfield 71, 3) := by decide +kernel
theorem dX4_fails_7 : decode cX4_fails 7 = .ok (.ireturn, 1) := by decide +kernel
theorem dX4_number_0 : decode cX4_number 0 = .ok (.aload_n 0, 1) := by decide +kernel
theorem dX4_number_1 : decode cX4_number 1 = .ok (.iload_n 1, 1) := by decide +kernel
theorem dX4_number_2 : decode cX4_number 2 = .ok (.invokevirtual 74, 3) := by decide +kernel
theorem dX4_number_5 : decode cX4_number 5 = .ok (.ifCond .eq 19, 3) := by decide +kernel
theorem dX4_number_8 : decode cX4_number 8 = .ok (.aload_n 0, 1) := by decide +kernel
theorem dX4_number_9 : decode cX4_number 9 = .ok (.iload_n 2, 1) := by decide +kernel
theorem dX4_number_10 : decode cX4_number 10 = .ok (.invokevirtual 74, 3) := by decide +kernel
theorem dX4_number_13 : decode cX4_number 13 = .ok (.ifCond .eq 11, 3) := by decide +kernel
theorem dX4_number_16 : decode cX4_number 16 = .ok (.aload_n 0, 1) := by decide +kernel
theorem dX4_number_17 : decode cX4_number 17 = .ok (.iload_n 3, 1) := by decide +kernel
theorem dX4_number_18 : decode cX4_number 18 = .ok (.invokevirtual 74, 3) := by decide +kernel
theorem dX4_number_21 : decode cX4_number 21 = .ok (.ifCond .ne 5, 3) := by decide +kernel
theorem dX4_number_24 : decode cX4_number 24 = .ok (.iconst (-1), 1) := by decide +kernel
theorem dX4_number_25 : decode cX4_number 25 = .ok (.ireturn, 1) := by decide +kernel
theorem dX4_number_26 : decode cX4_number 26 = .ok (.aload_n 0, 1) := by decide +kernel
theorem dX4_number_27 : decode cX4_number 27 = .ok (.invokevirtual 67, 3) := by decide +kernel
theorem dX4_number_30 : decode cX4_number 30 = .ok (.ifCond .ne 6, 3) := by decide +kernel
theorem dX4_number_33 : decode cX4_number 33 = .ok (.bipush (-2), 2) := by decide +kernel
theorem dX4_number_35 : decode cX4_number 35 = .ok (.ireturn, 1) := by decide +kernel
theorem dX4_number_36 : decode cX4_number 36 = .ok (.aload_n 0, 1) := by decide +kernel
theorem dX4_number_37 : decode cX4_number 37 = .ok (.getfield 30, 3) := by decide +kernel
theorem dX4_number_40 : decode cX4_number 40 = .ok (.iload_n 1, 1) := by decide +kernel
theorem dX4_number_41 : decode cX4_number 41 = .ok (.iload_n 2, 1) := by decide +kernel
theorem dX4_number_42 : decode cX4_number 42 = .ok (.iload_n 3, 1) := by decide +kernel
theorem dX4_number_43 : decode cX4_number 43 = .ok (.invokevirtual 77, 3) := by decide +kernel
theorem dX4_number_46 : decode cX4_number 46 = .ok (.ireturn, 1) := by decide +kernel
theorem dX4_of_0 : decode cX4_of 0 = .ok (.aload_n 0, 1) := by decide +kernel
theorem dX4_of_1 : decode cX4_of 1 = .ok (.iload_n 1, 1) := by decide +kernel
theorem dX4_of_2 : decode cX4_of 2 = .ok (.invokevirtual 74, 3) := by decide +kernel
theorem dX4_of_5 : decode cX4_of 5 = .ok (.ifCond .eq 12, 3) := by decide +kernel
theorem dX4_of_8 : decode cX4_of 8 = .ok (.iload_n 2, 1) := by decide +kernel
theorem dX4_of_9 : decode cX4_of 9 = .ok (.ifCond .lt 8, 3) := by decide +kernel
theorem dX4_of_12 : decode cX4_of 12 = .ok (.iload_n 2, 1) := by decide +kernel
theorem dX4_of_13 : decode cX4_of 13 = .ok (.iconst 1, 1) := by decide +kernel
theorem dX4_of_14 : decode cX4_of 14 = .ok (.if_icmp .le 5, 3) := by decide +kernel
theorem dX4_of_17 : decode cX4_of 17 = .ok (.iconst (-1), 1) := by decide +kernel
theorem dX4_of_18 : decode cX4_of 18 = .ok (.ireturn, 1) := by decide +kernel
theorem dX4_of_19 : decode cX4_of 19 = .ok (.aload_n 0, 1) := by decide +kernel
theorem dX4_of_20 : decode cX4_of 20 = .ok (.invokevirtual 67, 3) := by decide +kernel
theorem dX4_of_23 : decode cX4_of 23 = .ok (.ifCond .ne 6, 3) := by decide +kernel
theorem dX4_of_26 : decode cX4_of 26 = .ok (.bipush (-2), 2) := by decide +kernel
theorem dX4_of_28 : decode cX4_of 28 = .ok (.ireturn, 1) := by decide +kernel
theorem dX4_of_29 : decode cX4_of 29 = .ok (.iload_n 2, 1) := by decide +kernel
theorem dX4_of_30 : decode cX4_of 30 = .ok (.ifCond .ne 14, 3) := by decide +kernel
theorem dX4_of_33 : decode cX4_of 33 = .ok (.aload_n 0, 1) := by decide +kernel
theorem dX4_of_34 : decode cX4_of 34 = .ok (.getfield 30, 3) := by decide +kernel
theorem dX4_of_37 : decode cX4_of 37 = .ok (.iload_n 1, 1) := by decide +kernel
theorem dX4_of_38 : decode cX4_of 38 = .ok (.invokevirtual 81, 3) := by decide +kernel
theorem dX4_of_41 : decode cX4_of 41 = .ok (.goto 11, 3) := by decide +kernel
theorem dX4_of_44 : decode cX4_of 44 = .ok (.aload_n 0, 1) := by decide +kernel
theorem dX4_of_45 : decode cX4_of 45 = .ok (.getfield 30, 3) := by decide +kernel
theorem dX4_of_48 : decode cX4_of 48 = .ok (.iload_n 1, 1) := by decide +kernel
theorem dX4_of_49 : decode cX4_of 49 = .ok (.invokevirtual 85, 3) := by decide +kernel
theorem dX4_of_52 : decode cX4_of 52 = .ok (.ireturn, 1) := by decide +kernel
theorem dX4_turns_0 : decode cX4_turns 0 = .ok (.aload_n 0, 1) := by decide +kernel
theorem dX4_turns_1 : decode cX4_turns 1 = .ok (.invokevirtual 67, 3) := by decide +kernel
theorem dX4_turns_4 : decode cX4_turns 4 = .ok (.ifCond .ne 6, 3) := by decide +kernel
theorem dX4_turns_7 : decode cX4_turns 7 = .ok (.bipush (-2), 2) := by decide +kernel
theorem dX4_turns_9 : decode cX4_turns 9 = .ok (.ireturn, 1) := by decide +kernel
theorem dX4_turns_10 : decode cX4_turns 10 = .ok (.aload_n 0, 1) := by decide +kernel
theorem dX4_turns_11 : decode cX4_turns 11 = .ok (.getfield 30, 3) := by decide +kernel
theorem dX4_turns_14 : decode cX4_turns 14 = .ok (.invokevirtual 88, 3) := by decide +kernel
theorem dX4_turns_17 : decode cX4_turns 17 = .ok (.ifCond .eq 7, 3) := by decide +kernel
theorem dX4_turns_20 : decode cX4_turns 20 = .ok (.iconst 1, 1) := by decide +kernel
theorem dX4_turns_21 : decode cX4_turns 21 = .ok (.goto 4, 3) := by decide +kernel
theorem dX4_turns_24 : decode cX4_turns 24 = .ok (.iconst 0, 1) := by decide +kernel
theorem dX4_turns_25 : decode cX4_turns 25 = .ok (.ireturn, 1) := by decide +kernel
theorem dX4_closed_0 : decode cX4_closed 0 = .ok (.iload_n 2, 1) := by decide +kernel
theorem dX4_closed_1 : decode cX4_closed 1 = .ok (.ifCond .lt 21, 3) := by decide +kernel
theorem dX4_closed_4 : decode cX4_closed 4 = .ok (.iload_n 2, 1) := by decide +kernel
theorem dX4_closed_5 : decode cX4_closed 5 = .ok (.iconst 2, 1) := by decide +kernel
theorem dX4_closed_6 : decode cX4_closed 6 = .ok (.if_icmp .gt 16, 3) := by decide +kernel
theorem dX4_closed_9 : decode cX4_closed 9 = .ok (.iload_n 2, 1) := by decide +kernel
theorem dX4_closed_10 : decode cX4_closed 10 = .ok (.iconst 2, 1) := by decide +kernel
theorem dX4_closed_11 : decode cX4_closed 11 = .ok (.if_icmp .eq 13, 3) := by decide +kernel
theorem dX4_closed_14 : decode cX4_closed 14 = .ok (.aload_n 0, 1) := by decide +kernel
theorem dX4_closed_15 : decode cX4_closed 15 = .ok (.iload_n 1, 1) := by decide +kernel
theorem dX4_closed_16 : decode cX4_closed 16 = .ok (.invokevirtual 91, 3) := by decide +kernel
theorem dX4_closed_19 : decode cX4_closed 19 = .ok (.ifCond .ne 5, 3) := by decide +kernel
theorem dX4_closed_22 : decode cX4_closed 22 = .ok (.iconst (-1), 1) := by decide +kernel
theorem dX4_closed_23 : decode cX4_closed 23 = .ok (.ireturn, 1) := by decide +kernel
theorem dX4_closed_24 : decode cX4_closed 24 = .ok (.aload_n 0, 1) := by decide +kernel
theorem dX4_closed_25 : decode cX4_closed 25 = .ok (.invokevirtual 67, 3) := by decide +kernel
theorem dX4_closed_28 : decode cX4_closed 28 = .ok (.ifCond .ne 6, 3) := by decide +kernel
theorem dX4_closed_31 : decode cX4_closed 31 = .ok (.bipush (-2), 2) := by decide +kernel
theorem dX4_closed_33 : decode cX4_closed 33 = .ok (.ireturn, 1) := by decide +kernel
theorem dX4_closed_34 : decode cX4_closed 34 = .ok (.iload_n 2, 1) := by decide +kernel
theorem dX4_closed_35 : decode cX4_closed 35 = .ok (.ifCond .ne 20, 3) := by decide +kernel
theorem dX4_closed_38 : decode cX4_closed 38 = .ok (.aload_n 0, 1) := by decide +kernel
theorem dX4_closed_39 : decode cX4_closed 39 = .ok (.getfield 30, 3) := by decide +kernel
theorem dX4_closed_42 : decode cX4_closed 42 = .ok (.iload_n 1, 1) := by decide +kernel
theorem dX4_closed_43 : decode cX4_closed 43 = .ok (.invokevirtual 94, 3) := by decide +kernel
theorem dX4_closed_46 : decode cX4_closed 46 = .ok (.ifCond .eq 7, 3) := by decide +kernel
theorem dX4_closed_49 : decode cX4_closed 49 = .ok (.iconst 1, 1) := by decide +kernel
theorem dX4_closed_50 : decode cX4_closed 50 = .ok (.goto 4, 3) := by decide +kernel
theorem dX4_closed_53 : decode cX4_closed 53 = .ok (.iconst 0, 1) := by decide +kernel
theorem dX4_closed_54 : decode cX4_closed 54 = .ok (.ireturn, 1) := by decide +kernel
theorem dX4_closed_55 : decode cX4_closed 55 = .ok (.iload_n 2, 1) := by decide +kernel
theorem dX4_closed_56 : decode cX4_closed 56 = .ok (.iconst 1, 1) := by decide +kernel
theorem dX4_closed_57 : decode cX4_closed 57 = .ok (.if_icmp .ne 14, 3) := by decide +kernel
theorem dX4_closed_60 : decode cX4_closed 60 = .ok (.aload_n 0, 1) := by decide +kernel
theorem dX4_closed_61 : decode cX4_closed 61 = .ok (.getfield 30, 3) := by decide +kernel
theorem dX4_closed_64 : decode cX4_closed 64 = .ok (.iload_n 1, 1) := by decide +kernel
theorem dX4_closed_65 : decode cX4_closed 65 = .ok (.invokevirtual 97, 3) := by decide +kernel
theorem dX4_closed_68 : decode cX4_closed 68 = .ok (.goto 10, 3) := by decide +kernel
theorem dX4_closed_71 : decode cX4_closed 71 = .ok (.aload_n 0, 1) := by decide +kernel
theorem dX4_closed_72 : decode cX4_closed 72 = .ok (.getfield 30, 3) := by decide +kernel
theorem dX4_closed_75 : decode cX4_closed 75 = .ok (.invokevirtual 100, 3) := by decide +kernel
theorem dX4_closed_78 : decode cX4_closed 78 = .ok (.ireturn, 1) := by decide +kernel
theorem dX4_order_0 : decode cX4_order 0 = .ok (.aload_n 0, 1) := by decide +kernel
theorem dX4_order_1 : decode cX4_order 1 = .ok (.iload_n 1, 1) := by decide +kernel
theorem dX4_order_2 : decode cX4_order 2 = .ok (.invokevirtual 91, 3) := by decide +kernel
theorem dX4_order_5 : decode cX4_order 5 = .ok (.ifCond .ne 5, 3) := by decide +kernel
theorem dX4_order_8 : decode cX4_order 8 = .ok (.iconst (-1), 1) := by decide +kernel
theorem dX4_order_9 : decode cX4_order 9 = .ok (.ireturn, 1) := by decide +kernel
theorem dX4_order_10 : decode cX4_order 10 = .ok (.aload_n 0, 1) := by decide +kernel
theorem dX4_order_11 : decode cX4_order 11 = .ok (.invokevirtual 67, 3) := by decide +kernel
theorem dX4_order_14 : decode cX4_order 14 = .ok (.ifCond .ne 6, 3) := by decide +kernel
theorem dX4_order_17 : decode cX4_order 17 = .ok (.bipush (-2), 2) := by decide +kernel
theorem dX4_order_19 : decode cX4_order 19 = .ok (.ireturn, 1) := by decide +kernel
theorem dX4_order_20 : decode cX4_order 20 = .ok (.aload_n 0, 1) := by decide +kernel
theorem dX4_order_21 : decode cX4_order 21 = .ok (.getfield 30, 3) := by decide +kernel
theorem dX4_order_24 : decode cX4_order 24 = .ok (.aload_n 0, 1) := by decide +kernel
theorem dX4_order_25 : decode cX4_order 25 = .ok (.getfield 30, 3) := by decide +kernel
theorem dX4_order_28 : decode cX4_order 28 = .ok (.iload_n 1, 1) := by decide +kernel
theorem dX4_order_29 : decode cX4_order 29 = .ok (.invokevirtual 97, 3) := by decide +kernel
theorem dX4_order_32 : decode cX4_order 32 = .ok (.invokevirtual 104, 3) := by decide +kernel
theorem dX4_order_35 : decode cX4_order 35 = .ok (.ireturn, 1) := by decide +kernel
theorem dX4_worth_0 : decode cX4_worth 0 = .ok (.iload_n 1, 1) := by decide +kernel
theorem dX4_worth_1 : decode cX4_worth 1 = .ok (.ifCond .lt 16, 3) := by decide +kernel
theorem dX4_worth_4 : decode cX4_worth 4 = .ok (.iload_n 1, 1) := by decide +kernel
theorem dX4_worth_5 : decode cX4_worth 5 = .ok (.iconst 2, 1) := by decide +kernel
theorem dX4_worth_6 : decode cX4_worth 6 = .ok (.if_icmp .gt 11, 3) := by decide +kernel
theorem dX4_worth_9 : decode cX4_worth 9 = .ok (.aload_n 0, 1) := by decide +kernel
theorem dX4_worth_10 : decode cX4_worth 10 = .ok (.iload_n 2, 1) := by decide +kernel
theorem dX4_worth_11 : decode cX4_worth 11 = .ok (.invokevirtual 74, 3) := by decide +kernel
theorem dX4_worth_14 : decode cX4_worth 14 = .ok (.ifCond .ne 5, 3) := by decide +kernel
theorem dX4_worth_17 : decode cX4_worth 17 = .ok (.iconst (-1), 1) := by decide +kernel
theorem dX4_worth_18 : decode cX4_worth 18 = .ok (.ireturn, 1) := by decide +kernel
theorem dX4_worth_19 : decode cX4_worth 19 = .ok (.aload_n 0, 1) := by decide +kernel
theorem dX4_worth_20 : decode cX4_worth 20 = .ok (.invokevirtual 67, 3) := by decide +kernel
theorem dX4_worth_23 : decode cX4_worth 23 = .ok (.ifCond .ne 6, 3) := by decide +kernel
theorem dX4_worth_26 : decode cX4_worth 26 = .ok (.bipush (-2), 2) := by decide +kernel
theorem dX4_worth_28 : decode cX4_worth 28 = .ok (.ireturn, 1) := by decide +kernel
theorem dX4_worth_29 : decode cX4_worth 29 = .ok (.iload_n 1, 1) := by decide +kernel
theorem dX4_worth_30 : decode cX4_worth 30 = .ok (.ifCond .ne 9, 3) := by decide +kernel
theorem dX4_worth_33 : decode cX4_worth 33 = .ok (.aload_n 0, 1) := by decide +kernel
theorem dX4_worth_34 : decode cX4_worth 34 = .ok (.iload_n 2, 1) := by decide +kernel
theorem dX4_worth_35 : decode cX4_worth 35 = .ok (.invokevirtual 107, 3) := by decide +kernel
theorem dX4_worth_38 : decode cX4_worth 38 = .ok (.ireturn, 1) := by decide +kernel
theorem dX4_worth_39 : decode cX4_worth 39 = .ok (.iload_n 1, 1) := by decide +kernel
theorem dX4_worth_40 : decode cX4_worth 40 = .ok (.iconst 1, 1) := by decide +kernel
theorem dX4_worth_41 : decode cX4_worth 41 = .ok (.if_icmp .ne 11, 3) := by decide +kernel
theorem dX4_worth_44 : decode cX4_worth 44 = .ok (.aload_n 0, 1) := by decide +kernel
theorem dX4_worth_45 : decode cX4_worth 45 = .ok (.iload_n 2, 1) := by decide +kernel
theorem dX4_worth_46 : decode cX4_worth 46 = .ok (.invokevirtual 110, 3) := by decide +kernel
theorem dX4_worth_49 : decode cX4_worth 49 = .ok (.goto 8, 3) := by decide +kernel
theorem dX4_worth_52 : decode cX4_worth 52 = .ok (.aload_n 0, 1) := by decide +kernel
theorem dX4_worth_53 : decode cX4_worth 53 = .ok (.iload_n 2, 1) := by decide +kernel
theorem dX4_worth_54 : decode cX4_worth 54 = .ok (.invokevirtual 113, 3) := by decide +kernel
theorem dX4_worth_57 : decode cX4_worth 57 = .ok (.ireturn, 1) := by decide +kernel
theorem dX4_fuse_0 : decode cX4_fuse 0 = .ok (.iload_n 1, 1) := by decide +kernel
theorem dX4_fuse_1 : decode cX4_fuse 1 = .ok (.ifCond .lt 18, 3) := by decide +kernel
theorem dX4_fuse_4 : decode cX4_fuse 4 = .ok (.iload_n 1, 1) := by decide +kernel
theorem dX4_fuse_5 : decode cX4_fuse 5 = .ok (.sipush 625, 3) := by decide +kernel
theorem dX4_fuse_8 : decode cX4_fuse 8 = .ok (.if_icmp .ge 11, 3) := by decide +kernel
theorem dX4_fuse_11 : decode cX4_fuse 11 = .ok (.aload_n 0, 1) := by decide +kernel
theorem dX4_fuse_12 : decode cX4_fuse 12 = .ok (.iload_n 1, 1) := by decide +kernel
theorem dX4_fuse_13 : decode cX4_fuse 13 = .ok (.invokevirtual 116, 3) := by decide +kernel
theorem dX4_fuse_16 : decode cX4_fuse 16 = .ok (.ifCond .ne 5, 3) := by decide +kernel
theorem dX4_fuse_19 : decode cX4_fuse 19 = .ok (.iconst (-1), 1) := by decide +kernel
theorem dX4_fuse_20 : decode cX4_fuse 20 = .ok (.ireturn, 1) := by decide +kernel
theorem dX4_fuse_21 : decode cX4_fuse 21 = .ok (.aload_n 0, 1) := by decide +kernel
theorem dX4_fuse_22 : decode cX4_fuse 22 = .ok (.invokevirtual 67, 3) := by decide +kernel
theorem dX4_fuse_25 : decode cX4_fuse 25 = .ok (.ifCond .ne 6, 3) := by decide +kernel
theorem dX4_fuse_28 : decode cX4_fuse 28 = .ok (.bipush (-2), 2) := by decide +kernel
theorem dX4_fuse_30 : decode cX4_fuse 30 = .ok (.ireturn, 1) := by decide +kernel
theorem dX4_fuse_31 : decode cX4_fuse 31 = .ok (.aload_n 0, 1) := by decide +kernel
theorem dX4_fuse_32 : decode cX4_fuse 32 = .ok (.getfield 34, 3) := by decide +kernel
theorem dX4_fuse_35 : decode cX4_fuse 35 = .ok (.aload_n 0, 1) := by decide +kernel
theorem dX4_fuse_36 : decode cX4_fuse 36 = .ok (.getfield 30, 3) := by decide +kernel
theorem dX4_fuse_39 : decode cX4_fuse 39 = .ok (.iload_n 1, 1) := by decide +kernel
theorem dX4_fuse_40 : decode cX4_fuse 40 = .ok (.invokevirtual 119, 3) := by decide +kernel
theorem dX4_fuse_43 : decode cX4_fuse 43 = .ok (.aload_n 0, 1) := by decide +kernel
theorem dX4_fuse_44 : decode cX4_fuse 44 = .ok (.getfield 34, 3) := by decide +kernel
theorem dX4_fuse_47 : decode cX4_fuse 47 = .ok (.getfield 71, 3) := by decide +kernel
theorem dX4_fuse_50 : decode cX4_fuse 50 = .ok (.ifCond .eq 5, 3) := by decide +kernel
theorem dX4_fuse_53 : decode cX4_fuse 53 = .ok (.iconst 0, 1) := by decide +kernel
theorem dX4_fuse_54 : decode cX4_fuse 54 = .ok (.ireturn, 1) := by decide +kernel
theorem dX4_fuse_55 : decode cX4_fuse 55 = .ok (.aload_n 0, 1) := by decide +kernel
theorem dX4_fuse_56 : decode cX4_fuse 56 = .ok (.invokevirtual 123, 3) := by decide +kernel
theorem dX4_fuse_59 : decode cX4_fuse 59 = .ok (.iconst 1, 1) := by decide +kernel
theorem dX4_fuse_60 : decode cX4_fuse 60 = .ok (.ireturn, 1) := by decide +kernel
theorem dX4_quotient_0 : decode cX4_quotient 0 = .ok (.aload_n 0, 1) := by decide +kernel
theorem dX4_quotient_1 : decode cX4_quotient 1 = .ok (.iload_n 1, 1) := by decide +kernel
theorem dX4_quotient_2 : decode cX4_quotient 2 = .ok (.invokevirtual 91, 3) := by decide +kernel
theorem dX4_quotient_5 : decode cX4_quotient 5 = .ok (.ifCond .ne 5, 3) := by decide +kernel
theorem dX4_quotient_8 : decode cX4_quotient 8 = .ok (.iconst (-1), 1) := by decide +kernel
theorem dX4_quotient_9 : decode cX4_quotient 9 = .ok (.ireturn, 1) := by decide +kernel
theorem dX4_quotient_10 : decode cX4_quotient 10 = .ok (.aload_n 0, 1) := by decide +kernel
theorem dX4_quotient_11 : decode cX4_quotient 11 = .ok (.invokevirtual 67, 3) := by decide +kernel
theorem dX4_quotient_14 : decode cX4_quotient 14 = .ok (.ifCond .ne 6, 3) := by decide +kernel
theorem dX4_quotient_17 : decode cX4_quotient 17 = .ok (.bipush (-2), 2) := by decide +kernel
theorem dX4_quotient_19 : decode cX4_quotient 19 = .ok (.ireturn, 1) := by decide +kernel
theorem dX4_quotient_20 : decode cX4_quotient 20 = .ok (.aload_n 0, 1) := by decide +kernel
theorem dX4_quotient_21 : decode cX4_quotient 21 = .ok (.getfield 23, 3) := by decide +kernel
theorem dX4_quotient_24 : decode cX4_quotient 24 = .ok (.aload_n 0, 1) := by decide +kernel
theorem dX4_quotient_25 : decode cX4_quotient 25 = .ok (.getfield 30, 3) := by decide +kernel
theorem dX4_quotient_28 : decode cX4_quotient 28 = .ok (.aload_n 0, 1) := by decide +kernel
theorem dX4_quotient_29 : decode cX4_quotient 29 = .ok (.getfield 30, 3) := by decide +kernel
theorem dX4_quotient_32 : decode cX4_quotient 32 = .ok (.iload_n 1, 1) := by decide +kernel
theorem dX4_quotient_33 : decode cX4_quotient 33 = .ok (.invokevirtual 97, 3) := by decide +kernel
theorem dX4_quotient_36 : decode cX4_quotient 36 = .ok (.aload_n 0, 1) := by decide +kernel
theorem dX4_quotient_37 : decode cX4_quotient 37 = .ok (.getfield 34, 3) := by decide +kernel
theorem dX4_quotient_40 : decode cX4_quotient 40 = .ok (.invokevirtual 126, 3) := by decide +kernel
theorem dX4_quotient_43 : decode cX4_quotient 43 = .ok (.aload_n 0, 1) := by decide +kernel
theorem dX4_quotient_44 : decode cX4_quotient 44 = .ok (.invokevirtual 123, 3) := by decide +kernel
theorem dX4_quotient_47 : decode cX4_quotient 47 = .ok (.aload_n 0, 1) := by decide +kernel
theorem dX4_quotient_48 : decode cX4_quotient 48 = .ok (.getfield 30, 3) := by decide +kernel
theorem dX4_quotient_51 : decode cX4_quotient 51 = .ok (.getfield 45, 3) := by decide +kernel
theorem dX4_quotient_54 : decode cX4_quotient 54 = .ok (.ireturn, 1) := by decide +kernel
theorem dX4_weight_0 : decode cX4_weight 0 = .ok (.iload_n 1, 1) := by decide +kernel
theorem dX4_weight_1 : decode cX4_weight 1 = .ok (.ifCond .lt 18, 3) := by decide +kernel
theorem dX4_weight_4 : decode cX4_weight 4 = .ok (.iload_n 1, 1) := by decide +kernel
theorem dX4_weight_5 : decode cX4_weight 5 = .ok (.iconst 5, 1) := by decide +kernel
theorem dX4_weight_6 : decode cX4_weight 6 = .ok (.if_icmp .ge 13, 3) := by decide +kernel
theorem dX4_weight_9 : decode cX4_weight 9 = .ok (.iload_n 2, 1) := by decide +kernel
theorem dX4_weight_10 : decode cX4_weight 10 = .ok (.ifCond .lt 9, 3) := by decide +kernel
theorem dX4_weight_13 : decode cX4_weight 13 = .ok (.iload_n 2, 1) := by decide +kernel
theorem dX4_weight_14 : decode cX4_weight 14 = .ok (.bipush 9, 2) := by decide +kernel
theorem dX4_weight_16 : decode cX4_weight 16 = .ok (.if_icmp .le 5, 3) := by decide +kernel
theorem dX4_weight_19 : decode cX4_weight 19 = .ok (.iconst (-1), 1) := by decide +kernel
theorem dX4_weight_20 : decode cX4_weight 20 = .ok (.ireturn, 1) := by decide +kernel
theorem dX4_weight_21 : decode cX4_weight 21 = .ok (.aload_n 0, 1) := by decide +kernel
theorem dX4_weight_22 : decode cX4_weight 22 = .ok (.getfield 9, 3) := by decide +kernel
theorem dX4_weight_25 : decode cX4_weight 25 = .ok (.iload_n 1, 1) := by decide +kernel
theorem dX4_weight_26 : decode cX4_weight 26 = .ok (.iaload, 1) := by decide +kernel
theorem dX4_weight_27 : decode cX4_weight 27 = .ok (.istore_n 3, 1) := by decide +kernel
theorem dX4_weight_28 : decode cX4_weight 28 = .ok (.aload_n 0, 1) := by decide +kernel
theorem dX4_weight_29 : decode cX4_weight 29 = .ok (.getfield 9, 3) := by decide +kernel
theorem dX4_weight_32 : decode cX4_weight 32 = .ok (.iload_n 1, 1) := by decide +kernel
theorem dX4_weight_33 : decode cX4_weight 33 = .ok (.iload_n 2, 1) := by decide +kernel
theorem dX4_weight_34 : decode cX4_weight 34 = .ok (.iastore, 1) := by decide +kernel
theorem dX4_weight_35 : decode cX4_weight 35 = .ok (.iload_n 3, 1) := by decide +kernel
theorem dX4_weight_36 : decode cX4_weight 36 = .ok (.ireturn, 1) := by decide +kernel
theorem dX4_chance_0 : decode cX4_chance 0 = .ok (.aload_n 0, 1) := by decide +kernel
theorem dX4_chance_1 : decode cX4_chance 1 = .ok (.iload_n 1, 1) := by decide +kernel
theorem dX4_chance_2 : decode cX4_chance 2 = .ok (.invokevirtual 74, 3) := by decide +kernel
theorem dX4_chance_5 : decode cX4_chance 5 = .ok (.ifCond .eq 22, 3) := by decide +kernel
theorem dX4_chance_8 : decode cX4_chance 8 = .ok (.iload_n 2, 1) := by decide +kernel
theorem dX4_chance_9 : decode cX4_chance 9 = .ok (.ifCond .lt 18, 3) := by decide +kernel
theorem dX4_chance_12 : decode cX4_chance 12 = .ok (.iload_n 2, 1) := by decide +kernel
theorem dX4_chance_13 : decode cX4_chance 13 = .ok (.bipush 6, 2) := by decide +kernel
theorem dX4_chance_15 : decode cX4_chance 15 = .ok (.if_icmp .gt 12, 3) := by decide +kernel
theorem dX4_chance_18 : decode cX4_chance 18 = .ok (.iload_n 3, 1) := by decide +kernel
theorem dX4_chance_19 : decode cX4_chance 19 = .ok (.ifCond .lt 8, 3) := by decide +kernel
theorem dX4_chance_22 : decode cX4_chance 22 = .ok (.iload_n 3, 1) := by decide +kernel
theorem dX4_chance_23 : decode cX4_chance 23 = .ok (.iconst 1, 1) := by decide +kernel
theorem dX4_chance_24 : decode cX4_chance 24 = .ok (.if_icmp .le 7, 3) := by decide +kernel
theorem dX4_chance_27 : decode cX4_chance 27 = .ok (.ldc2_w 130, 3) := by decide +kernel
theorem dX4_chance_30 : decode cX4_chance 30 = .ok (.lreturn, 1) := by decide +kernel
theorem dX4_chance_31 : decode cX4_chance 31 = .ok (.aload_n 0, 1) := by decide +kernel
theorem dX4_chance_32 : decode cX4_chance 32 = .ok (.invokevirtual 67, 3) := by decide +kernel
theorem dX4_chance_35 : decode cX4_chance 35 = .ok (.ifCond .eq 10, 3) := by decide +kernel
theorem dX4_chance_38 : decode cX4_chance 38 = .ok (.aload_n 0, 1) := by decide +kernel
theorem dX4_chance_39 : decode cX4_chance 39 = .ok (.invokevirtual 132, 3) := by decide +kernel
theorem dX4_chance_42 : decode cX4_chance 42 = .ok (.ifCond .ne 7, 3) := by decide +kernel
theorem dX4_chance_45 : decode cX4_chance 45 = .ok (.ldc2_w 135, 3) := by decide +kernel
theorem dX4_chance_48 : decode cX4_chance 48 = .ok (.lreturn, 1) := by decide +kernel
theorem dX4_chance_49 : decode cX4_chance 49 = .ok (.aload_n 0, 1) := by decide +kernel
theorem dX4_chance_50 : decode cX4_chance 50 = .ok (.getfield 16, 3) := by decide +kernel
theorem dX4_chance_53 : decode cX4_chance 53 = .ok (.aload_n 0, 1) := by decide +kernel
theorem dX4_chance_54 : decode cX4_chance 54 = .ok (.getfield 30, 3) := by decide +kernel
theorem dX4_chance_57 : decode cX4_chance 57 = .ok (.aload_n 0, 1) := by decide +kernel
theorem dX4_chance_58 : decode cX4_chance 58 = .ok (.getfield 9, 3) := by decide +kernel
theorem dX4_chance_61 : decode cX4_chance 61 = .ok (.iload_n 2, 1) := by decide +kernel
theorem dX4_chance_62 : decode cX4_chance 62 = .ok (.invokevirtual 137, 3) := by decide +kernel
theorem dX4_chance_65 : decode cX4_chance 65 = .ok (.aload_n 0, 1) := by decide +kernel
theorem dX4_chance_66 : decode cX4_chance 66 = .ok (.getfield 16, 3) := by decide +kernel
theorem dX4_chance_69 : decode cX4_chance 69 = .ok (.aload_n 0, 1) := by decide +kernel
theorem dX4_chance_70 : decode cX4_chance 70 = .ok (.getfield 30, 3) := by decide +kernel
theorem dX4_chance_73 : decode cX4_chance 73 = .ok (.iload_n 1, 1) := by decide +kernel
theorem dX4_chance_74 : decode cX4_chance 74 = .ok (.invokevirtual 141, 3) := by decide +kernel
theorem dX4_chance_77 : decode cX4_chance 77 = .ok (.lstore 4, 2) := by decide +kernel
theorem dX4_chance_79 : decode cX4_chance 79 = .ok (.aload_n 0, 1) := by decide +kernel
theorem dX4_chance_80 : decode cX4_chance 80 = .ok (.getfield 16, 3) := by decide +kernel
theorem dX4_chance_83 : decode cX4_chance 83 = .ok (.getfield 145, 3) := by decide +kernel
theorem dX4_chance_86 : decode cX4_chance 86 = .ok (.lstore 6, 2) := by decide +kernel
theorem dX4_chance_88 : decode cX4_chance 88 = .ok (.lload 4, 2) := by decide +kernel
theorem dX4_chance_90 : decode cX4_chance 90 = .ok (.lload 6, 2) := by decide +kernel
theorem dX4_chance_92 : decode cX4_chance 92 = .ok (.invokestatic 148, 3) := by decide +kernel
theorem dX4_chance_95 : decode cX4_chance 95 = .ok (.lstore 8, 2) := by decide +kernel
theorem dX4_chance_97 : decode cX4_chance 97 = .ok (.lload 8, 2) := by decide +kernel
theorem dX4_chance_99 : decode cX4_chance 99 = .ok (.lconst 0, 1) := by decide +kernel
theorem dX4_chance_100 : decode cX4_chance 100 = .ok (.lcmp, 1) := by decide +kernel
theorem dX4_chance_101 : decode cX4_chance 101 = .ok (.ifCond .ne 7, 3) := by decide +kernel
theorem dX4_chance_104 : decode cX4_chance 104 = .ok (.ldc2_w 135, 3) := by decide +kernel
theorem dX4_chance_107 : decode cX4_chance 107 = .ok (.lreturn, 1) := by decide +kernel
theorem dX4_chance_108 : decode cX4_chance 108 = .ok (.iload_n 3, 1) := by decide +kernel
theorem dX4_chance_109 : decode cX4_chance 109 = .ok (.ifCond .ne 11, 3) := by decide +kernel
theorem dX4_chance_112 : decode cX4_chance 112 = .ok (.lload 4, 2) := by decide +kernel
theorem dX4_chance_114 : decode cX4_chance 114 = .ok (.lload 8, 2) := by decide +kernel
theorem dX4_chance_116 : decode cX4_chance 116 = .ok (.ldiv, 1) := by decide +kernel
theorem dX4_chance_117 : decode cX4_chance 117 = .ok (.goto 8, 3) := by decide +kernel
theorem dX4_chance_120 : decode cX4_chance 120 = .ok (.lload 6, 2) := by decide +kernel
theorem dX4_chance_122 : decode cX4_chance 122 = .ok (.lload 8, 2) := by decide +kernel
theorem dX4_chance_124 : decode cX4_chance 124 = .ok (.ldiv, 1) := by decide +kernel
theorem dX4_chance_125 : decode cX4_chance 125 = .ok (.lreturn, 1) := by decide +kernel
theorem dX4_sieve_0 : decode cX4_sieve 0 = .ok (.iload_n 1, 1) := by decide +kernel
theorem dX4_sieve_1 : decode cX4_sieve 1 = .ok (.iconst 2, 1) := by decide +kernel
theorem dX4_sieve_2 : decode cX4_sieve 2 = .ok (.if_icmp .lt 22, 3) := by decide +kernel
theorem dX4_sieve_5 : decode cX4_sieve 5 = .ok (.iload_n 1, 1) := by decide +kernel
theorem dX4_sieve_6 : decode cX4_sieve 6 = .ok (.sipush 200, 3) := by decide +kernel
theorem dX4_sieve_9 : decode cX4_sieve 9 = .ok (.if_icmp .gt 15, 3) := by decide +kernel
theorem dX4_sieve_12 : decode cX4_sieve 12 = .ok (.iload_n 2, 1) := by decide +kernel
theorem dX4_sieve_13 : decode cX4_sieve 13 = .ok (.iconst 1, 1) := by decide +kernel
theorem dX4_sieve_14 : decode cX4_sieve 14 = .ok (.if_icmp .lt 10, 3) := by decide +kernel
theorem dX4_sieve_17 : decode cX4_sieve 17 = .ok (.iload_n 2, 1) := by decide +kernel
theorem dX4_sieve_18 : decode cX4_sieve 18 = .ok (.iload_n 1, 1) := by decide +kernel
theorem dX4_sieve_19 : decode cX4_sieve 19 = .ok (.iconst 2, 1) := by decide +kernel
theorem dX4_sieve_20 : decode cX4_sieve 20 = .ok (.isub, 1) := by decide +kernel
theorem dX4_sieve_21 : decode cX4_sieve 21 = .ok (.if_icmp .le 5, 3) := by decide +kernel
theorem dX4_sieve_24 : decode cX4_sieve 24 = .ok (.iconst (-1), 1) := by decide +kernel
theorem dX4_sieve_25 : decode cX4_sieve 25 = .ok (.ireturn, 1) := by decide +kernel
theorem dX4_sieve_26 : decode cX4_sieve 26 = .ok (.iload_n 3, 1) := by decide +kernel
theorem dX4_sieve_27 : decode cX4_sieve 27 = .ok (.ifCond .lt 21, 3) := by decide +kernel
theorem dX4_sieve_30 : decode cX4_sieve 30 = .ok (.iload_n 3, 1) := by decide +kernel
theorem dX4_sieve_31 : decode cX4_sieve 31 = .ok (.iload_n 2, 1) := by decide +kernel
theorem dX4_sieve_32 : decode cX4_sieve 32 = .ok (.iconst 1, 1) := by decide +kernel
theorem dX4_sieve_33 : decode cX4_sieve 33 = .ok (.isub, 1) := by decide +kernel
theorem dX4_sieve_34 : decode cX4_sieve 34 = .ok (.if_icmp .gt 14, 3) := by decide +kernel
theorem dX4_sieve_37 : decode cX4_sieve 37 = .ok (.iload 4, 2) := by decide +kernel
theorem dX4_sieve_39 : decode cX4_sieve 39 = .ok (.ifCond .lt 9, 3) := by decide +kernel
theorem dX4_sieve_42 : decode cX4_sieve 42 = .ok (.iload 4, 2) := by decide +kernel
theorem dX4_sieve_44 : decode cX4_sieve 44 = .ok (.iload_n 2, 1) := by decide +kernel
theorem dX4_sieve_45 : decode cX4_sieve 45 = .ok (.if_icmp .le 5, 3) := by decide +kernel
theorem dX4_sieve_48 : decode cX4_sieve 48 = .ok (.iconst (-1), 1) := by decide +kernel
theorem dX4_sieve_49 : decode cX4_sieve 49 = .ok (.ireturn, 1) := by decide +kernel
theorem dX4_sieve_50 : decode cX4_sieve 50 = .ok (.iload_n 1, 1) := by decide +kernel
theorem dX4_sieve_51 : decode cX4_sieve 51 = .ok (.iload_n 2, 1) := by decide +kernel
theorem dX4_sieve_52 : decode cX4_sieve 52 = .ok (.iload_n 3, 1) := by decide +kernel
theorem dX4_sieve_53 : decode cX4_sieve 53 = .ok (.iload 4, 2) := by decide +kernel
theorem dX4_sieve_55 : decode cX4_sieve 55 = .ok (.invokestatic 152, 3) := by decide +kernel
theorem dX4_sieve_58 : decode cX4_sieve 58 = .ok (.ireturn, 1) := by decide +kernel
theorem dX4_many_0 : decode cX4_many 0 = .ok (.iload_n 1, 1) := by decide +kernel
theorem dX4_many_1 : decode cX4_many 1 = .ok (.iconst 2, 1) := by decide +kernel
theorem dX4_many_2 : decode cX4_many 2 = .ok (.if_icmp .lt 9, 3) := by decide +kernel
theorem dX4_many_5 : decode cX4_many 5 = .ok (.iload_n 1, 1) := by decide +kernel
theorem dX4_many_6 : decode cX4_many 6 = .ok (.bipush 40, 2) := by decide +kernel
theorem dX4_many_8 : decode cX4_many 8 = .ok (.if_icmp .le 5, 3) := by decide +kernel
theorem dX4_many_11 : decode cX4_many 11 = .ok (.iconst (-1), 1) := by decide +kernel
theorem dX4_many_12 : decode cX4_many 12 = .ok (.ireturn, 1) := by decide +kernel
theorem dX4_many_13 : decode cX4_many 13 = .ok (.iconst 0, 1) := by decide +kernel
theorem dX4_many_14 : decode cX4_many 14 = .ok (.istore_n 2, 1) := by decide +kernel
theorem dX4_many_15 : decode cX4_many 15 = .ok (.iconst 1, 1) := by decide +kernel
theorem dX4_many_16 : decode cX4_many 16 = .ok (.istore_n 3, 1) := by decide +kernel
theorem dX4_many_17 : decode cX4_many 17 = .ok (.iconst 2, 1) := by decide +kernel
theorem dX4_many_18 : decode cX4_many 18 = .ok (.iload_n 3, 1) := by decide +kernel
theorem dX4_many_19 : decode cX4_many 19 = .ok (.imul, 1) := by decide +kernel
theorem dX4_many_20 : decode cX4_many 20 = .ok (.iload_n 1, 1) := by decide +kernel
theorem dX4_many_21 : decode cX4_many 21 = .ok (.iconst 1, 1) := by decide +kernel
theorem dX4_many_22 : decode cX4_many 22 = .ok (.isub, 1) := by decide +kernel
theorem dX4_many_23 : decode cX4_many 23 = .ok (.if_icmp .gt 54, 3) := by decide +kernel
theorem dX4_many_26 : decode cX4_many 26 = .ok (.iconst 0, 1) := by decide +kernel
theorem dX4_many_27 : decode cX4_many 27 = .ok (.istore 4, 2) := by decide +kernel
theorem dX4_many_29 : decode cX4_many 29 = .ok (.iload 4, 2) := by decide +kernel
theorem dX4_many_31 : decode cX4_many 31 = .ok (.iload_n 3, 1) := by decide +kernel
theorem dX4_many_32 : decode cX4_many 32 = .ok (.if_icmp .ge 39, 3) := by decide +kernel
theorem dX4_many_35 : decode cX4_many 35 = .ok (.iconst 0, 1) := by decide +kernel
theorem dX4_many_36 : decode cX4_many 36 = .ok (.istore 5, 2) := by decide +kernel
theorem dX4_many_38 : decode cX4_many 38 = .ok (.iload 5, 2) := by decide +kernel
theorem dX4_many_40 : decode cX4_many 40 = .ok (.iload_n 3, 1) := by decide +kernel
theorem dX4_many_41 : decode cX4_many 41 = .ok (.if_icmp .gt 24, 3) := by decide +kernel
theorem dX4_many_44 : decode cX4_many 44 = .ok (.iload_n 1, 1) := by decide +kernel
theorem dX4_many_45 : decode cX4_many 45 = .ok (.iload_n 3, 1) := by decide +kernel
theorem dX4_many_46 : decode cX4_many 46 = .ok (.iload 4, 2) := by decide +kernel
theorem dX4_many_48 : decode cX4_many 48 = .ok (.iload 5, 2) := by decide +kernel
theorem dX4_many_50 : decode cX4_many 50 = .ok (.invokestatic 152, 3) := by decide +kernel
theorem dX4_many_53 : decode cX4_many 53 = .ok (.ifCond .ne 6, 3) := by decide +kernel
theorem dX4_many_56 : decode cX4_many 56 = .ok (.iinc 2 1, 3) := by decide +kernel
theorem dX4_many_59 : decode cX4_many 59 = .ok (.iinc 5 1, 3) := by decide +kernel
theorem dX4_many_62 : decode cX4_many 62 = .ok (.goto (-24), 3) := by decide +kernel
theorem dX4_many_65 : decode cX4_many 65 = .ok (.iinc 4 1, 3) := by decide +kernel
theorem dX4_many_68 : decode cX4_many 68 = .ok (.goto (-39), 3) := by decide +kernel
theorem dX4_many_71 : decode cX4_many 71 = .ok (.iinc 3 1, 3) := by decide +kernel
theorem dX4_many_74 : decode cX4_many 74 = .ok (.goto (-57), 3) := by decide +kernel
theorem dX4_many_77 : decode cX4_many 77 = .ok (.iload_n 2, 1) := by decide +kernel
theorem dX4_many_78 : decode cX4_many 78 = .ok (.ireturn, 1) := by decide +kernel
theorem dX4_count_0 : decode cX4_count 0 = .ok (.iload_n 1, 1) := by decide +kernel
theorem dX4_count_1 : decode cX4_count 1 = .ok (.tableswitch 65 0 3 #[31, 39, 47, 60], 31) := by decide +kernel
theorem dX4_count_32 : decode cX4_count 32 = .ok (.aload_n 0, 1) := by decide +kernel
theorem dX4_count_33 : decode cX4_count 33 = .ok (.getfield 30, 3) := by decide +kernel
theorem dX4_count_36 : decode cX4_count 36 = .ok (.getfield 45, 3) := by decide +kernel
theorem dX4_count_39 : decode cX4_count 39 = .ok (.ireturn, 1) := by decide +kernel
theorem dX4_count_40 : decode cX4_count 40 = .ok (.aload_n 0, 1) := by decide +kernel
theorem dX4_count_41 : decode cX4_count 41 = .ok (.getfield 30, 3) := by decide +kernel
theorem dX4_count_44 : decode cX4_count 44 = .ok (.getfield 158, 3) := by decide +kernel
theorem dX4_count_47 : decode cX4_count 47 = .ok (.ireturn, 1) := by decide +kernel
theorem dX4_count_48 : decode cX4_count 48 = .ok (.aload_n 0, 1) := by decide +kernel
theorem dX4_count_49 : decode cX4_count 49 = .ok (.invokevirtual 67, 3) := by decide +kernel
theorem dX4_count_52 : decode cX4_count 52 = .ok (.ifCond .eq 7, 3) := by decide +kernel
theorem dX4_count_55 : decode cX4_count 55 = .ok (.iconst 1, 1) := by decide +kernel
theorem dX4_count_56 : decode cX4_count 56 = .ok (.goto 4, 3) := by decide +kernel
theorem dX4_count_59 : decode cX4_count 59 = .ok (.iconst 0, 1) := by decide +kernel
theorem dX4_count_60 : decode cX4_count 60 = .ok (.ireturn, 1) := by decide +kernel
theorem dX4_count_61 : decode cX4_count 61 = .ok (.aload_n 0, 1) := by decide +kernel
theorem dX4_count_62 : decode cX4_count 62 = .ok (.invokevirtual 132, 3) := by decide +kernel
theorem dX4_count_65 : decode cX4_count 65 = .ok (.ireturn, 1) := by decide +kernel
theorem dX4_count_66 : decode cX4_count 66 = .ok (.iconst (-1), 1) := by decide +kernel
theorem dX4_count_67 : decode cX4_count 67 = .ok (.ireturn, 1) := by decide +kernel
theorem dX4_trace_0 : decode cX4_trace 0 = .ok (.aload_n 0, 1) := by decide +kernel
theorem dX4_trace_1 : decode cX4_trace 1 = .ok (.getfield 41, 3) := by decide +kernel
theorem dX4_trace_4 : decode cX4_trace 4 = .ok (.lreturn, 1) := by decide +kernel
theorem dX4_isPoint_0 : decode cX4_isPoint 0 = .ok (.iload_n 1, 1) := by decide +kernel
theorem dX4_isPoint_1 : decode cX4_isPoint 1 = .ok (.ifCond .lt 18, 3) := by decide +kernel
theorem dX4_isPoint_4 : decode cX4_isPoint 4 = .ok (.iload_n 1, 1) := by decide +kernel
theorem dX4_isPoint_5 : decode cX4_isPoint 5 = .ok (.aload_n 0, 1) := by decide +kernel
theorem dX4_isPoint_6 : decode cX4_isPoint 6 = .ok (.getfield 30, 3) := by decide +kernel
theorem dX4_isPoint_9 : decode cX4_isPoint 9 = .ok (.getfield 45, 3) := by decide +kernel
theorem dX4_isPoint_12 : decode cX4_isPoint 12 = .ok (.if_icmp .ge 7, 3) := by decide +kernel
theorem dX4_isPoint_15 : decode cX4_isPoint 15 = .ok (.iconst 1, 1) := by decide +kernel
theorem dX4_isPoint_16 : decode cX4_isPoint 16 = .ok (.goto 4, 3) := by decide +kernel
theorem dX4_isPoint_19 : decode cX4_isPoint 19 = .ok (.iconst 0, 1) := by decide +kernel
theorem dX4_isPoint_20 : decode cX4_isPoint 20 = .ok (.ireturn, 1) := by decide +kernel
theorem dX4_isColour_0 : decode cX4_isColour 0 = .ok (.iload_n 1, 1) := by decide +kernel
theorem dX4_isColour_1 : decode cX4_isColour 1 = .ok (.ifCond .lt 18, 3) := by decide +kernel
theorem dX4_isColour_4 : decode cX4_isColour 4 = .ok (.iload_n 1, 1) := by decide +kernel
theorem dX4_isColour_5 : decode cX4_isColour 5 = .ok (.aload_n 0, 1) := by decide +kernel
theorem dX4_isColour_6 : decode cX4_isColour 6 = .ok (.getfield 30, 3) := by decide +kernel
theorem dX4_isColour_9 : decode cX4_isColour 9 = .ok (.getfield 158, 3) := by decide +kernel
theorem dX4_isColour_12 : decode cX4_isColour 12 = .ok (.if_icmp .ge 7, 3) := by decide +kernel
theorem dX4_isColour_15 : decode cX4_isColour 15 = .ok (.iconst 1, 1) := by decide +kernel
theorem dX4_isColour_16 : decode cX4_isColour 16 = .ok (.goto 4, 3) := by decide +kernel
theorem dX4_isColour_19 : decode cX4_isColour 19 = .ok (.iconst 0, 1) := by decide +kernel
theorem dX4_isColour_20 : decode cX4_isColour 20 = .ok (.ireturn, 1) := by decide +kernel
theorem dX4_isSet_0 : decode cX4_isSet 0 = .ok (.iload_n 1, 1) := by decide +kernel
theorem dX4_isSet_1 : decode cX4_isSet 1 = .ok (.ifCond .lt 20, 3) := by decide +kernel
theorem dX4_isSet_4 : decode cX4_isSet 4 = .ok (.iload_n 1, 1) := by decide +kernel
theorem dX4_isSet_5 : decode cX4_isSet 5 = .ok (.iconst 1, 1) := by decide +kernel
theorem dX4_isSet_6 : decode cX4_isSet 6 = .ok (.aload_n 0, 1) := by decide +kernel
theorem dX4_isSet_7 : decode cX4_isSet 7 = .ok (.getfield 30, 3) := by decide +kernel
theorem dX4_isSet_10 : decode cX4_isSet 10 = .ok (.getfield 158, 3) := by decide +kernel
theorem dX4_isSet_13 : decode cX4_isSet 13 = .ok (.ishl, 1) := by decide +kernel
theorem dX4_isSet_14 : decode cX4_isSet 14 = .ok (.if_icmp .ge 7, 3) := by decide +kernel
theorem dX4_isSet_17 : decode cX4_isSet 17 = .ok (.iconst 1, 1) := by decide +kernel
theorem dX4_isSet_18 : decode cX4_isSet 18 = .ok (.goto 4, 3) := by decide +kernel
theorem dX4_isSet_21 : decode cX4_isSet 21 = .ok (.iconst 0, 1) := by decide +kernel
theorem dX4_isSet_22 : decode cX4_isSet 22 = .ok (.ireturn, 1) := by decide +kernel
theorem dX4_isEven_0 : decode cX4_isEven 0 = .ok (.aload_n 0, 1) := by decide +kernel
theorem dX4_isEven_1 : decode cX4_isEven 1 = .ok (.getfield 30, 3) := by decide +kernel
theorem dX4_isEven_4 : decode cX4_isEven 4 = .ok (.getfield 71, 3) := by decide +kernel
theorem dX4_isEven_7 : decode cX4_isEven 7 = .ok (.ifCond .ne 7, 3) := by decide +kernel
theorem dX4_isEven_10 : decode cX4_isEven 10 = .ok (.iconst 1, 1) := by decide +kernel
theorem dX4_isEven_11 : decode cX4_isEven 11 = .ok (.goto 4, 3) := by decide +kernel
theorem dX4_isEven_14 : decode cX4_isEven 14 = .ok (.iconst 0, 1) := by decide +kernel
theorem dX4_isEven_15 : decode cX4_isEven 15 = .ok (.ireturn, 1) := by decide +kernel
theorem dX4_mapsEveryColour_0 : decode cX4_mapsEveryColour 0 = .ok (.iconst 1, 1) := by decide +kernel
theorem dX4_mapsEveryColour_1 : decode cX4_mapsEveryColour 1 = .ok (.istore_n 2, 1) := by decide +kernel
theorem dX4_mapsEveryColour_2 : decode cX4_mapsEveryColour 2 = .ok (.iload_n 2, 1) := by decide +kernel
theorem dX4_mapsEveryColour_3 : decode cX4_mapsEveryColour 3 = .ok (.aload_n 0, 1) := by decide +kernel
theorem dX4_mapsEveryColour_4 : decode cX4_mapsEveryColour 4 = .ok (.getfield 30, 3) := by decide +kernel
theorem dX4_mapsEveryColour_7 : decode cX4_mapsEveryColour 7 = .ok (.getfield 158, 3) := by decide +kernel
theorem dX4_mapsEveryColour_10 : decode cX4_mapsEveryColour 10 = .ok (.if_icmp .ge 19, 3) := by decide +kernel
theorem dX4_mapsEveryColour_13 : decode cX4_mapsEveryColour 13 = .ok (.iload_n 1, 1) := by decide +kernel
theorem dX4_mapsEveryColour_14 : decode cX4_mapsEveryColour 14 = .ok (.iload_n 2, 1) := by decide +kernel
theorem dX4_mapsEveryColour_15 : decode cX4_mapsEveryColour 15 = .ok (.invokestatic 161, 3) := by decide +kernel
theorem dX4_mapsEveryColour_18 : decode cX4_mapsEveryColour 18 = .ok (.ifCond .ne 5, 3) := by decide +kernel
theorem dX4_mapsEveryColour_21 : decode cX4_mapsEveryColour 21 = .ok (.iconst 0, 1) := by decide +kernel
theorem dX4_mapsEveryColour_22 : decode cX4_mapsEveryColour 22 = .ok (.ireturn, 1) := by decide +kernel
theorem dX4_mapsEveryColour_23 : decode cX4_mapsEveryColour 23 = .ok (.iinc 2 1, 3) := by decide +kernel
theorem dX4_mapsEveryColour_26 : decode cX4_mapsEveryColour 26 = .ok (.goto (-24), 3) := by decide +kernel
theorem dX4_mapsEveryColour_29 : decode cX4_mapsEveryColour 29 = .ok (.iconst 1, 1) := by decide +kernel
theorem dX4_mapsEveryColour_30 : decode cX4_mapsEveryColour 30 = .ok (.ireturn, 1) := by decide +kernel
theorem dX4_weightBelowRank_0 : decode cX4_weightBelowRank 0 = .ok (.iconst 0, 1) := by decide +kernel
theorem dX4_weightBelowRank_1 : decode cX4_weightBelowRank 1 = .ok (.istore_n 1, 1) := by decide +kernel
theorem dX4_weightBelowRank_2 : decode cX4_weightBelowRank 2 = .ok (.iconst 0, 1) := by decide +kernel
theorem dX4_weightBelowRank_3 : decode cX4_weightBelowRank 3 = .ok (.istore_n 2, 1) := by decide +kernel
theorem dX4_weightBelowRank_4 : decode cX4_weightBelowRank 4 = .ok (.iload_n 2, 1) := by decide +kernel
theorem dX4_weightBelowRank_5 : decode cX4_weightBelowRank 5 = .ok (.aload_n 0, 1) := by decide +kernel
theorem dX4_weightBelowRank_6 : decode cX4_weightBelowRank 6 = .ok (.getfield 30, 3) := by decide +kernel
theorem dX4_weightBelowRank_9 : decode cX4_weightBelowRank 9 = .ok (.getfield 158, 3) := by decide +kernel
theorem dX4_weightBelowRank_12 : decode cX4_weightBelowRank 12 = .ok (.if_icmp .ge 18, 3) := by decide +kernel
theorem dX4_weightBelowRank_15 : decode cX4_weightBelowRank 15 = .ok (.iload_n 1, 1) := by decide +kernel
theorem dX4_weightBelowRank_16 : decode cX4_weightBelowRank 16 = .ok (.aload_n 0, 1) := by decide +kernel
theorem dX4_weightBelowRank_17 : decode cX4_weightBelowRank 17 = .ok (.getfield 9, 3) := by decide +kernel
theorem dX4_weightBelowRank_20 : decode cX4_weightBelowRank 20 = .ok (.iload_n 2, 1) := by decide +kernel
theorem dX4_weightBelowRank_21 : decode cX4_weightBelowRank 21 = .ok (.iaload, 1) := by decide +kernel
theorem dX4_weightBelowRank_22 : decode cX4_weightBelowRank 22 = .ok (.iadd, 1) := by decide +kernel
theorem dX4_weightBelowRank_23 : decode cX4_weightBelowRank 23 = .ok (.istore_n 1, 1) := by decide +kernel
theorem dX4_weightBelowRank_24 : decode cX4_weightBelowRank 24 = .ok (.iinc 2 1, 3) := by decide +kernel
theorem dX4_weightBelowRank_27 : decode cX4_weightBelowRank 27 = .ok (.goto (-23), 3) := by decide +kernel
theorem dX4_weightBelowRank_30 : decode cX4_weightBelowRank 30 = .ok (.iload_n 1, 1) := by decide +kernel
theorem dX4_weightBelowRank_31 : decode cX4_weightBelowRank 31 = .ok (.ireturn, 1) := by decide +kernel
theorem dX4_takeSpare_0 : decode cX4_takeSpare 0 = .ok (.aload_n 0, 1) := by decide +kernel
theorem dX4_takeSpare_1 : decode cX4_takeSpare 1 = .ok (.getfield 30, 3) := by decide +kernel
theorem dX4_takeSpare_4 : decode cX4_takeSpare 4 = .ok (.astore_n 1, 1) := by decide +kernel
theorem dX4_takeSpare_5 : decode cX4_takeSpare 5 = .ok (.aload_n 0, 1) := by decide +kernel
theorem dX4_takeSpare_6 : decode cX4_takeSpare 6 = .ok (.aload_n 0, 1) := by decide +kernel
theorem dX4_takeSpare_7 : decode cX4_takeSpare 7 = .ok (.getfield 34, 3) := by decide +kernel
theorem dX4_takeSpare_10 : decode cX4_takeSpare 10 = .ok (.putfield 30, 3) := by decide +kernel
theorem dX4_takeSpare_13 : decode cX4_takeSpare 13 = .ok (.aload_n 0, 1) := by decide +kernel
theorem dX4_takeSpare_14 : decode cX4_takeSpare 14 = .ok (.aload_n 1, 1) := by decide +kernel
theorem dX4_takeSpare_15 : decode cX4_takeSpare 15 = .ok (.putfield 34, 3) := by decide +kernel
theorem dX4_takeSpare_18 : decode cX4_takeSpare 18 = .ok (.return_, 1) := by decide +kernel
theorem dX4_worthByDegrees_0 : decode cX4_worthByDegrees 0 = .ok (.aload_n 0, 1) := by decide +kernel
theorem dX4_worthByDegrees_1 : decode cX4_worthByDegrees 1 = .ok (.dup, 1) := by decide +kernel
theorem dX4_worthByDegrees_2 : decode cX4_worthByDegrees 2 = .ok (.getfield 41, 3) := by decide +kernel
theorem dX4_worthByDegrees_5 : decode cX4_worthByDegrees 5 = .ok (.lconst 1, 1) := by decide +kernel
theorem dX4_worthByDegrees_6 : decode cX4_worthByDegrees 6 = .ok (.ladd, 1) := by decide +kernel
theorem dX4_worthByDegrees_7 : decode cX4_worthByDegrees 7 = .ok (.putfield 41, 3) := by decide +kernel
theorem dX4_worthByDegrees_10 : decode cX4_worthByDegrees 10 = .ok (.aload_n 0, 1) := by decide +kernel
theorem dX4_worthByDegrees_11 : decode cX4_worthByDegrees 11 = .ok (.getfield 30, 3) := by decide +kernel
theorem dX4_worthByDegrees_14 : decode cX4_worthByDegrees 14 = .ok (.iload_n 1, 1) := by decide +kernel
theorem dX4_worthByDegrees_15 : decode cX4_worthByDegrees 15 = .ok (.invokevirtual 85, 3) := by decide +kernel
theorem dX4_worthByDegrees_18 : decode cX4_worthByDegrees 18 = .ok (.ireturn, 1) := by decide +kernel
theorem dX4_worthByHulls_0 : decode cX4_worthByHulls 0 = .ok (.aload_n 0, 1) := by decide +kernel
theorem dX4_worthByHulls_1 : decode cX4_worthByHulls 1 = .ok (.dup, 1) := by decide +kernel
theorem dX4_worthByHulls_2 : decode cX4_worthByHulls 2 = .ok (.getfield 41, 3) := by decide +kernel
theorem dX4_worthByHulls_5 : decode cX4_worthByHulls 5 = .ok (.ldc2_w 164, 3) := by decide +kernel
theorem dX4_worthByHulls_8 : decode cX4_worthByHulls 8 = .ok (.ladd, 1) := by decide +kernel
theorem dX4_worthByHulls_9 : decode cX4_worthByHulls 9 = .ok (.putfield 41, 3) := by decide +kernel
theorem dX4_worthByHulls_12 : decode cX4_worthByHulls 12 = .ok (.aload_n 0, 1) := by decide +kernel
theorem dX4_worthByHulls_13 : decode cX4_worthByHulls 13 = .ok (.iload_n 1, 1) := by decide +kernel
theorem dX4_worthByHulls_14 : decode cX4_worthByHulls 14 = .ok (.invokevirtual 107, 3) := by decide +kernel
theorem dX4_worthByHulls_17 : decode cX4_worthByHulls 17 = .ok (.aload_n 0, 1) := by decide +kernel
theorem dX4_worthByHulls_18 : decode cX4_worthByHulls 18 = .ok (.getfield 30, 3) := by decide +kernel
theorem dX4_worthByHulls_21 : decode cX4_worthByHulls 21 = .ok (.aload_n 0, 1) := by decide +kernel
theorem dX4_worthByHulls_22 : decode cX4_worthByHulls 22 = .ok (.getfield 30, 3) := by decide +kernel
theorem dX4_worthByHulls_25 : decode cX4_worthByHulls 25 = .ok (.iconst 1, 1) := by decide +kernel
theorem dX4_worthByHulls_26 : decode cX4_worthByHulls 26 = .ok (.iload_n 1, 1) := by decide +kernel
theorem dX4_worthByHulls_27 : decode cX4_worthByHulls 27 = .ok (.ishl, 1) := by decide +kernel
theorem dX4_worthByHulls_28 : decode cX4_worthByHulls 28 = .ok (.invokevirtual 97, 3) := by decide +kernel
theorem dX4_worthByHulls_31 : decode cX4_worthByHulls 31 = .ok (.invokevirtual 104, 3) := by decide +kernel
theorem dX4_worthByHulls_34 : decode cX4_worthByHulls 34 = .ok (.imul, 1) := by decide +kernel
theorem dX4_worthByHulls_35 : decode cX4_worthByHulls 35 = .ok (.ireturn, 1) := by decide +kernel
theorem dX4_worthByTriples_0 : decode cX4_worthByTriples 0 = .ok (.aload_n 0, 1) := by decide +kernel
theorem dX4_worthByTriples_1 : decode cX4_worthByTriples 1 = .ok (.dup, 1) := by decide +kernel
theorem dX4_worthByTriples_2 : decode cX4_worthByTriples 2 = .ok (.getfield 41, 3) := by decide +kernel
theorem dX4_worthByTriples_5 : decode cX4_worthByTriples 5 = .ok (.ldc2_w 166, 3) := by decide +kernel
theorem dX4_worthByTriples_8 : decode cX4_worthByTriples 8 = .ok (.ladd, 1) := by decide +kernel
theorem dX4_worthByTriples_9 : decode cX4_worthByTriples 9 = .ok (.putfield 41, 3) := by decide +kernel
theorem dX4_worthByTriples_12 : decode cX4_worthByTriples 12 = .ok (.aload_n 0, 1) := by decide +kernel
theorem dX4_worthByTriples_13 : decode cX4_worthByTriples 13 = .ok (.iload_n 1, 1) := by decide +kernel
theorem dX4_worthByTriples_14 : decode cX4_worthByTriples 14 = .ok (.invokevirtual 110, 3) := by decide +kernel
theorem dX4_worthByTriples_17 : decode cX4_worthByTriples 17 = .ok (.aload_n 0, 1) := by decide +kernel
theorem dX4_worthByTriples_18 : decode cX4_worthByTriples 18 = .ok (.getfield 30, 3) := by decide +kernel
theorem dX4_worthByTriples_21 : decode cX4_worthByTriples 21 = .ok (.iload_n 1, 1) := by decide +kernel
theorem dX4_worthByTriples_22 : decode cX4_worthByTriples 22 = .ok (.iload_n 1, 1) := by decide +kernel
theorem dX4_worthByTriples_23 : decode cX4_worthByTriples 23 = .ok (.iload_n 1, 1) := by decide +kernel
theorem dX4_worthByTriples_24 : decode cX4_worthByTriples 24 = .ok (.invokevirtual 77, 3) := by decide +kernel
theorem dX4_worthByTriples_27 : decode cX4_worthByTriples 27 = .ok (.iadd, 1) := by decide +kernel
end
section
-- decode rows (by program)
theorem dX4_worthByTriples_28 : decode cX4_worthByTriples 28 = .ok (.ireturn, 1) := by decide +kernel
end
section
-- decode rows (by program)
theorem dX5_init_0 : decode cX5_init 0 = .ok (.aload_n 0, 1) := by decide +kernel
theorem dX5_init_1 : decode cX5_init 1 = .ok (.invokespecial 1, 3) := by decide +kernel
theorem dX5_init_4 : decode cX5_init 4 = .ok (.aload_n 0, 1) := by decide +kernel
theorem dX5_init_5 : decode cX5_init 5 = .ok (.iconst 1, 1) := by decide +kernel
theorem dX5_init_6 : decode cX5_init 6 = .ok (.putfield 7, 3) := by decide +kernel
theorem dX5_init_9 : decode cX5_init 9 = .ok (.aload_n 0, 1) := by decide +kernel
theorem dX5_init_10 : decode cX5_init 10 = .ok (.bipush 64, 2) := by decide +kernel
theorem dX5_init_12 : decode cX5_init 12 = .ok (.newarray .int, 2) := by decide +kernel
theorem dX5_init_14 : decode cX5_init 14 = .ok (.putfield 13, 3) := by decide +kernel
theorem dX5_init_17 : decode cX5_init 17 = .ok (.aload_n 0, 1) := by decide +kernel
theorem dX5_init_18 : decode cX5_init 18 = .ok (.bipush 64, 2) := by decide +kernel
theorem dX5_init_20 : decode cX5_init 20 = .ok (.newarray .int, 2) := by decide +kernel
theorem dX5_init_22 : decode cX5_init 22 = .ok (.putfield 17, 3) := by decide +kernel
theorem dX5_init_25 : decode cX5_init 25 = .ok (.aload_n 0, 1) := by decide +kernel
theorem dX5_init_26 : decode cX5_init 26 = .ok (.iconst 5, 1) := by decide +kernel
theorem dX5_init_27 : decode cX5_init 27 = .ok (.newarray .int, 2) := by decide +kernel
theorem dX5_init_29 : decode cX5_init 29 = .ok (.putfield 20, 3) := by decide +kernel
theorem dX5_init_32 : decode cX5_init 32 = .ok (.aload_n 0, 1) := by decide +kernel
theorem dX5_init_33 : decode cX5_init 33 = .ok (.iconst 5, 1) := by decide +kernel
theorem dX5_init_34 : decode cX5_init 34 = .ok (.newarray .int, 2) := by decide +kernel
theorem dX5_init_36 : decode cX5_init 36 = .ok (.putfield 23, 3) := by decide +kernel
theorem dX5_init_39 : decode cX5_init 39 = .ok (.aload_n 0, 1) := by decide +kernel
theorem dX5_init_40 : decode cX5_init 40 = .ok (.iconst 5, 1) := by decide +kernel
theorem dX5_init_41 : decode cX5_init 41 = .ok (.newarray .int, 2) := by decide +kernel
theorem dX5_init_43 : decode cX5_init 43 = .ok (.putfield 26, 3) := by decide +kernel
theorem dX5_init_46 : decode cX5_init 46 = .ok (.aload_n 0, 1) := by decide +kernel
theorem dX5_init_47 : decode cX5_init 47 = .ok (.bipush 8, 2) := by decide +kernel
theorem dX5_init_49 : decode cX5_init 49 = .ok (.newarray .int, 2) := by decide +kernel
theorem dX5_init_51 : decode cX5_init 51 = .ok (.putfield 29, 3) := by decide +kernel
theorem dX5_init_54 : decode cX5_init 54 = .ok (.aload_n 0, 1) := by decide +kernel
theorem dX5_init_55 : decode cX5_init 55 = .ok (.iconst 5, 1) := by decide +kernel
theorem dX5_init_56 : decode cX5_init 56 = .ok (.newarray .int, 2) := by decide +kernel
theorem dX5_init_58 : decode cX5_init 58 = .ok (.putfield 32, 3) := by decide +kernel
theorem dX5_init_61 : decode cX5_init 61 = .ok (.aload_n 0, 1) := by decide +kernel
theorem dX5_init_62 : decode cX5_init 62 = .ok (.bipush 8, 2) := by decide +kernel
theorem dX5_init_64 : decode cX5_init 64 = .ok (.newarray .long, 2) := by decide +kernel
theorem dX5_init_66 : decode cX5_init 66 = .ok (.putfield 35, 3) := by decide +kernel
theorem dX5_init_69 : decode cX5_init 69 = .ok (.aload_n 0, 1) := by decide +kernel
theorem dX5_init_70 : decode cX5_init 70 = .ok (.bipush 8, 2) := by decide +kernel
theorem dX5_init_72 : decode cX5_init 72 = .ok (.newarray .long, 2) := by decide +kernel
theorem dX5_init_74 : decode cX5_init 74 = .ok (.putfield 39, 3) := by decide +kernel
theorem dX5_init_77 : decode cX5_init 77 = .ok (.iconst 0, 1) := by decide +kernel
theorem dX5_init_78 : decode cX5_init 78 = .ok (.istore_n 1, 1) := by decide +kernel
theorem dX5_init_79 : decode cX5_init 79 = .ok (.iload_n 1, 1) := by decide +kernel
theorem dX5_init_80 : decode cX5_init 80 = .ok (.iconst 5, 1) := by decide +kernel
theorem dX5_init_81 : decode cX5_init 81 = .ok (.if_icmp .ge 16, 3) := by decide +kernel
theorem dX5_init_84 : decode cX5_init 84 = .ok (.aload_n 0, 1) := by decide +kernel
theorem dX5_init_85 : decode cX5_init 85 = .ok (.getfield 20, 3) := by decide +kernel
theorem dX5_init_88 : decode cX5_init 88 = .ok (.iload_n 1, 1) := by decide +kernel
theorem dX5_init_89 : decode cX5_init 89 = .ok (.iconst 1, 1) := by decide +kernel
theorem dX5_init_90 : decode cX5_init 90 = .ok (.iastore, 1) := by decide +kernel
theorem dX5_init_91 : decode cX5_init 91 = .ok (.iinc 1 1, 3) := by decide +kernel
theorem dX5_init_94 : decode cX5_init 94 = .ok (.goto (-15), 3) := by decide +kernel
theorem dX5_init_97 : decode cX5_init 97 = .ok (.return_, 1) := by decide +kernel
theorem dX5_in_0 : decode cX5_in 0 = .ok (.iload_n 0, 1) := by decide +kernel
theorem dX5_in_1 : decode cX5_in 1 = .ok (.iload_n 1, 1) := by decide +kernel
theorem dX5_in_2 : decode cX5_in 2 = .ok (.if_icmp .lt 12, 3) := by decide +kernel
theorem dX5_in_5 : decode cX5_in 5 = .ok (.iload_n 0, 1) := by decide +kernel
theorem dX5_in_6 : decode cX5_in 6 = .ok (.iload_n 2, 1) := by decide +kernel
theorem dX5_in_7 : decode cX5_in 7 = .ok (.if_icmp .gt 7, 3) := by decide +kernel
theorem dX5_in_10 : decode cX5_in 10 = .ok (.iconst 1, 1) := by decide +kernel
theorem dX5_in_11 : decode cX5_in 11 = .ok (.goto 4, 3) := by decide +kernel
theorem dX5_in_14 : decode cX5_in 14 = .ok (.iconst 0, 1) := by decide +kernel
theorem dX5_in_15 : decode cX5_in 15 = .ok (.ireturn, 1) := by decide +kernel
theorem dX5_isPoint_0 : decode cX5_isPoint 0 = .ok (.iload_n 1, 1) := by decide +kernel
theorem dX5_isPoint_1 : decode cX5_isPoint 1 = .ok (.iconst 0, 1) := by decide +kernel
theorem dX5_isPoint_2 : decode cX5_isPoint 2 = .ok (.aload_n 0, 1) := by decide +kernel
theorem dX5_isPoint_3 : decode cX5_isPoint 3 = .ok (.getfield 7, 3) := by decide +kernel
theorem dX5_isPoint_6 : decode cX5_isPoint 6 = .ok (.iconst 1, 1) := by decide +kernel
theorem dX5_isPoint_7 : decode cX5_isPoint 7 = .ok (.isub, 1) := by decide +kernel
theorem dX5_isPoint_8 : decode cX5_isPoint 8 = .ok (.invokestatic 45, 3) := by decide +kernel
theorem dX5_isPoint_11 : decode cX5_isPoint 11 = .ok (.ireturn, 1) := by decide +kernel
theorem dX5_hue_0 : decode cX5_hue 0 = .ok (.aload_n 0, 1) := by decide +kernel
theorem dX5_hue_1 : decode cX5_hue 1 = .ok (.getfield 13, 3) := by decide +kernel
theorem dX5_hue_4 : decode cX5_hue 4 = .ok (.bipush 8, 2) := by decide +kernel
theorem dX5_hue_6 : decode cX5_hue 6 = .ok (.iload_n 1, 1) := by decide +kernel
theorem dX5_hue_7 : decode cX5_hue 7 = .ok (.imul, 1) := by decide +kernel
theorem dX5_hue_8 : decode cX5_hue 8 = .ok (.iload_n 2, 1) := by decide +kernel
theorem dX5_hue_9 : decode cX5_hue 9 = .ok (.iadd, 1) := by decide +kernel
theorem dX5_hue_10 : decode cX5_hue 10 = .ok (.iaload, 1) := by decide +kernel
theorem dX5_hue_11 : decode cX5_hue 11 = .ok (.ireturn, 1) := by decide +kernel
theorem dX5_points_0 : decode cX5_points 0 = .ok (.aload_n 0, 1) := by decide +kernel
theorem dX5_points_1 : decode cX5_points 1 = .ok (.iconst 0, 1) := by decide +kernel
theorem dX5_points_2 : decode cX5_points 2 = .ok (.putfield 42, 3) := by decide +kernel
theorem dX5_points_5 : decode cX5_points 5 = .ok (.iload_n 1, 1) := by decide +kernel
theorem dX5_points_6 : decode cX5_points 6 = .ok (.iconst 1, 1) := by decide +kernel
theorem dX5_points_7 : decode cX5_points 7 = .ok (.bipush 8, 2) := by decide +kernel
theorem dX5_points_9 : decode cX5_points 9 = .ok (.invokestatic 45, 3) := by decide +kernel
theorem dX5_points_12 : decode cX5_points 12 = .ok (.ifCond .ne 5, 3) := by decide +kernel
theorem dX5_points_15 : decode cX5_points 15 = .ok (.iconst (-1), 1) := by decide +kernel
theorem dX5_points_16 : decode cX5_points 16 = .ok (.ireturn, 1) := by decide +kernel
theorem dX5_points_17 : decode cX5_points 17 = .ok (.aload_n 0, 1) := by decide +kernel
theorem dX5_points_18 : decode cX5_points 18 = .ok (.getfield 7, 3) := by decide +kernel
theorem dX5_points_21 : decode cX5_points 21 = .ok (.istore_n 2, 1) := by decide +kernel
theorem dX5_points_22 : decode cX5_points 22 = .ok (.aload_n 0, 1) := by decide +kernel
theorem dX5_points_23 : decode cX5_points 23 = .ok (.iload_n 1, 1) := by decide +kernel
theorem dX5_points_24 : decode cX5_points 24 = .ok (.putfield 7, 3) := by decide +kernel
theorem dX5_points_27 : decode cX5_points 27 = .ok (.iconst 0, 1) := by decide +kernel
theorem dX5_points_28 : decode cX5_points 28 = .ok (.istore_n 3, 1) := by decide +kernel
theorem dX5_points_29 : decode cX5_points 29 = .ok (.iload_n 3, 1) := by decide +kernel
theorem dX5_points_30 : decode cX5_points 30 = .ok (.bipush 8, 2) := by decide +kernel
theorem dX5_points_32 : decode cX5_points 32 = .ok (.if_icmp .ge 48, 3) := by decide +kernel
theorem dX5_points_35 : decode cX5_points 35 = .ok (.iconst 0, 1) := by decide +kernel
theorem dX5_points_36 : decode cX5_points 36 = .ok (.istore 4, 2) := by decide +kernel
theorem dX5_points_38 : decode cX5_points 38 = .ok (.iload 4, 2) := by decide +kernel
theorem dX5_points_40 : decode cX5_points 40 = .ok (.bipush 8, 2) := by decide +kernel
theorem dX5_points_42 : decode cX5_points 42 = .ok (.if_icmp .ge 32, 3) := by decide +kernel
theorem dX5_points_45 : decode cX5_points 45 = .ok (.aload_n 0, 1) := by decide +kernel
theorem dX5_points_46 : decode cX5_points 46 = .ok (.getfield 13, 3) := by decide +kernel
theorem dX5_points_49 : decode cX5_points 49 = .ok (.bipush 8, 2) := by decide +kernel
theorem dX5_points_51 : decode cX5_points 51 = .ok (.iload_n 3, 1) := by decide +kernel
theorem dX5_points_52 : decode cX5_points 52 = .ok (.imul, 1) := by decide +kernel
theorem dX5_points_53 : decode cX5_points 53 = .ok (.iload 4, 2) := by decide +kernel
theorem dX5_points_55 : decode cX5_points 55 = .ok (.iadd, 1) := by decide +kernel
theorem dX5_points_56 : decode cX5_points 56 = .ok (.iload_n 3, 1) := by decide +kernel
theorem dX5_points_57 : decode cX5_points 57 = .ok (.iload 4, 2) := by decide +kernel
theorem dX5_points_59 : decode cX5_points 59 = .ok (.if_icmp .ne 7, 3) := by decide +kernel
theorem dX5_points_62 : decode cX5_points 62 = .ok (.iconst 0, 1) := by decide +kernel
theorem dX5_points_63 : decode cX5_points 63 = .ok (.goto 4, 3) := by decide +kernel
theorem dX5_points_66 : decode cX5_points 66 = .ok (.iconst 1, 1) := by decide +kernel
theorem dX5_points_67 : decode cX5_points 67 = .ok (.iastore, 1) := by decide +kernel
theorem dX5_points_68 : decode cX5_points 68 = .ok (.iinc 4 1, 3) := by decide +kernel
theorem dX5_points_71 : decode cX5_points 71 = .ok (.goto (-33), 3) := by decide +kernel
theorem dX5_points_74 : decode cX5_points 74 = .ok (.iinc 3 1, 3) := by decide +kernel
theorem dX5_points_77 : decode cX5_points 77 = .ok (.goto (-48), 3) := by decide +kernel
theorem dX5_points_80 : decode cX5_points 80 = .ok (.iload_n 2, 1) := by decide +kernel
theorem dX5_points_81 : decode cX5_points 81 = .ok (.ireturn, 1) := by decide +kernel
theorem dX5_colour_0 : decode cX5_colour 0 = .ok (.aload_n 0, 1) := by decide +kernel
theorem dX5_colour_1 : decode cX5_colour 1 = .ok (.iconst 0, 1) := by decide +kernel
theorem dX5_colour_2 : decode cX5_colour 2 = .ok (.putfield 42, 3) := by decide +kernel
theorem dX5_colour_5 : decode cX5_colour 5 = .ok (.aload_n 0, 1) := by decide +kernel
theorem dX5_colour_6 : decode cX5_colour 6 = .ok (.iload_n 1, 1) := by decide +kernel
theorem dX5_colour_7 : decode cX5_colour 7 = .ok (.invokevirtual 49, 3) := by decide +kernel
theorem dX5_colour_10 : decode cX5_colour 10 = .ok (.ifCond .eq 20, 3) := by decide +kernel
theorem dX5_colour_13 : decode cX5_colour 13 = .ok (.aload_n 0, 1) := by decide +kernel
theorem dX5_colour_14 : decode cX5_colour 14 = .ok (.iload_n 2, 1) := by decide +kernel
theorem dX5_colour_15 : decode cX5_colour 15 = .ok (.invokevirtual 49, 3) := by decide +kernel
theorem dX5_colour_18 : decode cX5_colour 18 = .ok (.ifCond .eq 12, 3) := by decide +kernel
theorem dX5_colour_21 : decode cX5_colour 21 = .ok (.iload_n 3, 1) := by decide +kernel
theorem dX5_colour_22 : decode cX5_colour 22 = .ok (.iconst 0, 1) := by decide +kernel
theorem dX5_colour_23 : decode cX5_colour 23 = .ok (.iconst 4, 1) := by decide +kernel
theorem dX5_colour_24 : decode cX5_colour 24 = .ok (.invokestatic 45, 3) := by decide +kernel
theorem dX5_colour_27 : decode cX5_colour 27 = .ok (.ifCond .ne 5, 3) := by decide +kernel
theorem dX5_colour_30 : decode cX5_colour 30 = .ok (.iconst (-1), 1) := by decide +kernel
theorem dX5_colour_31 : decode cX5_colour 31 = .ok (.ireturn, 1) := by decide +kernel
theorem dX5_colour_32 : decode cX5_colour 32 = .ok (.aload_n 0, 1) := by decide +kernel
theorem dX5_colour_33 : decode cX5_colour 33 = .ok (.iload_n 1, 1) := by decide +kernel
theorem dX5_colour_34 : decode cX5_colour 34 = .ok (.iload_n 2, 1) := by decide +kernel
theorem dX5_colour_35 : decode cX5_colour 35 = .ok (.invokevirtual 53, 3) := by decide +kernel
theorem dX5_colour_38 : decode cX5_colour 38 = .ok (.istore 4, 2) := by decide +kernel
theorem dX5_colour_40 : decode cX5_colour 40 = .ok (.aload_n 0, 1) := by decide +kernel
theorem dX5_colour_41 : decode cX5_colour 41 = .ok (.getfield 13, 3) := by decide +kernel
theorem dX5_colour_44 : decode cX5_colour 44 = .ok (.bipush 8, 2) := by decide +kernel
theorem dX5_colour_46 : decode cX5_colour 46 = .ok (.iload_n 1, 1) := by decide +kernel
theorem dX5_colour_47 : decode cX5_colour 47 = .ok (.imul, 1) := by decide +kernel
theorem dX5_colour_48 : decode cX5_colour 48 = .ok (.iload_n 2, 1) := by decide +kernel
theorem dX5_colour_49 : decode cX5_colour 49 = .ok (.iadd, 1) := by decide +kernel
theorem dX5_colour_50 : decode cX5_colour 50 = .ok (.iload_n 3, 1) := by decide +kernel
theorem dX5_colour_51 : decode cX5_colour 51 = .ok (.iastore, 1) := by decide +kernel
theorem dX5_colour_52 : decode cX5_colour 52 = .ok (.iload 4, 2) := by decide +kernel
theorem dX5_colour_54 : decode cX5_colour 54 = .ok (.ireturn, 1) := by decide +kernel
theorem dX5_at_0 : decode cX5_at 0 = .ok (.aload_n 0, 1) := by decide +kernel
theorem dX5_at_1 : decode cX5_at 1 = .ok (.iconst 0, 1) := by decide +kernel
theorem dX5_at_2 : decode cX5_at 2 = .ok (.putfield 42, 3) := by decide +kernel
theorem dX5_at_5 : decode cX5_at 5 = .ok (.aload_n 0, 1) := by decide +kernel
theorem dX5_at_6 : decode cX5_at 6 = .ok (.iload_n 1, 1) := by decide +kernel
theorem dX5_at_7 : decode cX5_at 7 = .ok (.invokevirtual 49, 3) := by decide +kernel
theorem dX5_at_10 : decode cX5_at 10 = .ok (.ifCond .eq 20, 3) := by decide +kernel
theorem dX5_at_13 : decode cX5_at 13 = .ok (.aload_n 0, 1) := by decide +kernel
theorem dX5_at_14 : decode cX5_at 14 = .ok (.iload_n 2, 1) := by decide +kernel
theorem dX5_at_15 : decode cX5_at 15 = .ok (.invokevirtual 49, 3) := by decide +kernel
theorem dX5_at_18 : decode cX5_at 18 = .ok (.ifCond .eq 12, 3) := by decide +kernel
theorem dX5_at_21 : decode cX5_at 21 = .ok (.aload_n 0, 1) := by decide +kernel
theorem dX5_at_22 : decode cX5_at 22 = .ok (.iload_n 1, 1) := by decide +kernel
theorem dX5_at_23 : decode cX5_at 23 = .ok (.iload_n 2, 1) := by decide +kernel
theorem dX5_at_24 : decode cX5_at 24 = .ok (.invokevirtual 53, 3) := by decide +kernel
theorem dX5_at_27 : decode cX5_at 27 = .ok (.goto 4, 3) := by decide +kernel
theorem dX5_at_30 : decode cX5_at 30 = .ok (.iconst (-1), 1) := by decide +kernel
theorem dX5_at_31 : decode cX5_at 31 = .ok (.ireturn, 1) := by decide +kernel
theorem dX5_ring_0 : decode cX5_ring 0 = .ok (.aload_n 0, 1) := by decide +kernel
theorem dX5_ring_1 : decode cX5_ring 1 = .ok (.iconst 0, 1) := by decide +kernel
theorem dX5_ring_2 : decode cX5_ring 2 = .ok (.putfield 42, 3) := by decide +kernel
theorem dX5_ring_5 : decode cX5_ring 5 = .ok (.iconst 1, 1) := by decide +kernel
theorem dX5_ring_6 : decode cX5_ring 6 = .ok (.istore_n 2, 1) := by decide +kernel
theorem dX5_ring_7 : decode cX5_ring 7 = .ok (.iconst 1, 1) := by decide +kernel
theorem dX5_ring_8 : decode cX5_ring 8 = .ok (.istore_n 3, 1) := by decide +kernel
theorem dX5_ring_9 : decode cX5_ring 9 = .ok (.iload_n 3, 1) := by decide +kernel
theorem dX5_ring_10 : decode cX5_ring 10 = .ok (.aload_n 0, 1) := by decide +kernel
theorem dX5_ring_11 : decode cX5_ring 11 = .ok (.getfield 7, 3) := by decide +kernel
theorem dX5_ring_14 : decode cX5_ring 14 = .ok (.if_icmp .ge 13, 3) := by decide +kernel
theorem dX5_ring_17 : decode cX5_ring 17 = .ok (.iload_n 2, 1) := by decide +kernel
theorem dX5_ring_18 : decode cX5_ring 18 = .ok (.iconst 5, 1) := by decide +kernel
theorem dX5_ring_19 : decode cX5_ring 19 = .ok (.imul, 1) := by decide +kernel
theorem dX5_ring_20 : decode cX5_ring 20 = .ok (.istore_n 2, 1) := by decide +kernel
theorem dX5_ring_21 : decode cX5_ring 21 = .ok (.iinc 3 1, 3) := by decide +kernel
theorem dX5_ring_24 : decode cX5_ring 24 = .ok (.goto (-15), 3) := by decide +kernel
theorem dX5_ring_27 : decode cX5_ring 27 = .ok (.iload_n 1, 1) := by decide +kernel
theorem dX5_ring_28 : decode cX5_ring 28 = .ok (.iconst 0, 1) := by decide +kernel
theorem dX5_ring_29 : decode cX5_ring 29 = .ok (.iload_n 2, 1) := by decide +kernel
theorem dX5_ring_30 : decode cX5_ring 30 = .ok (.iconst 1, 1) := by decide +kernel
theorem dX5_ring_31 : decode cX5_ring 31 = .ok (.isub, 1) := by decide +kernel
theorem dX5_ring_32 : decode cX5_ring 32 = .ok (.invokestatic 45, 3) := by decide +kernel
theorem dX5_ring_35 : decode cX5_ring 35 = .ok (.ifCond .ne 5, 3) := by decide +kernel
theorem dX5_ring_38 : decode cX5_ring 38 = .ok (.iconst (-1), 1) := by decide +kernel
theorem dX5_ring_39 : decode cX5_ring 39 = .ok (.ireturn, 1) := by decide +kernel
theorem dX5_ring_40 : decode cX5_ring 40 = .ok (.iload_n 1, 1) := by decide +kernel
theorem dX5_ring_41 : decode cX5_ring 41 = .ok (.istore_n 3, 1) := by decide +kernel
theorem dX5_ring_42 : decode cX5_ring 42 = .ok (.iconst 0, 1) := by decide +kernel
theorem dX5_ring_43 : decode cX5_ring 43 = .ok (.istore 4, 2) := by decide +kernel
theorem dX5_ring_45 : decode cX5_ring 45 = .ok (.iload 4, 2) := by decide +kernel
theorem dX5_ring_47 : decode cX5_ring 47 = .ok (.aload_n 0, 1) := by decide +kernel
theorem dX5_ring_48 : decode cX5_ring 48 = .ok (.getfield 7, 3) := by decide +kernel
theorem dX5_ring_51 : decode cX5_ring 51 = .ok (.if_icmp .ge 73, 3) := by decide +kernel
theorem dX5_ring_54 : decode cX5_ring 54 = .ok (.iconst 0, 1) := by decide +kernel
theorem dX5_ring_55 : decode cX5_ring 55 = .ok (.istore 5, 2) := by decide +kernel
theorem dX5_ring_57 : decode cX5_ring 57 = .ok (.iload 5, 2) := by decide +kernel
theorem dX5_ring_59 : decode cX5_ring 59 = .ok (.aload_n 0, 1) := by decide +kernel
theorem dX5_ring_60 : decode cX5_ring 60 = .ok (.getfield 7, 3) := by decide +kernel
theorem dX5_ring_63 : decode cX5_ring 63 = .ok (.if_icmp .ge 42, 3) := by decide +kernel
theorem dX5_ring_66 : decode cX5_ring 66 = .ok (.aload_n 0, 1) := by decide +kernel
theorem dX5_ring_67 : decode cX5_ring 67 = .ok (.getfield 13, 3) := by decide +kernel
theorem dX5_ring_70 : decode cX5_ring 70 = .ok (.bipush 8, 2) := by decide +kernel
theorem dX5_ring_72 : decode cX5_ring 72 = .ok (.iload 5, 2) := by decide +kernel
theorem dX5_ring_74 : decode cX5_ring 74 = .ok (.imul, 1) := by decide +kernel
theorem dX5_ring_75 : decode cX5_ring 75 = .ok (.iload 5, 2) := by decide +kernel
theorem dX5_ring_77 : decode cX5_ring 77 = .ok (.iload 4, 2) := by decide +kernel
theorem dX5_ring_79 : decode cX5_ring 79 = .ok (.iadd, 1) := by decide +kernel
theorem dX5_ring_80 : decode cX5_ring 80 = .ok (.aload_n 0, 1) := by decide +kernel
theorem dX5_ring_81 : decode cX5_ring 81 = .ok (.getfield 7, 3) := by decide +kernel
theorem dX5_ring_84 : decode cX5_ring 84 = .ok (.irem, 1) := by decide +kernel
theorem dX5_ring_85 : decode cX5_ring 85 = .ok (.iadd, 1) := by decide +kernel
theorem dX5_ring_86 : decode cX5_ring 86 = .ok (.iload 4, 2) := by decide +kernel
theorem dX5_ring_88 : decode cX5_ring 88 = .ok (.ifCond .ne 7, 3) := by decide +kernel
theorem dX5_ring_91 : decode cX5_ring 91 = .ok (.iconst 0, 1) := by decide +kernel
theorem dX5_ring_92 : decode cX5_ring 92 = .ok (.goto 6, 3) := by decide +kernel
theorem dX5_ring_95 : decode cX5_ring 95 = .ok (.iload_n 3, 1) := by decide +kernel
theorem dX5_ring_96 : decode cX5_ring 96 = .ok (.iconst 5, 1) := by decide +kernel
theorem dX5_ring_97 : decode cX5_ring 97 = .ok (.irem, 1) := by decide +kernel
theorem dX5_ring_98 : decode cX5_ring 98 = .ok (.iastore, 1) := by decide +kernel
theorem dX5_ring_99 : decode cX5_ring 99 = .ok (.iinc 5 1, 3) := by decide +kernel
theorem dX5_ring_102 : decode cX5_ring 102 = .ok (.goto (-45), 3) := by decide +kernel
theorem dX5_ring_105 : decode cX5_ring 105 = .ok (.iload_n 3, 1) := by decide +kernel
theorem dX5_ring_106 : decode cX5_ring 106 = .ok (.iload 4, 2) := by decide +kernel
theorem dX5_ring_108 : decode cX5_ring 108 = .ok (.ifCond .ne 7, 3) := by decide +kernel
theorem dX5_ring_111 : decode cX5_ring 111 = .ok (.iconst 1, 1) := by decide +kernel
theorem dX5_ring_112 : decode cX5_ring 112 = .ok (.goto 4, 3) := by decide +kernel
theorem dX5_ring_115 : decode cX5_ring 115 = .ok (.iconst 5, 1) := by decide +kernel
theorem dX5_ring_116 : decode cX5_ring 116 = .ok (.idiv, 1) := by decide +kernel
theorem dX5_ring_117 : decode cX5_ring 117 = .ok (.istore_n 3, 1) := by decide +kernel
theorem dX5_ring_118 : decode cX5_ring 118 = .ok (.iinc 4 1, 3) := by decide +kernel
theorem dX5_ring_121 : decode cX5_ring 121 = .ok (.goto (-76), 3) := by decide +kernel
theorem dX5_ring_124 : decode cX5_ring 124 = .ok (.aload_n 0, 1) := by decide +kernel
theorem dX5_ring_125 : decode cX5_ring 125 = .ok (.invokevirtual 57, 3) := by decide +kernel
theorem dX5_ring_128 : decode cX5_ring 128 = .ok (.ifCond .ne 7, 3) := by decide +kernel
theorem dX5_ring_131 : decode cX5_ring 131 = .ok (.iconst 1, 1) := by decide +kernel
theorem dX5_ring_132 : decode cX5_ring 132 = .ok (.goto 4, 3) := by decide +kernel
theorem dX5_ring_135 : decode cX5_ring 135 = .ok (.iconst 0, 1) := by decide +kernel
theorem dX5_ring_136 : decode cX5_ring 136 = .ok (.ireturn, 1) := by decide +kernel
theorem dX5_rank_0 : decode cX5_rank 0 = .ok (.iconst 0, 1) := by decide +kernel
theorem dX5_rank_1 : decode cX5_rank 1 = .ok (.istore_n 1, 1) := by decide +kernel
theorem dX5_rank_2 : decode cX5_rank 2 = .ok (.iconst 0, 1) := by decide +kernel
theorem dX5_rank_3 : decode cX5_rank 3 = .ok (.istore_n 2, 1) := by decide +kernel
theorem dX5_rank_4 : decode cX5_rank 4 = .ok (.iload_n 2, 1) := by decide +kernel
theorem dX5_rank_5 : decode cX5_rank 5 = .ok (.aload_n 0, 1) := by decide +kernel
theorem dX5_rank_6 : decode cX5_rank 6 = .ok (.getfield 7, 3) := by decide +kernel
theorem dX5_rank_9 : decode cX5_rank 9 = .ok (.if_icmp .ge 46, 3) := by decide +kernel
theorem dX5_rank_12 : decode cX5_rank 12 = .ok (.iconst 0, 1) := by decide +kernel
theorem dX5_rank_13 : decode cX5_rank 13 = .ok (.istore_n 3, 1) := by decide +kernel
theorem dX5_rank_14 : decode cX5_rank 14 = .ok (.iload_n 3, 1) := by decide +kernel
theorem dX5_rank_15 : decode cX5_rank 15 = .ok (.aload_n 0, 1) := by decide +kernel
theorem dX5_rank_16 : decode cX5_rank 16 = .ok (.getfield 7, 3) := by decide +kernel
theorem dX5_rank_19 : decode cX5_rank 19 = .ok (.if_icmp .ge 30, 3) := by decide +kernel
theorem dX5_rank_22 : decode cX5_rank 22 = .ok (.aload_n 0, 1) := by decide +kernel
theorem dX5_rank_23 : decode cX5_rank 23 = .ok (.iload_n 2, 1) := by decide +kernel
theorem dX5_rank_24 : decode cX5_rank 24 = .ok (.iload_n 3, 1) := by decide +kernel
theorem dX5_rank_25 : decode cX5_rank 25 = .ok (.invokevirtual 53, 3) := by decide +kernel
theorem dX5_rank_28 : decode cX5_rank 28 = .ok (.iload_n 1, 1) := by decide +kernel
theorem dX5_rank_29 : decode cX5_rank 29 = .ok (.if_icmp .le 12, 3) := by decide +kernel
theorem dX5_rank_32 : decode cX5_rank 32 = .ok (.aload_n 0, 1) := by decide +kernel
theorem dX5_rank_33 : decode cX5_rank 33 = .ok (.iload_n 2, 1) := by decide +kernel
theorem dX5_rank_34 : decode cX5_rank 34 = .ok (.iload_n 3, 1) := by decide +kernel
theorem dX5_rank_35 : decode cX5_rank 35 = .ok (.invokevirtual 53, 3) := by decide +kernel
theorem dX5_rank_38 : decode cX5_rank 38 = .ok (.goto 4, 3) := by decide +kernel
theorem dX5_rank_41 : decode cX5_rank 41 = .ok (.iload_n 1, 1) := by decide +kernel
theorem dX5_rank_42 : decode cX5_rank 42 = .ok (.istore_n 1, 1) := by decide +kernel
theorem dX5_rank_43 : decode cX5_rank 43 = .ok (.iinc 3 1, 3) := by decide +kernel
theorem dX5_rank_46 : decode cX5_rank 46 = .ok (.goto (-32), 3) := by decide +kernel
theorem dX5_rank_49 : decode cX5_rank 49 = .ok (.iinc 2 1, 3) := by decide +kernel
theorem dX5_rank_52 : decode cX5_rank 52 = .ok (.goto (-48), 3) := by decide +kernel
theorem dX5_rank_55 : decode cX5_rank 55 = .ok (.iload_n 1, 1) := by decide +kernel
theorem dX5_rank_56 : decode cX5_rank 56 = .ok (.iconst 1, 1) := by decide +kernel
theorem dX5_rank_57 : decode cX5_rank 57 = .ok (.iadd, 1) := by decide +kernel
theorem dX5_rank_58 : decode cX5_rank 58 = .ok (.ireturn, 1) := by decide +kernel
theorem dX5_between_0 : decode cX5_between 0 = .ok (.iconst 0, 1) := by decide +kernel
theorem dX5_between_1 : decode cX5_between 1 = .ok (.istore 5, 2) := by decide +kernel
theorem dX5_between_3 : decode cX5_between 3 = .ok (.iconst 0, 1) := by decide +kernel
theorem dX5_between_4 : decode cX5_between 4 = .ok (.istore 6, 2) := by decide +kernel
theorem dX5_between_6 : decode cX5_between 6 = .ok (.iload 6, 2) := by decide +kernel
theorem dX5_between_8 : decode cX5_between 8 = .ok (.aload_n 0, 1) := by decide +kernel
theorem dX5_between_9 : decode cX5_between 9 = .ok (.getfield 7, 3) := by decide +kernel
theorem dX5_between_12 : decode cX5_between 12 = .ok (.if_icmp .ge 42, 3) := by decide +kernel
theorem dX5_between_15 : decode cX5_between 15 = .ok (.iload 5, 2) := by decide +kernel
theorem dX5_between_17 : decode cX5_between 17 = .ok (.aload_n 0, 1) := by decide +kernel
theorem dX5_between_18 : decode cX5_between 18 = .ok (.iload_n 1, 1) := by decide +kernel
theorem dX5_between_19 : decode cX5_between 19 = .ok (.iload 6, 2) := by decide +kernel
theorem dX5_between_21 : decode cX5_between 21 = .ok (.invokevirtual 53, 3) := by decide +kernel
theorem dX5_between_24 : decode cX5_between 24 = .ok (.iload_n 3, 1) := by decide +kernel
theorem dX5_between_25 : decode cX5_between 25 = .ok (.if_icmp .ne 19, 3) := by decide +kernel
theorem dX5_between_28 : decode cX5_between 28 = .ok (.aload_n 0, 1) := by decide +kernel
theorem dX5_between_29 : decode cX5_between 29 = .ok (.iload 6, 2) := by decide +kernel
theorem dX5_between_31 : decode cX5_between 31 = .ok (.iload_n 2, 1) := by decide +kernel
theorem dX5_between_32 : decode cX5_between 32 = .ok (.invokevirtual 53, 3) := by decide +kernel
theorem dX5_between_35 : decode cX5_between 35 = .ok (.iload 4, 2) := by decide +kernel
theorem dX5_between_37 : decode cX5_between 37 = .ok (.if_icmp .ne 7, 3) := by decide +kernel
theorem dX5_between_40 : decode cX5_between 40 = .ok (.iconst 1, 1) := by decide +kernel
theorem dX5_between_41 : decode cX5_between 41 = .ok (.goto 4, 3) := by decide +kernel
theorem dX5_between_44 : decode cX5_between 44 = .ok (.iconst 0, 1) := by decide +kernel
theorem dX5_between_45 : decode cX5_between 45 = .ok (.iadd, 1) := by decide +kernel
theorem dX5_between_46 : decode cX5_between 46 = .ok (.istore 5, 2) := by decide +kernel
theorem dX5_between_48 : decode cX5_between 48 = .ok (.iinc 6 1, 3) := by decide +kernel
theorem dX5_between_51 : decode cX5_between 51 = .ok (.goto (-45), 3) := by decide +kernel
theorem dX5_between_54 : decode cX5_between 54 = .ok (.iload 5, 2) := by decide +kernel
theorem dX5_between_56 : decode cX5_between 56 = .ok (.ireturn, 1) := by decide +kernel
theorem dX5_firsts_0 : decode cX5_firsts 0 = .ok (.aload_n 0, 1) := by decide +kernel
theorem dX5_firsts_1 : decode cX5_firsts 1 = .ok (.invokevirtual 61, 3) := by decide +kernel
theorem dX5_firsts_4 : decode cX5_firsts 4 = .ok (.istore_n 1, 1) := by decide +kernel
theorem dX5_firsts_5 : decode cX5_firsts 5 = .ok (.iconst 0, 1) := by decide +kernel
theorem dX5_firsts_6 : decode cX5_firsts 6 = .ok (.istore_n 2, 1) := by decide +kernel
theorem dX5_firsts_7 : decode cX5_firsts 7 = .ok (.aload_n 0, 1) := by decide +kernel
theorem dX5_firsts_8 : decode cX5_firsts 8 = .ok (.getfield 7, 3) := by decide +kernel
theorem dX5_firsts_11 : decode cX5_firsts 11 = .ok (.iconst 1, 1) := by decide +kernel
theorem dX5_firsts_12 : decode cX5_firsts 12 = .ok (.isub, 1) := by decide +kernel
theorem dX5_firsts_13 : decode cX5_firsts 13 = .ok (.istore_n 3, 1) := by decide +kernel
theorem dX5_firsts_14 : decode cX5_firsts 14 = .ok (.iload_n 3, 1) := by decide +kernel
theorem dX5_firsts_15 : decode cX5_firsts 15 = .ok (.ifCond .lt 67, 3) := by decide +kernel
theorem dX5_firsts_18 : decode cX5_firsts 18 = .ok (.aload_n 0, 1) := by decide +kernel
theorem dX5_firsts_19 : decode cX5_firsts 19 = .ok (.getfield 7, 3) := by decide +kernel
theorem dX5_firsts_22 : decode cX5_firsts 22 = .ok (.iconst 1, 1) := by decide +kernel
theorem dX5_firsts_23 : decode cX5_firsts 23 = .ok (.isub, 1) := by decide +kernel
theorem dX5_firsts_24 : decode cX5_firsts 24 = .ok (.istore 4, 2) := by decide +kernel
theorem dX5_firsts_26 : decode cX5_firsts 26 = .ok (.iload 4, 2) := by decide +kernel
theorem dX5_firsts_28 : decode cX5_firsts 28 = .ok (.ifCond .lt 48, 3) := by decide +kernel
theorem dX5_firsts_31 : decode cX5_firsts 31 = .ok (.aload_n 0, 1) := by decide +kernel
theorem dX5_firsts_32 : decode cX5_firsts 32 = .ok (.getfield 23, 3) := by decide +kernel
theorem dX5_firsts_35 : decode cX5_firsts 35 = .ok (.aload_n 0, 1) := by decide +kernel
theorem dX5_firsts_36 : decode cX5_firsts 36 = .ok (.iload_n 3, 1) := by decide +kernel
theorem dX5_firsts_37 : decode cX5_firsts 37 = .ok (.iload 4, 2) := by decide +kernel
theorem dX5_firsts_39 : decode cX5_firsts 39 = .ok (.invokevirtual 53, 3) := by decide +kernel
theorem dX5_firsts_42 : decode cX5_firsts 42 = .ok (.iload_n 3, 1) := by decide +kernel
theorem dX5_firsts_43 : decode cX5_firsts 43 = .ok (.iastore, 1) := by decide +kernel
theorem dX5_firsts_44 : decode cX5_firsts 44 = .ok (.aload_n 0, 1) := by decide +kernel
theorem dX5_firsts_45 : decode cX5_firsts 45 = .ok (.getfield 26, 3) := by decide +kernel
theorem dX5_firsts_48 : decode cX5_firsts 48 = .ok (.aload_n 0, 1) := by decide +kernel
theorem dX5_firsts_49 : decode cX5_firsts 49 = .ok (.iload_n 3, 1) := by decide +kernel
theorem dX5_firsts_50 : decode cX5_firsts 50 = .ok (.iload 4, 2) := by decide +kernel
theorem dX5_firsts_52 : decode cX5_firsts 52 = .ok (.invokevirtual 53, 3) := by decide +kernel
theorem dX5_firsts_55 : decode cX5_firsts 55 = .ok (.iload 4, 2) := by decide +kernel
theorem dX5_firsts_57 : decode cX5_firsts 57 = .ok (.iastore, 1) := by decide +kernel
theorem dX5_firsts_58 : decode cX5_firsts 58 = .ok (.iload_n 2, 1) := by decide +kernel
theorem dX5_firsts_59 : decode cX5_firsts 59 = .ok (.iconst 1, 1) := by decide +kernel
theorem dX5_firsts_60 : decode cX5_firsts 60 = .ok (.aload_n 0, 1) := by decide +kernel
theorem dX5_firsts_61 : decode cX5_firsts 61 = .ok (.iload_n 3, 1) := by decide +kernel
theorem dX5_firsts_62 : decode cX5_firsts 62 = .ok (.iload 4, 2) := by decide +kernel
theorem dX5_firsts_64 : decode cX5_firsts 64 = .ok (.invokevirtual 53, 3) := by decide +kernel
theorem dX5_firsts_67 : decode cX5_firsts 67 = .ok (.ishl, 1) := by decide +kernel
theorem dX5_firsts_68 : decode cX5_firsts 68 = .ok (.ior, 1) := by decide +kernel
theorem dX5_firsts_69 : decode cX5_firsts 69 = .ok (.istore_n 2, 1) := by decide +kernel
theorem dX5_firsts_70 : decode cX5_firsts 70 = .ok (.iinc 4 (-1), 3) := by decide +kernel
theorem dX5_firsts_73 : decode cX5_firsts 73 = .ok (.goto (-47), 3) := by decide +kernel
theorem dX5_firsts_76 : decode cX5_firsts 76 = .ok (.iinc 3 (-1), 3) := by decide +kernel
theorem dX5_firsts_79 : decode cX5_firsts 79 = .ok (.goto (-65), 3) := by decide +kernel
theorem dX5_firsts_82 : decode cX5_firsts 82 = .ok (.iload_n 2, 1) := by decide +kernel
theorem dX5_firsts_83 : decode cX5_firsts 83 = .ok (.iconst 1, 1) := by decide +kernel
theorem dX5_firsts_84 : decode cX5_firsts 84 = .ok (.iload_n 1, 1) := by decide +kernel
theorem dX5_firsts_85 : decode cX5_firsts 85 = .ok (.ishl, 1) := by decide +kernel
theorem dX5_firsts_86 : decode cX5_firsts 86 = .ok (.iconst 1, 1) := by decide +kernel
theorem dX5_firsts_87 : decode cX5_firsts 87 = .ok (.isub, 1) := by decide +kernel
theorem dX5_firsts_88 : decode cX5_firsts 88 = .ok (.if_icmp .ne 7, 3) := by decide +kernel
theorem dX5_firsts_91 : decode cX5_firsts 91 = .ok (.iconst 1, 1) := by decide +kernel
theorem dX5_firsts_92 : decode cX5_firsts 92 = .ok (.goto 4, 3) := by decide +kernel
theorem dX5_firsts_95 : decode cX5_firsts 95 = .ok (.iconst 0, 1) := by decide +kernel
theorem dX5_firsts_96 : decode cX5_firsts 96 = .ok (.ireturn, 1) := by decide +kernel
theorem dX5_failsBy_0 : decode cX5_failsBy 0 = .ok (.iconst 0, 1) := by decide +kernel
theorem dX5_failsBy_1 : decode cX5_failsBy 1 = .ok (.istore_n 1, 1) := by decide +kernel
theorem dX5_failsBy_2 : decode cX5_failsBy 2 = .ok (.iload_n 1, 1) := by decide +kernel
theorem dX5_failsBy_3 : decode cX5_failsBy 3 = .ok (.aload_n 0, 1) := by decide +kernel
theorem dX5_failsBy_4 : decode cX5_failsBy 4 = .ok (.getfield 7, 3) := by decide +kernel
theorem dX5_failsBy_7 : decode cX5_failsBy 7 = .ok (.if_icmp .ge 62, 3) := by decide +kernel
theorem dX5_failsBy_10 : decode cX5_failsBy 10 = .ok (.iconst 0, 1) := by decide +kernel
theorem dX5_failsBy_11 : decode cX5_failsBy 11 = .ok (.istore_n 2, 1) := by decide +kernel
theorem dX5_failsBy_12 : decode cX5_failsBy 12 = .ok (.iload_n 2, 1) := by decide +kernel
theorem dX5_failsBy_13 : decode cX5_failsBy 13 = .ok (.aload_n 0, 1) := by decide +kernel
theorem dX5_failsBy_14 : decode cX5_failsBy 14 = .ok (.getfield 7, 3) := by decide +kernel
theorem dX5_failsBy_17 : decode cX5_failsBy 17 = .ok (.if_icmp .ge 46, 3) := by decide +kernel
theorem dX5_failsBy_20 : decode cX5_failsBy 20 = .ok (.iload_n 1, 1) := by decide +kernel
theorem dX5_failsBy_21 : decode cX5_failsBy 21 = .ok (.iload_n 2, 1) := by decide +kernel
theorem dX5_failsBy_22 : decode cX5_failsBy 22 = .ok (.if_icmp .ne 7, 3) := by decide +kernel
theorem dX5_failsBy_25 : decode cX5_failsBy 25 = .ok (.iconst 1, 1) := by decide +kernel
theorem dX5_failsBy_26 : decode cX5_failsBy 26 = .ok (.goto 4, 3) := by decide +kernel
theorem dX5_failsBy_29 : decode cX5_failsBy 29 = .ok (.iconst 0, 1) := by decide +kernel
theorem dX5_failsBy_30 : decode cX5_failsBy 30 = .ok (.aload_n 0, 1) := by decide +kernel
theorem dX5_failsBy_31 : decode cX5_failsBy 31 = .ok (.iload_n 1, 1) := by decide +kernel
theorem dX5_failsBy_32 : decode cX5_failsBy 32 = .ok (.iload_n 2, 1) := by decide +kernel
theorem dX5_failsBy_33 : decode cX5_failsBy 33 = .ok (.invokevirtual 53, 3) := by decide +kernel
theorem dX5_failsBy_36 : decode cX5_failsBy 36 = .ok (.ifCond .ne 7, 3) := by decide +kernel
theorem dX5_failsBy_39 : decode cX5_failsBy 39 = .ok (.iconst 1, 1) := by decide +kernel
theorem dX5_failsBy_40 : decode cX5_failsBy 40 = .ok (.goto 4, 3) := by decide +kernel
theorem dX5_failsBy_43 : decode cX5_failsBy 43 = .ok (.iconst 0, 1) := by decide +kernel
theorem dX5_failsBy_44 : decode cX5_failsBy 44 = .ok (.if_icmp .eq 13, 3) := by decide +kernel
theorem dX5_failsBy_47 : decode cX5_failsBy 47 = .ok (.bipush 100, 2) := by decide +kernel
theorem dX5_failsBy_49 : decode cX5_failsBy 49 = .ok (.bipush 10, 2) := by decide +kernel
theorem dX5_failsBy_51 : decode cX5_failsBy 51 = .ok (.iload_n 1, 1) := by decide +kernel
theorem dX5_failsBy_52 : decode cX5_failsBy 52 = .ok (.imul, 1) := by decide +kernel
theorem dX5_failsBy_53 : decode cX5_failsBy 53 = .ok (.iadd, 1) := by decide +kernel
theorem dX5_failsBy_54 : decode cX5_failsBy 54 = .ok (.iload_n 2, 1) := by decide +kernel
theorem dX5_failsBy_55 : decode cX5_failsBy 55 = .ok (.iadd, 1) := by decide +kernel
theorem dX5_failsBy_56 : decode cX5_failsBy 56 = .ok (.ireturn, 1) := by decide +kernel
theorem dX5_failsBy_57 : decode cX5_failsBy 57 = .ok (.iinc 2 1, 3) := by decide +kernel
theorem dX5_failsBy_60 : decode cX5_failsBy 60 = .ok (.goto (-48), 3) := by decide +kernel
theorem dX5_failsBy_63 : decode cX5_failsBy 63 = .ok (.iinc 1 1, 3) := by decide +kernel
theorem dX5_failsBy_66 : decode cX5_failsBy 66 = .ok (.goto (-64), 3) := by decide +kernel
theorem dX5_failsBy_69 : decode cX5_failsBy 69 = .ok (.aload_n 0, 1) := by decide +kernel
theorem dX5_failsBy_70 : decode cX5_failsBy 70 = .ok (.invokevirtual 64, 3) := by decide +kernel
theorem dX5_failsBy_73 : decode cX5_failsBy 73 = .ok (.ifCond .ne 7, 3) := by decide +kernel
theorem dX5_failsBy_76 : decode cX5_failsBy 76 = .ok (.sipush 200, 3) := by decide +kernel
theorem dX5_failsBy_79 : decode cX5_failsBy 79 = .ok (.ireturn, 1) := by decide +kernel
theorem dX5_failsBy_80 : decode cX5_failsBy 80 = .ok (.iconst 0, 1) := by decide +kernel
theorem dX5_failsBy_81 : decode cX5_failsBy 81 = .ok (.istore_n 1, 1) := by decide +kernel
theorem dX5_failsBy_82 : decode cX5_failsBy 82 = .ok (.iload_n 1, 1) := by decide +kernel
theorem dX5_failsBy_83 : decode cX5_failsBy 83 = .ok (.aload_n 0, 1) := by decide +kernel
theorem dX5_failsBy_84 : decode cX5_failsBy 84 = .ok (.getfield 7, 3) := by decide +kernel
theorem dX5_failsBy_87 : decode cX5_failsBy 87 = .ok (.if_icmp .ge 68, 3) := by decide +kernel
theorem dX5_failsBy_90 : decode cX5_failsBy 90 = .ok (.iconst 0, 1) := by decide +kernel
theorem dX5_failsBy_91 : decode cX5_failsBy 91 = .ok (.istore_n 2, 1) := by decide +kernel
theorem dX5_failsBy_92 : decode cX5_failsBy 92 = .ok (.iload_n 2, 1) := by decide +kernel
theorem dX5_failsBy_93 : decode cX5_failsBy 93 = .ok (.aload_n 0, 1) := by decide +kernel
theorem dX5_failsBy_94 : decode cX5_failsBy 94 = .ok (.getfield 7, 3) := by decide +kernel
theorem dX5_failsBy_97 : decode cX5_failsBy 97 = .ok (.if_icmp .ge 52, 3) := by decide +kernel
theorem dX5_failsBy_100 : decode cX5_failsBy 100 = .ok (.aload_n 0, 1) := by decide +kernel
theorem dX5_failsBy_101 : decode cX5_failsBy 101 = .ok (.iload_n 1, 1) := by decide +kernel
theorem dX5_failsBy_102 : decode cX5_failsBy 102 = .ok (.iload_n 2, 1) := by decide +kernel
theorem dX5_failsBy_103 : decode cX5_failsBy 103 = .ok (.invokevirtual 53, 3) := by decide +kernel
theorem dX5_failsBy_106 : decode cX5_failsBy 106 = .ok (.istore_n 3, 1) := by decide +kernel
theorem dX5_failsBy_107 : decode cX5_failsBy 107 = .ok (.aload_n 0, 1) := by decide +kernel
theorem dX5_failsBy_108 : decode cX5_failsBy 108 = .ok (.iload_n 2, 1) := by decide +kernel
theorem dX5_failsBy_109 : decode cX5_failsBy 109 = .ok (.iload_n 1, 1) := by decide +kernel
theorem dX5_failsBy_110 : decode cX5_failsBy 110 = .ok (.invokevirtual 53, 3) := by decide +kernel
theorem dX5_failsBy_113 : decode cX5_failsBy 113 = .ok (.aload_n 0, 1) := by decide +kernel
theorem dX5_failsBy_114 : decode cX5_failsBy 114 = .ok (.aload_n 0, 1) := by decide +kernel
theorem dX5_failsBy_115 : decode cX5_failsBy 115 = .ok (.getfield 26, 3) := by decide +kernel
theorem dX5_failsBy_118 : decode cX5_failsBy 118 = .ok (.iload_n 3, 1) := by decide +kernel
theorem dX5_failsBy_119 : decode cX5_failsBy 119 = .ok (.iaload, 1) := by decide +kernel
theorem dX5_failsBy_120 : decode cX5_failsBy 120 = .ok (.aload_n 0, 1) := by decide +kernel
theorem dX5_failsBy_121 : decode cX5_failsBy 121 = .ok (.getfield 23, 3) := by decide +kernel
theorem dX5_failsBy_124 : decode cX5_failsBy 124 = .ok (.iload_n 3, 1) := by decide +kernel
theorem dX5_failsBy_125 : decode cX5_failsBy 125 = .ok (.iaload, 1) := by decide +kernel
theorem dX5_failsBy_126 : decode cX5_failsBy 126 = .ok (.invokevirtual 53, 3) := by decide +kernel
theorem dX5_failsBy_129 : decode cX5_failsBy 129 = .ok (.if_icmp .eq 14, 3) := by decide +kernel
theorem dX5_failsBy_132 : decode cX5_failsBy 132 = .ok (.sipush 300, 3) := by decide +kernel
theorem dX5_failsBy_135 : decode cX5_failsBy 135 = .ok (.bipush 10, 2) := by decide +kernel
theorem dX5_failsBy_137 : decode cX5_failsBy 137 = .ok (.iload_n 1, 1) := by decide +kernel
theorem dX5_failsBy_138 : decode cX5_failsBy 138 = .ok (.imul, 1) := by decide +kernel
theorem dX5_failsBy_139 : decode cX5_failsBy 139 = .ok (.iadd, 1) := by decide +kernel
theorem dX5_failsBy_140 : decode cX5_failsBy 140 = .ok (.iload_n 2, 1) := by decide +kernel
theorem dX5_failsBy_141 : decode cX5_failsBy 141 = .ok (.iadd, 1) := by decide +kernel
theorem dX5_failsBy_142 : decode cX5_failsBy 142 = .ok (.ireturn, 1) := by decide +kernel
theorem dX5_failsBy_143 : decode cX5_failsBy 143 = .ok (.iinc 2 1, 3) := by decide +kernel
theorem dX5_failsBy_146 : decode cX5_failsBy 146 = .ok (.goto (-54), 3) := by decide +kernel
theorem dX5_failsBy_149 : decode cX5_failsBy 149 = .ok (.iinc 1 1, 3) := by decide +kernel
theorem dX5_failsBy_152 : decode cX5_failsBy 152 = .ok (.goto (-70), 3) := by decide +kernel
theorem dX5_failsBy_155 : decode cX5_failsBy 155 = .ok (.aload_n 0, 1) := by decide +kernel
theorem dX5_failsBy_156 : decode cX5_failsBy 156 = .ok (.invokevirtual 61, 3) := by decide +kernel
theorem dX5_failsBy_159 : decode cX5_failsBy 159 = .ok (.istore_n 1, 1) := by decide +kernel
theorem dX5_failsBy_160 : decode cX5_failsBy 160 = .ok (.iconst 0, 1) := by decide +kernel
theorem dX5_failsBy_161 : decode cX5_failsBy 161 = .ok (.istore_n 2, 1) := by decide +kernel
theorem dX5_failsBy_162 : decode cX5_failsBy 162 = .ok (.iload_n 2, 1) := by decide +kernel
theorem dX5_failsBy_163 : decode cX5_failsBy 163 = .ok (.aload_n 0, 1) := by decide +kernel
theorem dX5_failsBy_164 : decode cX5_failsBy 164 = .ok (.getfield 7, 3) := by decide +kernel
theorem dX5_failsBy_167 : decode cX5_failsBy 167 = .ok (.if_icmp .ge 109, 3) := by decide +kernel
theorem dX5_failsBy_170 : decode cX5_failsBy 170 = .ok (.iconst 0, 1) := by decide +kernel
theorem dX5_failsBy_171 : decode cX5_failsBy 171 = .ok (.istore_n 3, 1) := by decide +kernel
theorem dX5_failsBy_172 : decode cX5_failsBy 172 = .ok (.iload_n 3, 1) := by decide +kernel
theorem dX5_failsBy_173 : decode cX5_failsBy 173 = .ok (.aload_n 0, 1) := by decide +kernel
theorem dX5_failsBy_174 : decode cX5_failsBy 174 = .ok (.getfield 7, 3) := by decide +kernel
theorem dX5_failsBy_177 : decode cX5_failsBy 177 = .ok (.if_icmp .ge 93, 3) := by decide +kernel
theorem dX5_failsBy_180 : decode cX5_failsBy 180 = .ok (.aload_n 0, 1) := by decide +kernel
theorem dX5_failsBy_181 : decode cX5_failsBy 181 = .ok (.iload_n 2, 1) := by decide +kernel
theorem dX5_failsBy_182 : decode cX5_failsBy 182 = .ok (.iload_n 3, 1) := by decide +kernel
theorem dX5_failsBy_183 : decode cX5_failsBy 183 = .ok (.invokevirtual 53, 3) := by decide +kernel
theorem dX5_failsBy_186 : decode cX5_failsBy 186 = .ok (.istore 4, 2) := by decide +kernel
theorem dX5_failsBy_188 : decode cX5_failsBy 188 = .ok (.iconst 0, 1) := by decide +kernel
theorem dX5_failsBy_189 : decode cX5_failsBy 189 = .ok (.istore 5, 2) := by decide +kernel
theorem dX5_failsBy_191 : decode cX5_failsBy 191 = .ok (.iload 5, 2) := by decide +kernel
theorem dX5_failsBy_193 : decode cX5_failsBy 193 = .ok (.iload_n 1, 1) := by decide +kernel
theorem dX5_failsBy_194 : decode cX5_failsBy 194 = .ok (.if_icmp .ge 70, 3) := by decide +kernel
theorem dX5_failsBy_197 : decode cX5_failsBy 197 = .ok (.iconst 0, 1) := by decide +kernel
theorem dX5_failsBy_198 : decode cX5_failsBy 198 = .ok (.istore 6, 2) := by decide +kernel
theorem dX5_failsBy_200 : decode cX5_failsBy 200 = .ok (.iload 6, 2) := by decide +kernel
theorem dX5_failsBy_202 : decode cX5_failsBy 202 = .ok (.iload_n 1, 1) := by decide +kernel
theorem dX5_failsBy_203 : decode cX5_failsBy 203 = .ok (.if_icmp .ge 55, 3) := by decide +kernel
theorem dX5_failsBy_206 : decode cX5_failsBy 206 = .ok (.aload_n 0, 1) := by decide +kernel
theorem dX5_failsBy_207 : decode cX5_failsBy 207 = .ok (.iload_n 2, 1) := by decide +kernel
theorem dX5_failsBy_208 : decode cX5_failsBy 208 = .ok (.iload_n 3, 1) := by decide +kernel
theorem dX5_failsBy_209 : decode cX5_failsBy 209 = .ok (.iload 5, 2) := by decide +kernel
theorem dX5_failsBy_211 : decode cX5_failsBy 211 = .ok (.iload 6, 2) := by decide +kernel
theorem dX5_failsBy_213 : decode cX5_failsBy 213 = .ok (.invokevirtual 68, 3) := by decide +kernel
theorem dX5_failsBy_216 : decode cX5_failsBy 216 = .ok (.aload_n 0, 1) := by decide +kernel
theorem dX5_failsBy_217 : decode cX5_failsBy 217 = .ok (.aload_n 0, 1) := by decide +kernel
theorem dX5_failsBy_218 : decode cX5_failsBy 218 = .ok (.getfield 23, 3) := by decide +kernel
theorem dX5_failsBy_221 : decode cX5_failsBy 221 = .ok (.iload 4, 2) := by decide +kernel
theorem dX5_failsBy_223 : decode cX5_failsBy 223 = .ok (.iaload, 1) := by decide +kernel
theorem dX5_failsBy_224 : decode cX5_failsBy 224 = .ok (.aload_n 0, 1) := by decide +kernel
theorem dX5_failsBy_225 : decode cX5_failsBy 225 = .ok (.getfield 26, 3) := by decide +kernel
theorem dX5_failsBy_228 : decode cX5_failsBy 228 = .ok (.iload 4, 2) := by decide +kernel
theorem dX5_failsBy_230 : decode cX5_failsBy 230 = .ok (.iaload, 1) := by decide +kernel
theorem dX5_failsBy_231 : decode cX5_failsBy 231 = .ok (.iload 5, 2) := by decide +kernel
theorem dX5_failsBy_233 : decode cX5_failsBy 233 = .ok (.iload 6, 2) := by decide +kernel
theorem dX5_failsBy_235 : decode cX5_failsBy 235 = .ok (.invokevirtual 68, 3) := by decide +kernel
theorem dX5_failsBy_238 : decode cX5_failsBy 238 = .ok (.if_icmp .eq 14, 3) := by decide +kernel
theorem dX5_failsBy_241 : decode cX5_failsBy 241 = .ok (.sipush 400, 3) := by decide +kernel
theorem dX5_failsBy_244 : decode cX5_failsBy 244 = .ok (.bipush 10, 2) := by decide +kernel
theorem dX5_failsBy_246 : decode cX5_failsBy 246 = .ok (.iload_n 2, 1) := by decide +kernel
theorem dX5_failsBy_247 : decode cX5_failsBy 247 = .ok (.imul, 1) := by decide +kernel
theorem dX5_failsBy_248 : decode cX5_failsBy 248 = .ok (.iadd, 1) := by decide +kernel
theorem dX5_failsBy_249 : decode cX5_failsBy 249 = .ok (.iload_n 3, 1) := by decide +kernel
theorem dX5_failsBy_250 : decode cX5_failsBy 250 = .ok (.iadd, 1) := by decide +kernel
theorem dX5_failsBy_251 : decode cX5_failsBy 251 = .ok (.ireturn, 1) := by decide +kernel
theorem dX5_failsBy_252 : decode cX5_failsBy 252 = .ok (.iinc 6 1, 3) := by decide +kernel
theorem dX5_failsBy_255 : decode cX5_failsBy 255 = .ok (.goto (-55), 3) := by decide +kernel
theorem dX5_failsBy_258 : decode cX5_failsBy 258 = .ok (.iinc 5 1, 3) := by decide +kernel
theorem dX5_failsBy_261 : decode cX5_failsBy 261 = .ok (.goto (-70), 3) := by decide +kernel
theorem dX5_failsBy_264 : decode cX5_failsBy 264 = .ok (.iinc 3 1, 3) := by decide +kernel
theorem dX5_failsBy_267 : decode cX5_failsBy 267 = .ok (.goto (-95), 3) := by decide +kernel
theorem dX5_failsBy_270 : decode cX5_failsBy 270 = .ok (.iinc 2 1, 3) := by decide +kernel
theorem dX5_failsBy_273 : decode cX5_failsBy 273 = .ok (.goto (-111), 3) := by decide +kernel
theorem dX5_failsBy_276 : decode cX5_failsBy 276 = .ok (.iconst 0, 1) := by decide +kernel
theorem dX5_failsBy_277 : decode cX5_failsBy 277 = .ok (.ireturn, 1) := by decide +kernel
theorem dX5_fails_0 : decode cX5_fails 0 = .ok (.aload_n 0, 1) := by decide +kernel
theorem dX5_fails_1 : decode cX5_fails 1 = .ok (.iconst 0, 1) := by decide +kernel
theorem dX5_fails_2 : decode cX5_fails 2 = .ok (.putfield 42, 3) := by decide +kernel
theorem dX5_fails_5 : decode cX5_fails 5 = .ok (.aload_n 0, 1) := by decide +kernel
theorem dX5_fails_6 : decode cX5_fails 6 = .ok (.invokevirtual 57, 3) := by decide +kernel
theorem dX5_fails_9 : decode cX5_fails 9 = .ok (.ireturn, 1) := by decide +kernel
theorem dX5_isColour_0 : decode cX5_isColour 0 = .ok (.iload_n 1, 1) := by decide +kernel
theorem dX5_isColour_1 : decode cX5_isColour 1 = .ok (.iconst 0, 1) := by decide +kernel
theorem dX5_isColour_2 : decode cX5_isColour 2 = .ok (.aload_n 0, 1) := by decide +kernel
theorem dX5_isColour_3 : decode cX5_isColour 3 = .ok (.invokevirtual 61, 3) := by decide +kernel
theorem dX5_isColour_6 : decode cX5_isColour 6 = .ok (.iconst 1, 1) := by decide +kernel
theorem dX5_isColour_7 : decode cX5_isColour 7 = .ok (.isub, 1) := by decide +kernel
theorem dX5_isColour_8 : decode cX5_isColour 8 = .ok (.invokestatic 45, 3) := by decide +kernel
theorem dX5_isColour_11 : decode cX5_isColour 11 = .ok (.ireturn, 1) := by decide +kernel
theorem dX5_isEven_0 : decode cX5_isEven 0 = .ok (.aload_n 0, 1) := by decide +kernel
theorem dX5_isEven_1 : decode cX5_isEven 1 = .ok (.invokevirtual 57, 3) := by decide +kernel
theorem dX5_isEven_4 : decode cX5_isEven 4 = .ok (.ifCond .ne 7, 3) := by decide +kernel
theorem dX5_isEven_7 : decode cX5_isEven 7 = .ok (.iconst 1, 1) := by decide +kernel
theorem dX5_isEven_8 : decode cX5_isEven 8 = .ok (.goto 4, 3) := by decide +kernel
theorem dX5_isEven_11 : decode cX5_isEven 11 = .ok (.iconst 0, 1) := by decide +kernel
theorem dX5_isEven_12 : decode cX5_isEven 12 = .ok (.ireturn, 1) := by decide +kernel
theorem dX5_numberOf_0 : decode cX5_numberOf 0 = .ok (.aload_n 0, 1) := by decide +kernel
theorem dX5_numberOf_1 : decode cX5_numberOf 1 = .ok (.aload_n 0, 1) := by decide +kernel
theorem dX5_numberOf_2 : decode cX5_numberOf 2 = .ok (.getfield 23, 3) := by decide +kernel
theorem dX5_numberOf_5 : decode cX5_numberOf 5 = .ok (.iload_n 3, 1) := by decide +kernel
theorem dX5_numberOf_6 : decode cX5_numberOf 6 = .ok (.iaload, 1) := by decide +kernel
theorem dX5_numberOf_7 : decode cX5_numberOf 7 = .ok (.aload_n 0, 1) := by decide +kernel
theorem dX5_numberOf_8 : decode cX5_numberOf 8 = .ok (.getfield 26, 3) := by decide +kernel
theorem dX5_numberOf_11 : decode cX5_numberOf 11 = .ok (.iload_n 3, 1) := by decide +kernel
theorem dX5_numberOf_12 : decode cX5_numberOf 12 = .ok (.iaload, 1) := by decide +kernel
theorem dX5_numberOf_13 : decode cX5_numberOf 13 = .ok (.iload_n 1, 1) := by decide +kernel
theorem dX5_numberOf_14 : decode cX5_numberOf 14 = .ok (.iload_n 2, 1) := by decide +kernel
theorem dX5_numberOf_15 : decode cX5_numberOf 15 = .ok (.invokevirtual 68, 3) := by decide +kernel
theorem dX5_numberOf_18 : decode cX5_numberOf 18 = .ok (.ireturn, 1) := by decide +kernel
theorem dX5_number_0 : decode cX5_number 0 = .ok (.aload_n 0, 1) := by decide +kernel
theorem dX5_number_1 : decode cX5_number 1 = .ok (.iconst 0, 1) := by decide +kernel
theorem dX5_number_2 : decode cX5_number 2 = .ok (.putfield 42, 3) := by decide +kernel
theorem dX5_number_5 : decode cX5_number 5 = .ok (.aload_n 0, 1) := by decide +kernel
theorem dX5_number_6 : decode cX5_number 6 = .ok (.iload_n 1, 1) := by decide +kernel
theorem dX5_number_7 : decode cX5_number 7 = .ok (.invokevirtual 72, 3) := by decide +kernel
theorem dX5_number_10 : decode cX5_number 10 = .ok (.ifCond .eq 19, 3) := by decide +kernel
theorem dX5_number_13 : decode cX5_number 13 = .ok (.aload_n 0, 1) := by decide +kernel
theorem dX5_number_14 : decode cX5_number 14 = .ok (.iload_n 2, 1) := by decide +kernel
theorem dX5_number_15 : decode cX5_number 15 = .ok (.invokevirtual 72, 3) := by decide +kernel
theorem dX5_number_18 : decode cX5_number 18 = .ok (.ifCond .eq 11, 3) := by decide +kernel
theorem dX5_number_21 : decode cX5_number 21 = .ok (.aload_n 0, 1) := by decide +kernel
theorem dX5_number_22 : decode cX5_number 22 = .ok (.iload_n 3, 1) := by decide +kernel
theorem dX5_number_23 : decode cX5_number 23 = .ok (.invokevirtual 72, 3) := by decide +kernel
theorem dX5_number_26 : decode cX5_number 26 = .ok (.ifCond .ne 5, 3) := by decide +kernel
theorem dX5_number_29 : decode cX5_number 29 = .ok (.iconst (-1), 1) := by decide +kernel
theorem dX5_number_30 : decode cX5_number 30 = .ok (.ireturn, 1) := by decide +kernel
theorem dX5_number_31 : decode cX5_number 31 = .ok (.aload_n 0, 1) := by decide +kernel
theorem dX5_number_32 : decode cX5_number 32 = .ok (.invokevirtual 75, 3) := by decide +kernel
theorem dX5_number_35 : decode cX5_number 35 = .ok (.ifCond .eq 13, 3) := by decide +kernel
theorem dX5_number_38 : decode cX5_number 38 = .ok (.aload_n 0, 1) := by decide +kernel
theorem dX5_number_39 : decode cX5_number 39 = .ok (.iload_n 1, 1) := by decide +kernel
theorem dX5_number_40 : decode cX5_number 40 = .ok (.iload_n 2, 1) := by decide +kernel
theorem dX5_number_41 : decode cX5_number 41 = .ok (.iload_n 3, 1) := by decide +kernel
theorem dX5_number_42 : decode cX5_number 42 = .ok (.invokevirtual 78, 3) := by decide +kernel
theorem dX5_number_45 : decode cX5_number 45 = .ok (.goto 5, 3) := by decide +kernel
theorem dX5_number_48 : decode cX5_number 48 = .ok (.bipush (-2), 2) := by decide +kernel
theorem dX5_number_50 : decode cX5_number 50 = .ok (.ireturn, 1) := by decide +kernel
theorem dX5_degree_0 : decode cX5_degree 0 = .ok (.iconst 0, 1) := by decide +kernel
theorem dX5_degree_1 : decode cX5_degree 1 = .ok (.istore_n 2, 1) := by decide +kernel
theorem dX5_degree_2 : decode cX5_degree 2 = .ok (.iconst 0, 1) := by decide +kernel
theorem dX5_degree_3 : decode cX5_degree 3 = .ok (.istore_n 3, 1) := by decide +kernel
theorem dX5_degree_4 : decode cX5_degree 4 = .ok (.iload_n 3, 1) := by decide +kernel
theorem dX5_degree_5 : decode cX5_degree 5 = .ok (.aload_n 0, 1) := by decide +kernel
theorem dX5_degree_6 : decode cX5_degree 6 = .ok (.getfield 7, 3) := by decide +kernel
theorem dX5_degree_9 : decode cX5_degree 9 = .ok (.if_icmp .ge 27, 3) := by decide +kernel
theorem dX5_degree_12 : decode cX5_degree 12 = .ok (.iload_n 2, 1) := by decide +kernel
theorem dX5_degree_13 : decode cX5_degree 13 = .ok (.aload_n 0, 1) := by decide +kernel
theorem dX5_degree_14 : decode cX5_degree 14 = .ok (.iconst 0, 1) := by decide +kernel
theorem dX5_degree_15 : decode cX5_degree 15 = .ok (.iload_n 3, 1) := by decide +kernel
theorem dX5_degree_16 : decode cX5_degree 16 = .ok (.invokevirtual 53, 3) := by decide +kernel
theorem dX5_degree_19 : decode cX5_degree 19 = .ok (.iload_n 1, 1) := by decide +kernel
theorem dX5_degree_20 : decode cX5_degree 20 = .ok (.if_icmp .ne 7, 3) := by decide +kernel
theorem dX5_degree_23 : decode cX5_degree 23 = .ok (.iconst 1, 1) := by decide +kernel
theorem dX5_degree_24 : decode cX5_degree 24 = .ok (.goto 4, 3) := by decide +kernel
theorem dX5_degree_27 : decode cX5_degree 27 = .ok (.iconst 0, 1) := by decide +kernel
theorem dX5_degree_28 : decode cX5_degree 28 = .ok (.iadd, 1) := by decide +kernel
theorem dX5_degree_29 : decode cX5_degree 29 = .ok (.istore_n 2, 1) := by decide +kernel
theorem dX5_degree_30 : decode cX5_degree 30 = .ok (.iinc 3 1, 3) := by decide +kernel
theorem dX5_degree_33 : decode cX5_degree 33 = .ok (.goto (-29), 3) := by decide +kernel
theorem dX5_degree_36 : decode cX5_degree 36 = .ok (.iload_n 2, 1) := by decide +kernel
theorem dX5_degree_37 : decode cX5_degree 37 = .ok (.ireturn, 1) := by decide +kernel
theorem dX5_of_0 : decode cX5_of 0 = .ok (.aload_n 0, 1) := by decide +kernel
theorem dX5_of_1 : decode cX5_of 1 = .ok (.iconst 0, 1) := by decide +kernel
theorem dX5_of_2 : decode cX5_of 2 = .ok (.putfield 42, 3) := by decide +kernel
theorem dX5_of_5 : decode cX5_of 5 = .ok (.aload_n 0, 1) := by decide +kernel
theorem dX5_of_6 : decode cX5_of 6 = .ok (.iload_n 1, 1) := by decide +kernel
theorem dX5_of_7 : decode cX5_of 7 = .ok (.invokevirtual 72, 3) := by decide +kernel
theorem dX5_of_10 : decode cX5_of 10 = .ok (.ifCond .eq 12, 3) := by decide +kernel
theorem dX5_of_13 : decode cX5_of 13 = .ok (.iload_n 2, 1) := by decide +kernel
theorem dX5_of_14 : decode cX5_of 14 = .ok (.iconst 0, 1) := by decide +kernel
theorem dX5_of_15 : decode cX5_of 15 = .ok (.iconst 1, 1) := by decide +kernel
theorem dX5_of_16 : decode cX5_of 16 = .ok (.invokestatic 45, 3) := by decide +kernel
theorem dX5_of_19 : decode cX5_of 19 = .ok (.ifCond .ne 5, 3) := by decide +kernel
theorem dX5_of_22 : decode cX5_of 22 = .ok (.iconst (-1), 1) := by decide +kernel
theorem dX5_of_23 : decode cX5_of 23 = .ok (.ireturn, 1) := by decide +kernel
theorem dX5_of_24 : decode cX5_of 24 = .ok (.aload_n 0, 1) := by decide +kernel
theorem dX5_of_25 : decode cX5_of 25 = .ok (.invokevirtual 75, 3) := by decide +kernel
theorem dX5_of_28 : decode cX5_of 28 = .ok (.ifCond .ne 6, 3) := by decide +kernel
theorem dX5_of_31 : decode cX5_of 31 = .ok (.bipush (-2), 2) := by decide +kernel
theorem dX5_of_33 : decode cX5_of 33 = .ok (.ireturn, 1) := by decide +kernel
theorem dX5_of_34 : decode cX5_of 34 = .ok (.iload_n 2, 1) := by decide +kernel
theorem dX5_of_35 : decode cX5_of 35 = .ok (.ifCond .ne 22, 3) := by decide +kernel
theorem dX5_of_38 : decode cX5_of 38 = .ok (.aload_n 0, 1) := by decide +kernel
theorem dX5_of_39 : decode cX5_of 39 = .ok (.aload_n 0, 1) := by decide +kernel
theorem dX5_of_40 : decode cX5_of 40 = .ok (.getfield 26, 3) := by decide +kernel
theorem dX5_of_43 : decode cX5_of 43 = .ok (.iload_n 1, 1) := by decide +kernel
theorem dX5_of_44 : decode cX5_of 44 = .ok (.iaload, 1) := by decide +kernel
theorem dX5_of_45 : decode cX5_of 45 = .ok (.aload_n 0, 1) := by decide +kernel
theorem dX5_of_46 : decode cX5_of 46 = .ok (.getfield 23, 3) := by decide +kernel
theorem dX5_of_49 : decode cX5_of 49 = .ok (.iload_n 1, 1) := by decide +kernel
theorem dX5_of_50 : decode cX5_of 50 = .ok (.iaload, 1) := by decide +kernel
theorem dX5_of_51 : decode cX5_of 51 = .ok (.invokevirtual 53, 3) := by decide +kernel
theorem dX5_of_54 : decode cX5_of 54 = .ok (.goto 8, 3) := by decide +kernel
theorem dX5_of_57 : decode cX5_of 57 = .ok (.aload_n 0, 1) := by decide +kernel
theorem dX5_of_58 : decode cX5_of 58 = .ok (.iload_n 1, 1) := by decide +kernel
theorem dX5_of_59 : decode cX5_of 59 = .ok (.invokevirtual 82, 3) := by decide +kernel
theorem dX5_of_62 : decode cX5_of 62 = .ok (.ireturn, 1) := by decide +kernel
theorem dX5_turns_0 : decode cX5_turns 0 = .ok (.aload_n 0, 1) := by decide +kernel
theorem dX5_turns_1 : decode cX5_turns 1 = .ok (.iconst 0, 1) := by decide +kernel
theorem dX5_turns_2 : decode cX5_turns 2 = .ok (.putfield 42, 3) := by decide +kernel
theorem dX5_turns_5 : decode cX5_turns 5 = .ok (.aload_n 0, 1) := by decide +kernel
theorem dX5_turns_6 : decode cX5_turns 6 = .ok (.invokevirtual 75, 3) := by decide +kernel
theorem dX5_turns_9 : decode cX5_turns 9 = .ok (.ifCond .ne 6, 3) := by decide +kernel
theorem dX5_turns_12 : decode cX5_turns 12 = .ok (.bipush (-2), 2) := by decide +kernel
theorem dX5_turns_14 : decode cX5_turns 14 = .ok (.ireturn, 1) := by decide +kernel
theorem dX5_turns_15 : decode cX5_turns 15 = .ok (.aload_n 0, 1) := by decide +kernel
theorem dX5_turns_16 : decode cX5_turns 16 = .ok (.invokevirtual 61, 3) := by decide +kernel
theorem dX5_turns_19 : decode cX5_turns 19 = .ok (.istore_n 1, 1) := by decide +kernel
theorem dX5_turns_20 : decode cX5_turns 20 = .ok (.iconst 1, 1) := by decide +kernel
theorem dX5_turns_21 : decode cX5_turns 21 = .ok (.istore_n 2, 1) := by decide +kernel
theorem dX5_turns_22 : decode cX5_turns 22 = .ok (.iconst 0, 1) := by decide +kernel
theorem dX5_turns_23 : decode cX5_turns 23 = .ok (.istore_n 3, 1) := by decide +kernel
theorem dX5_turns_24 : decode cX5_turns 24 = .ok (.iload_n 3, 1) := by decide +kernel
theorem dX5_turns_25 : decode cX5_turns 25 = .ok (.iload_n 1, 1) := by decide +kernel
theorem dX5_turns_26 : decode cX5_turns 26 = .ok (.if_icmp .ge 68, 3) := by decide +kernel
theorem dX5_turns_29 : decode cX5_turns 29 = .ok (.iconst 0, 1) := by decide +kernel
theorem dX5_turns_30 : decode cX5_turns 30 = .ok (.istore 4, 2) := by decide +kernel
theorem dX5_turns_32 : decode cX5_turns 32 = .ok (.iload 4, 2) := by decide +kernel
theorem dX5_turns_34 : decode cX5_turns 34 = .ok (.iload_n 1, 1) := by decide +kernel
theorem dX5_turns_35 : decode cX5_turns 35 = .ok (.if_icmp .ge 53, 3) := by decide +kernel
theorem dX5_turns_38 : decode cX5_turns 38 = .ok (.iconst 0, 1) := by decide +kernel
theorem dX5_turns_39 : decode cX5_turns 39 = .ok (.istore 5, 2) := by decide +kernel
theorem dX5_turns_41 : decode cX5_turns 41 = .ok (.iload 5, 2) := by decide +kernel
theorem dX5_turns_43 : decode cX5_turns 43 = .ok (.iload_n 1, 1) := by decide +kernel
theorem dX5_turns_44 : decode cX5_turns 44 = .ok (.if_icmp .ge 38, 3) := by decide +kernel
theorem dX5_turns_47 : decode cX5_turns 47 = .ok (.iload_n 2, 1) := by decide +kernel
theorem dX5_turns_48 : decode cX5_turns 48 = .ok (.aload_n 0, 1) := by decide +kernel
theorem dX5_turns_49 : decode cX5_turns 49 = .ok (.iload_n 3, 1) := by decide +kernel
theorem dX5_turns_50 : decode cX5_turns 50 = .ok (.iload 4, 2) := by decide +kernel
theorem dX5_turns_52 : decode cX5_turns 52 = .ok (.iload 5, 2) := by decide +kernel
theorem dX5_turns_54 : decode cX5_turns 54 = .ok (.invokevirtual 78, 3) := by decide +kernel
theorem dX5_turns_57 : decode cX5_turns 57 = .ok (.aload_n 0, 1) := by decide +kernel
theorem dX5_turns_58 : decode cX5_turns 58 = .ok (.iload 4, 2) := by decide +kernel
theorem dX5_turns_60 : decode cX5_turns 60 = .ok (.iload_n 3, 1) := by decide +kernel
theorem dX5_turns_61 : decode cX5_turns 61 = .ok (.iload 5, 2) := by decide +kernel
theorem dX5_turns_63 : decode cX5_turns 63 = .ok (.invokevirtual 78, 3) := by decide +kernel
theorem dX5_turns_66 : decode cX5_turns 66 = .ok (.if_icmp .ne 7, 3) := by decide +kernel
theorem dX5_turns_69 : decode cX5_turns 69 = .ok (.iconst 1, 1) := by decide +kernel
end
section
-- decode rows (by program)
theorem dX5_turns_70 : decode cX5_turns 70 = .ok (.goto 4, 3) := by decide +kernel
theorem dX5_turns_73 : decode cX5_turns 73 = .ok (.iconst 0, 1) := by decide +kernel
theorem dX5_turns_74 : decode cX5_turns 74 = .ok (.iand, 1) := by decide +kernel
theorem dX5_turns_75 : decode cX5_turns 75 = .ok (.istore_n 2, 1) := by decide +kernel
theorem dX5_turns_76 : decode cX5_turns 76 = .ok (.iinc 5 1, 3) := by decide +kernel
theorem dX5_turns_79 : decode cX5_turns 79 = .ok (.goto (-38), 3) := by decide +kernel
theorem dX5_turns_82 : decode cX5_turns 82 = .ok (.iinc 4 1, 3) := by decide +kernel
theorem dX5_turns_85 : decode cX5_turns 85 = .ok (.goto (-53), 3) := by decide +kernel
theorem dX5_turns_88 : decode cX5_turns 88 = .ok (.iinc 3 1, 3) := by decide +kernel
theorem dX5_turns_91 : decode cX5_turns 91 = .ok (.goto (-67), 3) := by decide +kernel
theorem dX5_turns_94 : decode cX5_turns 94 = .ok (.iload_n 2, 1) := by decide +kernel
theorem dX5_turns_95 : decode cX5_turns 95 = .ok (.ifCond .eq 7, 3) := by decide +kernel
theorem dX5_turns_98 : decode cX5_turns 98 = .ok (.iconst 1, 1) := by decide +kernel
theorem dX5_turns_99 : decode cX5_turns 99 = .ok (.goto 4, 3) := by decide +kernel
theorem dX5_turns_102 : decode cX5_turns 102 = .ok (.iconst 0, 1) := by decide +kernel
theorem dX5_turns_103 : decode cX5_turns 103 = .ok (.ireturn, 1) := by decide +kernel
theorem dX5_grown_0 : decode cX5_grown 0 = .ok (.aload_n 0, 1) := by decide +kernel
theorem dX5_grown_1 : decode cX5_grown 1 = .ok (.invokevirtual 61, 3) := by decide +kernel
theorem dX5_grown_4 : decode cX5_grown 4 = .ok (.istore_n 2, 1) := by decide +kernel
theorem dX5_grown_5 : decode cX5_grown 5 = .ok (.iload_n 1, 1) := by decide +kernel
theorem dX5_grown_6 : decode cX5_grown 6 = .ok (.iconst 1, 1) := by decide +kernel
theorem dX5_grown_7 : decode cX5_grown 7 = .ok (.ior, 1) := by decide +kernel
theorem dX5_grown_8 : decode cX5_grown 8 = .ok (.istore_n 3, 1) := by decide +kernel
theorem dX5_grown_9 : decode cX5_grown 9 = .ok (.iconst 0, 1) := by decide +kernel
theorem dX5_grown_10 : decode cX5_grown 10 = .ok (.istore 4, 2) := by decide +kernel
theorem dX5_grown_12 : decode cX5_grown 12 = .ok (.iload 4, 2) := by decide +kernel
theorem dX5_grown_14 : decode cX5_grown 14 = .ok (.iload_n 2, 1) := by decide +kernel
theorem dX5_grown_15 : decode cX5_grown 15 = .ok (.if_icmp .ge 95, 3) := by decide +kernel
theorem dX5_grown_18 : decode cX5_grown 18 = .ok (.iconst 0, 1) := by decide +kernel
theorem dX5_grown_19 : decode cX5_grown 19 = .ok (.istore 5, 2) := by decide +kernel
theorem dX5_grown_21 : decode cX5_grown 21 = .ok (.iload 5, 2) := by decide +kernel
theorem dX5_grown_23 : decode cX5_grown 23 = .ok (.iload_n 2, 1) := by decide +kernel
theorem dX5_grown_24 : decode cX5_grown 24 = .ok (.if_icmp .ge 80, 3) := by decide +kernel
theorem dX5_grown_27 : decode cX5_grown 27 = .ok (.iconst 0, 1) := by decide +kernel
theorem dX5_grown_28 : decode cX5_grown 28 = .ok (.istore 6, 2) := by decide +kernel
theorem dX5_grown_30 : decode cX5_grown 30 = .ok (.iload 6, 2) := by decide +kernel
theorem dX5_grown_32 : decode cX5_grown 32 = .ok (.iload_n 2, 1) := by decide +kernel
theorem dX5_grown_33 : decode cX5_grown 33 = .ok (.if_icmp .ge 65, 3) := by decide +kernel
theorem dX5_grown_36 : decode cX5_grown 36 = .ok (.iload_n 1, 1) := by decide +kernel
theorem dX5_grown_37 : decode cX5_grown 37 = .ok (.iload 4, 2) := by decide +kernel
theorem dX5_grown_39 : decode cX5_grown 39 = .ok (.ishr, 1) := by decide +kernel
theorem dX5_grown_40 : decode cX5_grown 40 = .ok (.iconst 1, 1) := by decide +kernel
theorem dX5_grown_41 : decode cX5_grown 41 = .ok (.iand, 1) := by decide +kernel
theorem dX5_grown_42 : decode cX5_grown 42 = .ok (.iconst 1, 1) := by decide +kernel
theorem dX5_grown_43 : decode cX5_grown 43 = .ok (.if_icmp .ne 30, 3) := by decide +kernel
theorem dX5_grown_46 : decode cX5_grown 46 = .ok (.iload_n 1, 1) := by decide +kernel
theorem dX5_grown_47 : decode cX5_grown 47 = .ok (.iload 5, 2) := by decide +kernel
theorem dX5_grown_49 : decode cX5_grown 49 = .ok (.ishr, 1) := by decide +kernel
theorem dX5_grown_50 : decode cX5_grown 50 = .ok (.iconst 1, 1) := by decide +kernel
theorem dX5_grown_51 : decode cX5_grown 51 = .ok (.iand, 1) := by decide +kernel
theorem dX5_grown_52 : decode cX5_grown 52 = .ok (.iconst 1, 1) := by decide +kernel
theorem dX5_grown_53 : decode cX5_grown 53 = .ok (.if_icmp .ne 20, 3) := by decide +kernel
theorem dX5_grown_56 : decode cX5_grown 56 = .ok (.aload_n 0, 1) := by decide +kernel
theorem dX5_grown_57 : decode cX5_grown 57 = .ok (.iload 4, 2) := by decide +kernel
theorem dX5_grown_59 : decode cX5_grown 59 = .ok (.iload 5, 2) := by decide +kernel
theorem dX5_grown_61 : decode cX5_grown 61 = .ok (.iload 6, 2) := by decide +kernel
theorem dX5_grown_63 : decode cX5_grown 63 = .ok (.invokevirtual 78, 3) := by decide +kernel
theorem dX5_grown_66 : decode cX5_grown 66 = .ok (.ifCond .le 7, 3) := by decide +kernel
theorem dX5_grown_69 : decode cX5_grown 69 = .ok (.iconst 1, 1) := by decide +kernel
theorem dX5_grown_70 : decode cX5_grown 70 = .ok (.goto 4, 3) := by decide +kernel
theorem dX5_grown_73 : decode cX5_grown 73 = .ok (.iconst 0, 1) := by decide +kernel
theorem dX5_grown_74 : decode cX5_grown 74 = .ok (.istore 7, 2) := by decide +kernel
theorem dX5_grown_76 : decode cX5_grown 76 = .ok (.iload_n 3, 1) := by decide +kernel
theorem dX5_grown_77 : decode cX5_grown 77 = .ok (.iload 7, 2) := by decide +kernel
theorem dX5_grown_79 : decode cX5_grown 79 = .ok (.ifCond .eq 10, 3) := by decide +kernel
theorem dX5_grown_82 : decode cX5_grown 82 = .ok (.iconst 1, 1) := by decide +kernel
theorem dX5_grown_83 : decode cX5_grown 83 = .ok (.iload 6, 2) := by decide +kernel
theorem dX5_grown_85 : decode cX5_grown 85 = .ok (.ishl, 1) := by decide +kernel
theorem dX5_grown_86 : decode cX5_grown 86 = .ok (.goto 4, 3) := by decide +kernel
theorem dX5_grown_89 : decode cX5_grown 89 = .ok (.iconst 0, 1) := by decide +kernel
theorem dX5_grown_90 : decode cX5_grown 90 = .ok (.ior, 1) := by decide +kernel
theorem dX5_grown_91 : decode cX5_grown 91 = .ok (.istore_n 3, 1) := by decide +kernel
theorem dX5_grown_92 : decode cX5_grown 92 = .ok (.iinc 6 1, 3) := by decide +kernel
theorem dX5_grown_95 : decode cX5_grown 95 = .ok (.goto (-65), 3) := by decide +kernel
theorem dX5_grown_98 : decode cX5_grown 98 = .ok (.iinc 5 1, 3) := by decide +kernel
theorem dX5_grown_101 : decode cX5_grown 101 = .ok (.goto (-80), 3) := by decide +kernel
theorem dX5_grown_104 : decode cX5_grown 104 = .ok (.iinc 4 1, 3) := by decide +kernel
theorem dX5_grown_107 : decode cX5_grown 107 = .ok (.goto (-95), 3) := by decide +kernel
theorem dX5_grown_110 : decode cX5_grown 110 = .ok (.iload_n 3, 1) := by decide +kernel
theorem dX5_grown_111 : decode cX5_grown 111 = .ok (.ireturn, 1) := by decide +kernel
theorem dX5_hull_0 : decode cX5_hull 0 = .ok (.iload_n 1, 1) := by decide +kernel
theorem dX5_hull_1 : decode cX5_hull 1 = .ok (.iconst 1, 1) := by decide +kernel
theorem dX5_hull_2 : decode cX5_hull 2 = .ok (.ior, 1) := by decide +kernel
theorem dX5_hull_3 : decode cX5_hull 3 = .ok (.istore_n 2, 1) := by decide +kernel
theorem dX5_hull_4 : decode cX5_hull 4 = .ok (.aload_n 0, 1) := by decide +kernel
theorem dX5_hull_5 : decode cX5_hull 5 = .ok (.iload_n 2, 1) := by decide +kernel
theorem dX5_hull_6 : decode cX5_hull 6 = .ok (.invokevirtual 86, 3) := by decide +kernel
theorem dX5_hull_9 : decode cX5_hull 9 = .ok (.iload_n 2, 1) := by decide +kernel
theorem dX5_hull_10 : decode cX5_hull 10 = .ok (.if_icmp .eq 12, 3) := by decide +kernel
theorem dX5_hull_13 : decode cX5_hull 13 = .ok (.aload_n 0, 1) := by decide +kernel
theorem dX5_hull_14 : decode cX5_hull 14 = .ok (.iload_n 2, 1) := by decide +kernel
theorem dX5_hull_15 : decode cX5_hull 15 = .ok (.invokevirtual 86, 3) := by decide +kernel
theorem dX5_hull_18 : decode cX5_hull 18 = .ok (.istore_n 2, 1) := by decide +kernel
theorem dX5_hull_19 : decode cX5_hull 19 = .ok (.goto (-15), 3) := by decide +kernel
theorem dX5_hull_22 : decode cX5_hull 22 = .ok (.iload_n 2, 1) := by decide +kernel
theorem dX5_hull_23 : decode cX5_hull 23 = .ok (.ireturn, 1) := by decide +kernel
theorem dX5_isSet_0 : decode cX5_isSet 0 = .ok (.iload_n 1, 1) := by decide +kernel
theorem dX5_isSet_1 : decode cX5_isSet 1 = .ok (.iconst 0, 1) := by decide +kernel
theorem dX5_isSet_2 : decode cX5_isSet 2 = .ok (.iconst 1, 1) := by decide +kernel
theorem dX5_isSet_3 : decode cX5_isSet 3 = .ok (.aload_n 0, 1) := by decide +kernel
theorem dX5_isSet_4 : decode cX5_isSet 4 = .ok (.invokevirtual 61, 3) := by decide +kernel
theorem dX5_isSet_7 : decode cX5_isSet 7 = .ok (.ishl, 1) := by decide +kernel
theorem dX5_isSet_8 : decode cX5_isSet 8 = .ok (.iconst 1, 1) := by decide +kernel
theorem dX5_isSet_9 : decode cX5_isSet 9 = .ok (.isub, 1) := by decide +kernel
theorem dX5_isSet_10 : decode cX5_isSet 10 = .ok (.invokestatic 45, 3) := by decide +kernel
theorem dX5_isSet_13 : decode cX5_isSet 13 = .ok (.ireturn, 1) := by decide +kernel
theorem dX5_closed_0 : decode cX5_closed 0 = .ok (.aload_n 0, 1) := by decide +kernel
theorem dX5_closed_1 : decode cX5_closed 1 = .ok (.iconst 0, 1) := by decide +kernel
theorem dX5_closed_2 : decode cX5_closed 2 = .ok (.putfield 42, 3) := by decide +kernel
theorem dX5_closed_5 : decode cX5_closed 5 = .ok (.iload_n 2, 1) := by decide +kernel
theorem dX5_closed_6 : decode cX5_closed 6 = .ok (.iconst 0, 1) := by decide +kernel
theorem dX5_closed_7 : decode cX5_closed 7 = .ok (.iconst 2, 1) := by decide +kernel
theorem dX5_closed_8 : decode cX5_closed 8 = .ok (.invokestatic 45, 3) := by decide +kernel
theorem dX5_closed_11 : decode cX5_closed 11 = .ok (.ifCond .eq 16, 3) := by decide +kernel
theorem dX5_closed_14 : decode cX5_closed 14 = .ok (.iload_n 2, 1) := by decide +kernel
theorem dX5_closed_15 : decode cX5_closed 15 = .ok (.iconst 2, 1) := by decide +kernel
theorem dX5_closed_16 : decode cX5_closed 16 = .ok (.if_icmp .ge 13, 3) := by decide +kernel
theorem dX5_closed_19 : decode cX5_closed 19 = .ok (.aload_n 0, 1) := by decide +kernel
theorem dX5_closed_20 : decode cX5_closed 20 = .ok (.iload_n 1, 1) := by decide +kernel
theorem dX5_closed_21 : decode cX5_closed 21 = .ok (.invokevirtual 89, 3) := by decide +kernel
theorem dX5_closed_24 : decode cX5_closed 24 = .ok (.ifCond .ne 5, 3) := by decide +kernel
theorem dX5_closed_27 : decode cX5_closed 27 = .ok (.iconst (-1), 1) := by decide +kernel
theorem dX5_closed_28 : decode cX5_closed 28 = .ok (.ireturn, 1) := by decide +kernel
theorem dX5_closed_29 : decode cX5_closed 29 = .ok (.aload_n 0, 1) := by decide +kernel
theorem dX5_closed_30 : decode cX5_closed 30 = .ok (.invokevirtual 75, 3) := by decide +kernel
theorem dX5_closed_33 : decode cX5_closed 33 = .ok (.ifCond .ne 6, 3) := by decide +kernel
theorem dX5_closed_36 : decode cX5_closed 36 = .ok (.bipush (-2), 2) := by decide +kernel
theorem dX5_closed_38 : decode cX5_closed 38 = .ok (.ireturn, 1) := by decide +kernel
theorem dX5_closed_39 : decode cX5_closed 39 = .ok (.iload_n 2, 1) := by decide +kernel
theorem dX5_closed_40 : decode cX5_closed 40 = .ok (.ifCond .ne 18, 3) := by decide +kernel
theorem dX5_closed_43 : decode cX5_closed 43 = .ok (.aload_n 0, 1) := by decide +kernel
theorem dX5_closed_44 : decode cX5_closed 44 = .ok (.iload_n 1, 1) := by decide +kernel
theorem dX5_closed_45 : decode cX5_closed 45 = .ok (.invokevirtual 92, 3) := by decide +kernel
theorem dX5_closed_48 : decode cX5_closed 48 = .ok (.iload_n 1, 1) := by decide +kernel
theorem dX5_closed_49 : decode cX5_closed 49 = .ok (.if_icmp .ne 7, 3) := by decide +kernel
theorem dX5_closed_52 : decode cX5_closed 52 = .ok (.iconst 1, 1) := by decide +kernel
theorem dX5_closed_53 : decode cX5_closed 53 = .ok (.goto 4, 3) := by decide +kernel
theorem dX5_closed_56 : decode cX5_closed 56 = .ok (.iconst 0, 1) := by decide +kernel
theorem dX5_closed_57 : decode cX5_closed 57 = .ok (.ireturn, 1) := by decide +kernel
theorem dX5_closed_58 : decode cX5_closed 58 = .ok (.iload_n 2, 1) := by decide +kernel
theorem dX5_closed_59 : decode cX5_closed 59 = .ok (.iconst 1, 1) := by decide +kernel
theorem dX5_closed_60 : decode cX5_closed 60 = .ok (.if_icmp .ne 9, 3) := by decide +kernel
theorem dX5_closed_63 : decode cX5_closed 63 = .ok (.aload_n 0, 1) := by decide +kernel
theorem dX5_closed_64 : decode cX5_closed 64 = .ok (.iload_n 1, 1) := by decide +kernel
theorem dX5_closed_65 : decode cX5_closed 65 = .ok (.invokevirtual 92, 3) := by decide +kernel
theorem dX5_closed_68 : decode cX5_closed 68 = .ok (.ireturn, 1) := by decide +kernel
theorem dX5_closed_69 : decode cX5_closed 69 = .ok (.iconst 0, 1) := by decide +kernel
theorem dX5_closed_70 : decode cX5_closed 70 = .ok (.istore_n 3, 1) := by decide +kernel
theorem dX5_closed_71 : decode cX5_closed 71 = .ok (.iconst 0, 1) := by decide +kernel
theorem dX5_closed_72 : decode cX5_closed 72 = .ok (.istore 4, 2) := by decide +kernel
theorem dX5_closed_74 : decode cX5_closed 74 = .ok (.iload 4, 2) := by decide +kernel
theorem dX5_closed_76 : decode cX5_closed 76 = .ok (.iconst 1, 1) := by decide +kernel
theorem dX5_closed_77 : decode cX5_closed 77 = .ok (.aload_n 0, 1) := by decide +kernel
theorem dX5_closed_78 : decode cX5_closed 78 = .ok (.invokevirtual 61, 3) := by decide +kernel
theorem dX5_closed_81 : decode cX5_closed 81 = .ok (.ishl, 1) := by decide +kernel
theorem dX5_closed_82 : decode cX5_closed 82 = .ok (.if_icmp .ge 28, 3) := by decide +kernel
theorem dX5_closed_85 : decode cX5_closed 85 = .ok (.iload_n 3, 1) := by decide +kernel
theorem dX5_closed_86 : decode cX5_closed 86 = .ok (.aload_n 0, 1) := by decide +kernel
theorem dX5_closed_87 : decode cX5_closed 87 = .ok (.iload 4, 2) := by decide +kernel
theorem dX5_closed_89 : decode cX5_closed 89 = .ok (.invokevirtual 92, 3) := by decide +kernel
theorem dX5_closed_92 : decode cX5_closed 92 = .ok (.iload 4, 2) := by decide +kernel
theorem dX5_closed_94 : decode cX5_closed 94 = .ok (.if_icmp .ne 7, 3) := by decide +kernel
theorem dX5_closed_97 : decode cX5_closed 97 = .ok (.iconst 1, 1) := by decide +kernel
theorem dX5_closed_98 : decode cX5_closed 98 = .ok (.goto 4, 3) := by decide +kernel
theorem dX5_closed_101 : decode cX5_closed 101 = .ok (.iconst 0, 1) := by decide +kernel
theorem dX5_closed_102 : decode cX5_closed 102 = .ok (.iadd, 1) := by decide +kernel
theorem dX5_closed_103 : decode cX5_closed 103 = .ok (.istore_n 3, 1) := by decide +kernel
theorem dX5_closed_104 : decode cX5_closed 104 = .ok (.iinc 4 1, 3) := by decide +kernel
theorem dX5_closed_107 : decode cX5_closed 107 = .ok (.goto (-33), 3) := by decide +kernel
theorem dX5_closed_110 : decode cX5_closed 110 = .ok (.iload_n 3, 1) := by decide +kernel
theorem dX5_closed_111 : decode cX5_closed 111 = .ok (.ireturn, 1) := by decide +kernel
theorem dX5_orderOf_0 : decode cX5_orderOf 0 = .ok (.iconst 0, 1) := by decide +kernel
theorem dX5_orderOf_1 : decode cX5_orderOf 1 = .ok (.istore_n 2, 1) := by decide +kernel
theorem dX5_orderOf_2 : decode cX5_orderOf 2 = .ok (.iconst 0, 1) := by decide +kernel
theorem dX5_orderOf_3 : decode cX5_orderOf 3 = .ok (.istore_n 3, 1) := by decide +kernel
theorem dX5_orderOf_4 : decode cX5_orderOf 4 = .ok (.iload_n 3, 1) := by decide +kernel
theorem dX5_orderOf_5 : decode cX5_orderOf 5 = .ok (.iconst 5, 1) := by decide +kernel
theorem dX5_orderOf_6 : decode cX5_orderOf 6 = .ok (.if_icmp .ge 30, 3) := by decide +kernel
theorem dX5_orderOf_9 : decode cX5_orderOf 9 = .ok (.iload_n 2, 1) := by decide +kernel
theorem dX5_orderOf_10 : decode cX5_orderOf 10 = .ok (.iload_n 1, 1) := by decide +kernel
theorem dX5_orderOf_11 : decode cX5_orderOf 11 = .ok (.iload_n 3, 1) := by decide +kernel
theorem dX5_orderOf_12 : decode cX5_orderOf 12 = .ok (.ishr, 1) := by decide +kernel
theorem dX5_orderOf_13 : decode cX5_orderOf 13 = .ok (.iconst 1, 1) := by decide +kernel
theorem dX5_orderOf_14 : decode cX5_orderOf 14 = .ok (.iand, 1) := by decide +kernel
theorem dX5_orderOf_15 : decode cX5_orderOf 15 = .ok (.iconst 1, 1) := by decide +kernel
theorem dX5_orderOf_16 : decode cX5_orderOf 16 = .ok (.if_icmp .ne 11, 3) := by decide +kernel
theorem dX5_orderOf_19 : decode cX5_orderOf 19 = .ok (.aload_n 0, 1) := by decide +kernel
theorem dX5_orderOf_20 : decode cX5_orderOf 20 = .ok (.iload_n 3, 1) := by decide +kernel
theorem dX5_orderOf_21 : decode cX5_orderOf 21 = .ok (.invokevirtual 82, 3) := by decide +kernel
theorem dX5_orderOf_24 : decode cX5_orderOf 24 = .ok (.goto 4, 3) := by decide +kernel
theorem dX5_orderOf_27 : decode cX5_orderOf 27 = .ok (.iconst 0, 1) := by decide +kernel
theorem dX5_orderOf_28 : decode cX5_orderOf 28 = .ok (.iadd, 1) := by decide +kernel
theorem dX5_orderOf_29 : decode cX5_orderOf 29 = .ok (.istore_n 2, 1) := by decide +kernel
theorem dX5_orderOf_30 : decode cX5_orderOf 30 = .ok (.iinc 3 1, 3) := by decide +kernel
theorem dX5_orderOf_33 : decode cX5_orderOf 33 = .ok (.goto (-29), 3) := by decide +kernel
theorem dX5_orderOf_36 : decode cX5_orderOf 36 = .ok (.iload_n 2, 1) := by decide +kernel
theorem dX5_orderOf_37 : decode cX5_orderOf 37 = .ok (.ireturn, 1) := by decide +kernel
theorem dX5_order_0 : decode cX5_order 0 = .ok (.aload_n 0, 1) := by decide +kernel
theorem dX5_order_1 : decode cX5_order 1 = .ok (.iconst 0, 1) := by decide +kernel
theorem dX5_order_2 : decode cX5_order 2 = .ok (.putfield 42, 3) := by decide +kernel
theorem dX5_order_5 : decode cX5_order 5 = .ok (.aload_n 0, 1) := by decide +kernel
theorem dX5_order_6 : decode cX5_order 6 = .ok (.iload_n 1, 1) := by decide +kernel
theorem dX5_order_7 : decode cX5_order 7 = .ok (.invokevirtual 89, 3) := by decide +kernel
theorem dX5_order_10 : decode cX5_order 10 = .ok (.ifCond .ne 5, 3) := by decide +kernel
theorem dX5_order_13 : decode cX5_order 13 = .ok (.iconst (-1), 1) := by decide +kernel
theorem dX5_order_14 : decode cX5_order 14 = .ok (.ireturn, 1) := by decide +kernel
theorem dX5_order_15 : decode cX5_order 15 = .ok (.aload_n 0, 1) := by decide +kernel
theorem dX5_order_16 : decode cX5_order 16 = .ok (.invokevirtual 75, 3) := by decide +kernel
theorem dX5_order_19 : decode cX5_order 19 = .ok (.ifCond .eq 15, 3) := by decide +kernel
theorem dX5_order_22 : decode cX5_order 22 = .ok (.aload_n 0, 1) := by decide +kernel
theorem dX5_order_23 : decode cX5_order 23 = .ok (.aload_n 0, 1) := by decide +kernel
theorem dX5_order_24 : decode cX5_order 24 = .ok (.iload_n 1, 1) := by decide +kernel
theorem dX5_order_25 : decode cX5_order 25 = .ok (.invokevirtual 92, 3) := by decide +kernel
theorem dX5_order_28 : decode cX5_order 28 = .ok (.invokevirtual 95, 3) := by decide +kernel
theorem dX5_order_31 : decode cX5_order 31 = .ok (.goto 5, 3) := by decide +kernel
theorem dX5_order_34 : decode cX5_order 34 = .ok (.bipush (-2), 2) := by decide +kernel
theorem dX5_order_36 : decode cX5_order 36 = .ok (.ireturn, 1) := by decide +kernel
theorem dX5_worth_0 : decode cX5_worth 0 = .ok (.aload_n 0, 1) := by decide +kernel
theorem dX5_worth_1 : decode cX5_worth 1 = .ok (.iconst 0, 1) := by decide +kernel
theorem dX5_worth_2 : decode cX5_worth 2 = .ok (.putfield 42, 3) := by decide +kernel
theorem dX5_worth_5 : decode cX5_worth 5 = .ok (.iload_n 1, 1) := by decide +kernel
theorem dX5_worth_6 : decode cX5_worth 6 = .ok (.iconst 0, 1) := by decide +kernel
theorem dX5_worth_7 : decode cX5_worth 7 = .ok (.iconst 2, 1) := by decide +kernel
theorem dX5_worth_8 : decode cX5_worth 8 = .ok (.invokestatic 45, 3) := by decide +kernel
theorem dX5_worth_11 : decode cX5_worth 11 = .ok (.ifCond .eq 11, 3) := by decide +kernel
theorem dX5_worth_14 : decode cX5_worth 14 = .ok (.aload_n 0, 1) := by decide +kernel
theorem dX5_worth_15 : decode cX5_worth 15 = .ok (.iload_n 2, 1) := by decide +kernel
theorem dX5_worth_16 : decode cX5_worth 16 = .ok (.invokevirtual 72, 3) := by decide +kernel
theorem dX5_worth_19 : decode cX5_worth 19 = .ok (.ifCond .ne 5, 3) := by decide +kernel
theorem dX5_worth_22 : decode cX5_worth 22 = .ok (.iconst (-1), 1) := by decide +kernel
theorem dX5_worth_23 : decode cX5_worth 23 = .ok (.ireturn, 1) := by decide +kernel
theorem dX5_worth_24 : decode cX5_worth 24 = .ok (.aload_n 0, 1) := by decide +kernel
theorem dX5_worth_25 : decode cX5_worth 25 = .ok (.invokevirtual 75, 3) := by decide +kernel
theorem dX5_worth_28 : decode cX5_worth 28 = .ok (.ifCond .ne 6, 3) := by decide +kernel
theorem dX5_worth_31 : decode cX5_worth 31 = .ok (.bipush (-2), 2) := by decide +kernel
theorem dX5_worth_33 : decode cX5_worth 33 = .ok (.ireturn, 1) := by decide +kernel
theorem dX5_worth_34 : decode cX5_worth 34 = .ok (.aload_n 0, 1) := by decide +kernel
theorem dX5_worth_35 : decode cX5_worth 35 = .ok (.dup, 1) := by decide +kernel
theorem dX5_worth_36 : decode cX5_worth 36 = .ok (.getfield 98, 3) := by decide +kernel
theorem dX5_worth_39 : decode cX5_worth 39 = .ok (.iload_n 1, 1) := by decide +kernel
theorem dX5_worth_40 : decode cX5_worth 40 = .ok (.ifCond .ne 7, 3) := by decide +kernel
theorem dX5_worth_43 : decode cX5_worth 43 = .ok (.lconst 1, 1) := by decide +kernel
theorem dX5_worth_44 : decode cX5_worth 44 = .ok (.goto 17, 3) := by decide +kernel
theorem dX5_worth_47 : decode cX5_worth 47 = .ok (.iload_n 1, 1) := by decide +kernel
theorem dX5_worth_48 : decode cX5_worth 48 = .ok (.iconst 1, 1) := by decide +kernel
theorem dX5_worth_49 : decode cX5_worth 49 = .ok (.if_icmp .ne 9, 3) := by decide +kernel
theorem dX5_worth_52 : decode cX5_worth 52 = .ok (.ldc2_w 102, 3) := by decide +kernel
theorem dX5_worth_55 : decode cX5_worth 55 = .ok (.goto 6, 3) := by decide +kernel
theorem dX5_worth_58 : decode cX5_worth 58 = .ok (.ldc2_w 104, 3) := by decide +kernel
theorem dX5_worth_61 : decode cX5_worth 61 = .ok (.ladd, 1) := by decide +kernel
theorem dX5_worth_62 : decode cX5_worth 62 = .ok (.putfield 98, 3) := by decide +kernel
theorem dX5_worth_65 : decode cX5_worth 65 = .ok (.aload_n 0, 1) := by decide +kernel
theorem dX5_worth_66 : decode cX5_worth 66 = .ok (.iload_n 2, 1) := by decide +kernel
theorem dX5_worth_67 : decode cX5_worth 67 = .ok (.invokevirtual 82, 3) := by decide +kernel
theorem dX5_worth_70 : decode cX5_worth 70 = .ok (.istore_n 3, 1) := by decide +kernel
theorem dX5_worth_71 : decode cX5_worth 71 = .ok (.iload_n 3, 1) := by decide +kernel
theorem dX5_worth_72 : decode cX5_worth 72 = .ok (.iload_n 1, 1) := by decide +kernel
theorem dX5_worth_73 : decode cX5_worth 73 = .ok (.ifCond .le 17, 3) := by decide +kernel
theorem dX5_worth_76 : decode cX5_worth 76 = .ok (.aload_n 0, 1) := by decide +kernel
theorem dX5_worth_77 : decode cX5_worth 77 = .ok (.aload_n 0, 1) := by decide +kernel
theorem dX5_worth_78 : decode cX5_worth 78 = .ok (.iconst 1, 1) := by decide +kernel
theorem dX5_worth_79 : decode cX5_worth 79 = .ok (.iload_n 2, 1) := by decide +kernel
theorem dX5_worth_80 : decode cX5_worth 80 = .ok (.ishl, 1) := by decide +kernel
theorem dX5_worth_81 : decode cX5_worth 81 = .ok (.invokevirtual 92, 3) := by decide +kernel
theorem dX5_worth_84 : decode cX5_worth 84 = .ok (.invokevirtual 95, 3) := by decide +kernel
theorem dX5_worth_87 : decode cX5_worth 87 = .ok (.goto 4, 3) := by decide +kernel
theorem dX5_worth_90 : decode cX5_worth 90 = .ok (.iconst 1, 1) := by decide +kernel
theorem dX5_worth_91 : decode cX5_worth 91 = .ok (.imul, 1) := by decide +kernel
theorem dX5_worth_92 : decode cX5_worth 92 = .ok (.istore_n 3, 1) := by decide +kernel
theorem dX5_worth_93 : decode cX5_worth 93 = .ok (.iload_n 1, 1) := by decide +kernel
theorem dX5_worth_94 : decode cX5_worth 94 = .ok (.iconst 2, 1) := by decide +kernel
theorem dX5_worth_95 : decode cX5_worth 95 = .ok (.if_icmp .ne 15, 3) := by decide +kernel
theorem dX5_worth_98 : decode cX5_worth 98 = .ok (.iload_n 3, 1) := by decide +kernel
theorem dX5_worth_99 : decode cX5_worth 99 = .ok (.aload_n 0, 1) := by decide +kernel
theorem dX5_worth_100 : decode cX5_worth 100 = .ok (.iload_n 2, 1) := by decide +kernel
theorem dX5_worth_101 : decode cX5_worth 101 = .ok (.iload_n 2, 1) := by decide +kernel
theorem dX5_worth_102 : decode cX5_worth 102 = .ok (.iload_n 2, 1) := by decide +kernel
theorem dX5_worth_103 : decode cX5_worth 103 = .ok (.invokevirtual 78, 3) := by decide +kernel
theorem dX5_worth_106 : decode cX5_worth 106 = .ok (.iadd, 1) := by decide +kernel
theorem dX5_worth_107 : decode cX5_worth 107 = .ok (.goto 4, 3) := by decide +kernel
theorem dX5_worth_110 : decode cX5_worth 110 = .ok (.iload_n 3, 1) := by decide +kernel
theorem dX5_worth_111 : decode cX5_worth 111 = .ok (.ireturn, 1) := by decide +kernel
theorem dX5_fuse_0 : decode cX5_fuse 0 = .ok (.aload_n 0, 1) := by decide +kernel
theorem dX5_fuse_1 : decode cX5_fuse 1 = .ok (.iconst 0, 1) := by decide +kernel
theorem dX5_fuse_2 : decode cX5_fuse 2 = .ok (.putfield 42, 3) := by decide +kernel
theorem dX5_fuse_5 : decode cX5_fuse 5 = .ok (.aload_n 0, 1) := by decide +kernel
theorem dX5_fuse_6 : decode cX5_fuse 6 = .ok (.invokevirtual 61, 3) := by decide +kernel
theorem dX5_fuse_9 : decode cX5_fuse 9 = .ok (.istore_n 2, 1) := by decide +kernel
theorem dX5_fuse_10 : decode cX5_fuse 10 = .ok (.iload_n 1, 1) := by decide +kernel
theorem dX5_fuse_11 : decode cX5_fuse 11 = .ok (.iconst 0, 1) := by decide +kernel
theorem dX5_fuse_12 : decode cX5_fuse 12 = .ok (.sipush 624, 3) := by decide +kernel
theorem dX5_fuse_15 : decode cX5_fuse 15 = .ok (.invokestatic 45, 3) := by decide +kernel
theorem dX5_fuse_18 : decode cX5_fuse 18 = .ok (.istore_n 3, 1) := by decide +kernel
theorem dX5_fuse_19 : decode cX5_fuse 19 = .ok (.iload_n 1, 1) := by decide +kernel
theorem dX5_fuse_20 : decode cX5_fuse 20 = .ok (.istore 4, 2) := by decide +kernel
theorem dX5_fuse_22 : decode cX5_fuse 22 = .ok (.iconst 1, 1) := by decide +kernel
theorem dX5_fuse_23 : decode cX5_fuse 23 = .ok (.istore 5, 2) := by decide +kernel
theorem dX5_fuse_25 : decode cX5_fuse 25 = .ok (.iload 5, 2) := by decide +kernel
theorem dX5_fuse_27 : decode cX5_fuse 27 = .ok (.iconst 5, 1) := by decide +kernel
theorem dX5_fuse_28 : decode cX5_fuse 28 = .ok (.if_icmp .ge 52, 3) := by decide +kernel
theorem dX5_fuse_31 : decode cX5_fuse 31 = .ok (.iload_n 3, 1) := by decide +kernel
theorem dX5_fuse_32 : decode cX5_fuse 32 = .ok (.ifCond .eq 48, 3) := by decide +kernel
theorem dX5_fuse_35 : decode cX5_fuse 35 = .ok (.aload_n 0, 1) := by decide +kernel
theorem dX5_fuse_36 : decode cX5_fuse 36 = .ok (.getfield 32, 3) := by decide +kernel
theorem dX5_fuse_39 : decode cX5_fuse 39 = .ok (.iload 5, 2) := by decide +kernel
theorem dX5_fuse_41 : decode cX5_fuse 41 = .ok (.iload 4, 2) := by decide +kernel
theorem dX5_fuse_43 : decode cX5_fuse 43 = .ok (.iconst 5, 1) := by decide +kernel
theorem dX5_fuse_44 : decode cX5_fuse 44 = .ok (.irem, 1) := by decide +kernel
theorem dX5_fuse_45 : decode cX5_fuse 45 = .ok (.iastore, 1) := by decide +kernel
theorem dX5_fuse_46 : decode cX5_fuse 46 = .ok (.iload 4, 2) := by decide +kernel
theorem dX5_fuse_48 : decode cX5_fuse 48 = .ok (.iconst 5, 1) := by decide +kernel
theorem dX5_fuse_49 : decode cX5_fuse 49 = .ok (.idiv, 1) := by decide +kernel
theorem dX5_fuse_50 : decode cX5_fuse 50 = .ok (.istore 4, 2) := by decide +kernel
theorem dX5_fuse_52 : decode cX5_fuse 52 = .ok (.iload 5, 2) := by decide +kernel
theorem dX5_fuse_54 : decode cX5_fuse 54 = .ok (.iload_n 2, 1) := by decide +kernel
theorem dX5_fuse_55 : decode cX5_fuse 55 = .ok (.if_icmp .ge 13, 3) := by decide +kernel
theorem dX5_fuse_58 : decode cX5_fuse 58 = .ok (.aload_n 0, 1) := by decide +kernel
theorem dX5_fuse_59 : decode cX5_fuse 59 = .ok (.getfield 32, 3) := by decide +kernel
theorem dX5_fuse_62 : decode cX5_fuse 62 = .ok (.iload 5, 2) := by decide +kernel
theorem dX5_fuse_64 : decode cX5_fuse 64 = .ok (.iaload, 1) := by decide +kernel
theorem dX5_fuse_65 : decode cX5_fuse 65 = .ok (.ifCond .le 7, 3) := by decide +kernel
theorem dX5_fuse_68 : decode cX5_fuse 68 = .ok (.iconst 1, 1) := by decide +kernel
theorem dX5_fuse_69 : decode cX5_fuse 69 = .ok (.goto 4, 3) := by decide +kernel
theorem dX5_fuse_72 : decode cX5_fuse 72 = .ok (.iconst 0, 1) := by decide +kernel
theorem dX5_fuse_73 : decode cX5_fuse 73 = .ok (.istore_n 3, 1) := by decide +kernel
theorem dX5_fuse_74 : decode cX5_fuse 74 = .ok (.iinc 5 1, 3) := by decide +kernel
theorem dX5_fuse_77 : decode cX5_fuse 77 = .ok (.goto (-52), 3) := by decide +kernel
theorem dX5_fuse_80 : decode cX5_fuse 80 = .ok (.iload_n 3, 1) := by decide +kernel
theorem dX5_fuse_81 : decode cX5_fuse 81 = .ok (.ifCond .ne 5, 3) := by decide +kernel
theorem dX5_fuse_84 : decode cX5_fuse 84 = .ok (.iconst (-1), 1) := by decide +kernel
theorem dX5_fuse_85 : decode cX5_fuse 85 = .ok (.ireturn, 1) := by decide +kernel
theorem dX5_fuse_86 : decode cX5_fuse 86 = .ok (.aload_n 0, 1) := by decide +kernel
theorem dX5_fuse_87 : decode cX5_fuse 87 = .ok (.invokevirtual 75, 3) := by decide +kernel
theorem dX5_fuse_90 : decode cX5_fuse 90 = .ok (.ifCond .ne 6, 3) := by decide +kernel
theorem dX5_fuse_93 : decode cX5_fuse 93 = .ok (.bipush (-2), 2) := by decide +kernel
theorem dX5_fuse_95 : decode cX5_fuse 95 = .ok (.ireturn, 1) := by decide +kernel
theorem dX5_fuse_96 : decode cX5_fuse 96 = .ok (.aload_n 0, 1) := by decide +kernel
theorem dX5_fuse_97 : decode cX5_fuse 97 = .ok (.getfield 32, 3) := by decide +kernel
theorem dX5_fuse_100 : decode cX5_fuse 100 = .ok (.iconst 0, 1) := by decide +kernel
theorem dX5_fuse_101 : decode cX5_fuse 101 = .ok (.iconst 0, 1) := by decide +kernel
theorem dX5_fuse_102 : decode cX5_fuse 102 = .ok (.iastore, 1) := by decide +kernel
theorem dX5_fuse_103 : decode cX5_fuse 103 = .ok (.iconst 0, 1) := by decide +kernel
theorem dX5_fuse_104 : decode cX5_fuse 104 = .ok (.istore 5, 2) := by decide +kernel
theorem dX5_fuse_106 : decode cX5_fuse 106 = .ok (.iload 5, 2) := by decide +kernel
theorem dX5_fuse_108 : decode cX5_fuse 108 = .ok (.bipush 64, 2) := by decide +kernel
theorem dX5_fuse_110 : decode cX5_fuse 110 = .ok (.if_icmp .ge 23, 3) := by decide +kernel
theorem dX5_fuse_113 : decode cX5_fuse 113 = .ok (.aload_n 0, 1) := by decide +kernel
theorem dX5_fuse_114 : decode cX5_fuse 114 = .ok (.getfield 17, 3) := by decide +kernel
theorem dX5_fuse_117 : decode cX5_fuse 117 = .ok (.iload 5, 2) := by decide +kernel
theorem dX5_fuse_119 : decode cX5_fuse 119 = .ok (.aload_n 0, 1) := by decide +kernel
theorem dX5_fuse_120 : decode cX5_fuse 120 = .ok (.getfield 13, 3) := by decide +kernel
theorem dX5_fuse_123 : decode cX5_fuse 123 = .ok (.iload 5, 2) := by decide +kernel
theorem dX5_fuse_125 : decode cX5_fuse 125 = .ok (.iaload, 1) := by decide +kernel
theorem dX5_fuse_126 : decode cX5_fuse 126 = .ok (.iastore, 1) := by decide +kernel
theorem dX5_fuse_127 : decode cX5_fuse 127 = .ok (.iinc 5 1, 3) := by decide +kernel
theorem dX5_fuse_130 : decode cX5_fuse 130 = .ok (.goto (-24), 3) := by decide +kernel
theorem dX5_fuse_133 : decode cX5_fuse 133 = .ok (.iconst 0, 1) := by decide +kernel
theorem dX5_fuse_134 : decode cX5_fuse 134 = .ok (.istore 5, 2) := by decide +kernel
theorem dX5_fuse_136 : decode cX5_fuse 136 = .ok (.iload 5, 2) := by decide +kernel
theorem dX5_fuse_138 : decode cX5_fuse 138 = .ok (.aload_n 0, 1) := by decide +kernel
theorem dX5_fuse_139 : decode cX5_fuse 139 = .ok (.getfield 7, 3) := by decide +kernel
theorem dX5_fuse_142 : decode cX5_fuse 142 = .ok (.if_icmp .ge 53, 3) := by decide +kernel
theorem dX5_fuse_145 : decode cX5_fuse 145 = .ok (.iconst 0, 1) := by decide +kernel
theorem dX5_fuse_146 : decode cX5_fuse 146 = .ok (.istore 6, 2) := by decide +kernel
theorem dX5_fuse_148 : decode cX5_fuse 148 = .ok (.iload 6, 2) := by decide +kernel
theorem dX5_fuse_150 : decode cX5_fuse 150 = .ok (.aload_n 0, 1) := by decide +kernel
theorem dX5_fuse_151 : decode cX5_fuse 151 = .ok (.getfield 7, 3) := by decide +kernel
theorem dX5_fuse_154 : decode cX5_fuse 154 = .ok (.if_icmp .ge 35, 3) := by decide +kernel
theorem dX5_fuse_157 : decode cX5_fuse 157 = .ok (.aload_n 0, 1) := by decide +kernel
theorem dX5_fuse_158 : decode cX5_fuse 158 = .ok (.getfield 13, 3) := by decide +kernel
theorem dX5_fuse_161 : decode cX5_fuse 161 = .ok (.bipush 8, 2) := by decide +kernel
theorem dX5_fuse_163 : decode cX5_fuse 163 = .ok (.iload 5, 2) := by decide +kernel
theorem dX5_fuse_165 : decode cX5_fuse 165 = .ok (.imul, 1) := by decide +kernel
theorem dX5_fuse_166 : decode cX5_fuse 166 = .ok (.iload 6, 2) := by decide +kernel
theorem dX5_fuse_168 : decode cX5_fuse 168 = .ok (.iadd, 1) := by decide +kernel
theorem dX5_fuse_169 : decode cX5_fuse 169 = .ok (.aload_n 0, 1) := by decide +kernel
theorem dX5_fuse_170 : decode cX5_fuse 170 = .ok (.getfield 32, 3) := by decide +kernel
theorem dX5_fuse_173 : decode cX5_fuse 173 = .ok (.aload_n 0, 1) := by decide +kernel
theorem dX5_fuse_174 : decode cX5_fuse 174 = .ok (.iload 5, 2) := by decide +kernel
theorem dX5_fuse_176 : decode cX5_fuse 176 = .ok (.iload 6, 2) := by decide +kernel
theorem dX5_fuse_178 : decode cX5_fuse 178 = .ok (.invokevirtual 53, 3) := by decide +kernel
theorem dX5_fuse_181 : decode cX5_fuse 181 = .ok (.iaload, 1) := by decide +kernel
theorem dX5_fuse_182 : decode cX5_fuse 182 = .ok (.iastore, 1) := by decide +kernel
theorem dX5_fuse_183 : decode cX5_fuse 183 = .ok (.iinc 6 1, 3) := by decide +kernel
theorem dX5_fuse_186 : decode cX5_fuse 186 = .ok (.goto (-38), 3) := by decide +kernel
theorem dX5_fuse_189 : decode cX5_fuse 189 = .ok (.iinc 5 1, 3) := by decide +kernel
theorem dX5_fuse_192 : decode cX5_fuse 192 = .ok (.goto (-56), 3) := by decide +kernel
theorem dX5_fuse_195 : decode cX5_fuse 195 = .ok (.aload_n 0, 1) := by decide +kernel
theorem dX5_fuse_196 : decode cX5_fuse 196 = .ok (.invokevirtual 75, 3) := by decide +kernel
theorem dX5_fuse_199 : decode cX5_fuse 199 = .ok (.ifCond .eq 5, 3) := by decide +kernel
theorem dX5_fuse_202 : decode cX5_fuse 202 = .ok (.iconst 1, 1) := by decide +kernel
theorem dX5_fuse_203 : decode cX5_fuse 203 = .ok (.ireturn, 1) := by decide +kernel
theorem dX5_fuse_204 : decode cX5_fuse 204 = .ok (.iconst 0, 1) := by decide +kernel
theorem dX5_fuse_205 : decode cX5_fuse 205 = .ok (.istore 5, 2) := by decide +kernel
theorem dX5_fuse_207 : decode cX5_fuse 207 = .ok (.iload 5, 2) := by decide +kernel
theorem dX5_fuse_209 : decode cX5_fuse 209 = .ok (.bipush 64, 2) := by decide +kernel
theorem dX5_fuse_211 : decode cX5_fuse 211 = .ok (.if_icmp .ge 23, 3) := by decide +kernel
theorem dX5_fuse_214 : decode cX5_fuse 214 = .ok (.aload_n 0, 1) := by decide +kernel
theorem dX5_fuse_215 : decode cX5_fuse 215 = .ok (.getfield 13, 3) := by decide +kernel
theorem dX5_fuse_218 : decode cX5_fuse 218 = .ok (.iload 5, 2) := by decide +kernel
theorem dX5_fuse_220 : decode cX5_fuse 220 = .ok (.aload_n 0, 1) := by decide +kernel
theorem dX5_fuse_221 : decode cX5_fuse 221 = .ok (.getfield 17, 3) := by decide +kernel
theorem dX5_fuse_224 : decode cX5_fuse 224 = .ok (.iload 5, 2) := by decide +kernel
theorem dX5_fuse_226 : decode cX5_fuse 226 = .ok (.iaload, 1) := by decide +kernel
theorem dX5_fuse_227 : decode cX5_fuse 227 = .ok (.iastore, 1) := by decide +kernel
theorem dX5_fuse_228 : decode cX5_fuse 228 = .ok (.iinc 5 1, 3) := by decide +kernel
theorem dX5_fuse_231 : decode cX5_fuse 231 = .ok (.goto (-24), 3) := by decide +kernel
theorem dX5_fuse_234 : decode cX5_fuse 234 = .ok (.iconst 0, 1) := by decide +kernel
theorem dX5_fuse_235 : decode cX5_fuse 235 = .ok (.ireturn, 1) := by decide +kernel
theorem dX5_quotient_0 : decode cX5_quotient 0 = .ok (.aload_n 0, 1) := by decide +kernel
theorem dX5_quotient_1 : decode cX5_quotient 1 = .ok (.iconst 0, 1) := by decide +kernel
theorem dX5_quotient_2 : decode cX5_quotient 2 = .ok (.putfield 42, 3) := by decide +kernel
theorem dX5_quotient_5 : decode cX5_quotient 5 = .ok (.aload_n 0, 1) := by decide +kernel
theorem dX5_quotient_6 : decode cX5_quotient 6 = .ok (.iload_n 1, 1) := by decide +kernel
theorem dX5_quotient_7 : decode cX5_quotient 7 = .ok (.invokevirtual 89, 3) := by decide +kernel
theorem dX5_quotient_10 : decode cX5_quotient 10 = .ok (.ifCond .ne 5, 3) := by decide +kernel
theorem dX5_quotient_13 : decode cX5_quotient 13 = .ok (.iconst (-1), 1) := by decide +kernel
theorem dX5_quotient_14 : decode cX5_quotient 14 = .ok (.ireturn, 1) := by decide +kernel
theorem dX5_quotient_15 : decode cX5_quotient 15 = .ok (.aload_n 0, 1) := by decide +kernel
theorem dX5_quotient_16 : decode cX5_quotient 16 = .ok (.invokevirtual 75, 3) := by decide +kernel
theorem dX5_quotient_19 : decode cX5_quotient 19 = .ok (.ifCond .ne 6, 3) := by decide +kernel
theorem dX5_quotient_22 : decode cX5_quotient 22 = .ok (.bipush (-2), 2) := by decide +kernel
theorem dX5_quotient_24 : decode cX5_quotient 24 = .ok (.ireturn, 1) := by decide +kernel
theorem dX5_quotient_25 : decode cX5_quotient 25 = .ok (.aload_n 0, 1) := by decide +kernel
theorem dX5_quotient_26 : decode cX5_quotient 26 = .ok (.iload_n 1, 1) := by decide +kernel
theorem dX5_quotient_27 : decode cX5_quotient 27 = .ok (.invokevirtual 92, 3) := by decide +kernel
theorem dX5_quotient_30 : decode cX5_quotient 30 = .ok (.istore_n 2, 1) := by decide +kernel
theorem dX5_quotient_31 : decode cX5_quotient 31 = .ok (.iconst 0, 1) := by decide +kernel
theorem dX5_quotient_32 : decode cX5_quotient 32 = .ok (.istore_n 3, 1) := by decide +kernel
theorem dX5_quotient_33 : decode cX5_quotient 33 = .ok (.iconst 0, 1) := by decide +kernel
theorem dX5_quotient_34 : decode cX5_quotient 34 = .ok (.istore 4, 2) := by decide +kernel
theorem dX5_quotient_36 : decode cX5_quotient 36 = .ok (.iload 4, 2) := by decide +kernel
theorem dX5_quotient_38 : decode cX5_quotient 38 = .ok (.aload_n 0, 1) := by decide +kernel
theorem dX5_quotient_39 : decode cX5_quotient 39 = .ok (.getfield 7, 3) := by decide +kernel
theorem dX5_quotient_42 : decode cX5_quotient 42 = .ok (.if_icmp .ge 93, 3) := by decide +kernel
theorem dX5_quotient_45 : decode cX5_quotient 45 = .ok (.aload_n 0, 1) := by decide +kernel
theorem dX5_quotient_46 : decode cX5_quotient 46 = .ok (.getfield 29, 3) := by decide +kernel
theorem dX5_quotient_49 : decode cX5_quotient 49 = .ok (.iload 4, 2) := by decide +kernel
theorem dX5_quotient_51 : decode cX5_quotient 51 = .ok (.iload_n 3, 1) := by decide +kernel
theorem dX5_quotient_52 : decode cX5_quotient 52 = .ok (.iastore, 1) := by decide +kernel
theorem dX5_quotient_53 : decode cX5_quotient 53 = .ok (.iload 4, 2) := by decide +kernel
theorem dX5_quotient_55 : decode cX5_quotient 55 = .ok (.iconst 1, 1) := by decide +kernel
theorem dX5_quotient_56 : decode cX5_quotient 56 = .ok (.isub, 1) := by decide +kernel
theorem dX5_quotient_57 : decode cX5_quotient 57 = .ok (.istore 5, 2) := by decide +kernel
theorem dX5_quotient_59 : decode cX5_quotient 59 = .ok (.iload 5, 2) := by decide +kernel
theorem dX5_quotient_61 : decode cX5_quotient 61 = .ok (.ifCond .lt 49, 3) := by decide +kernel
theorem dX5_quotient_64 : decode cX5_quotient 64 = .ok (.aload_n 0, 1) := by decide +kernel
theorem dX5_quotient_65 : decode cX5_quotient 65 = .ok (.getfield 29, 3) := by decide +kernel
theorem dX5_quotient_68 : decode cX5_quotient 68 = .ok (.iload 4, 2) := by decide +kernel
theorem dX5_quotient_70 : decode cX5_quotient 70 = .ok (.iload_n 2, 1) := by decide +kernel
theorem dX5_quotient_71 : decode cX5_quotient 71 = .ok (.aload_n 0, 1) := by decide +kernel
theorem dX5_quotient_72 : decode cX5_quotient 72 = .ok (.iload 5, 2) := by decide +kernel
theorem dX5_quotient_74 : decode cX5_quotient 74 = .ok (.iload 4, 2) := by decide +kernel
theorem dX5_quotient_76 : decode cX5_quotient 76 = .ok (.invokevirtual 53, 3) := by decide +kernel
theorem dX5_quotient_79 : decode cX5_quotient 79 = .ok (.ishr, 1) := by decide +kernel
theorem dX5_quotient_80 : decode cX5_quotient 80 = .ok (.iconst 1, 1) := by decide +kernel
theorem dX5_quotient_81 : decode cX5_quotient 81 = .ok (.iand, 1) := by decide +kernel
theorem dX5_quotient_82 : decode cX5_quotient 82 = .ok (.iconst 1, 1) := by decide +kernel
theorem dX5_quotient_83 : decode cX5_quotient 83 = .ok (.if_icmp .ne 13, 3) := by decide +kernel
theorem dX5_quotient_86 : decode cX5_quotient 86 = .ok (.aload_n 0, 1) := by decide +kernel
theorem dX5_quotient_87 : decode cX5_quotient 87 = .ok (.getfield 29, 3) := by decide +kernel
theorem dX5_quotient_90 : decode cX5_quotient 90 = .ok (.iload 5, 2) := by decide +kernel
theorem dX5_quotient_92 : decode cX5_quotient 92 = .ok (.iaload, 1) := by decide +kernel
theorem dX5_quotient_93 : decode cX5_quotient 93 = .ok (.goto 10, 3) := by decide +kernel
theorem dX5_quotient_96 : decode cX5_quotient 96 = .ok (.aload_n 0, 1) := by decide +kernel
theorem dX5_quotient_97 : decode cX5_quotient 97 = .ok (.getfield 29, 3) := by decide +kernel
theorem dX5_quotient_100 : decode cX5_quotient 100 = .ok (.iload 4, 2) := by decide +kernel
theorem dX5_quotient_102 : decode cX5_quotient 102 = .ok (.iaload, 1) := by decide +kernel
theorem dX5_quotient_103 : decode cX5_quotient 103 = .ok (.iastore, 1) := by decide +kernel
theorem dX5_quotient_104 : decode cX5_quotient 104 = .ok (.iinc 5 (-1), 3) := by decide +kernel
theorem dX5_quotient_107 : decode cX5_quotient 107 = .ok (.goto (-48), 3) := by decide +kernel
theorem dX5_quotient_110 : decode cX5_quotient 110 = .ok (.iload_n 3, 1) := by decide +kernel
theorem dX5_quotient_111 : decode cX5_quotient 111 = .ok (.aload_n 0, 1) := by decide +kernel
theorem dX5_quotient_112 : decode cX5_quotient 112 = .ok (.getfield 29, 3) := by decide +kernel
theorem dX5_quotient_115 : decode cX5_quotient 115 = .ok (.iload 4, 2) := by decide +kernel
theorem dX5_quotient_117 : decode cX5_quotient 117 = .ok (.iaload, 1) := by decide +kernel
theorem dX5_quotient_118 : decode cX5_quotient 118 = .ok (.iload_n 3, 1) := by decide +kernel
theorem dX5_quotient_119 : decode cX5_quotient 119 = .ok (.if_icmp .ne 7, 3) := by decide +kernel
theorem dX5_quotient_122 : decode cX5_quotient 122 = .ok (.iconst 1, 1) := by decide +kernel
theorem dX5_quotient_123 : decode cX5_quotient 123 = .ok (.goto 4, 3) := by decide +kernel
theorem dX5_quotient_126 : decode cX5_quotient 126 = .ok (.iconst 0, 1) := by decide +kernel
theorem dX5_quotient_127 : decode cX5_quotient 127 = .ok (.iadd, 1) := by decide +kernel
theorem dX5_quotient_128 : decode cX5_quotient 128 = .ok (.istore_n 3, 1) := by decide +kernel
theorem dX5_quotient_129 : decode cX5_quotient 129 = .ok (.iinc 4 1, 3) := by decide +kernel
theorem dX5_quotient_132 : decode cX5_quotient 132 = .ok (.goto (-96), 3) := by decide +kernel
theorem dX5_quotient_135 : decode cX5_quotient 135 = .ok (.aload_n 0, 1) := by decide +kernel
theorem dX5_quotient_136 : decode cX5_quotient 136 = .ok (.invokevirtual 61, 3) := by decide +kernel
theorem dX5_quotient_139 : decode cX5_quotient 139 = .ok (.istore 4, 2) := by decide +kernel
theorem dX5_quotient_141 : decode cX5_quotient 141 = .ok (.iconst 0, 1) := by decide +kernel
theorem dX5_quotient_142 : decode cX5_quotient 142 = .ok (.istore 5, 2) := by decide +kernel
theorem dX5_quotient_144 : decode cX5_quotient 144 = .ok (.iload 5, 2) := by decide +kernel
theorem dX5_quotient_146 : decode cX5_quotient 146 = .ok (.iconst 5, 1) := by decide +kernel
theorem dX5_quotient_147 : decode cX5_quotient 147 = .ok (.if_icmp .ge 18, 3) := by decide +kernel
theorem dX5_quotient_150 : decode cX5_quotient 150 = .ok (.aload_n 0, 1) := by decide +kernel
theorem dX5_quotient_151 : decode cX5_quotient 151 = .ok (.getfield 32, 3) := by decide +kernel
theorem dX5_quotient_154 : decode cX5_quotient 154 = .ok (.iload 5, 2) := by decide +kernel
theorem dX5_quotient_156 : decode cX5_quotient 156 = .ok (.iload 5, 2) := by decide +kernel
theorem dX5_quotient_158 : decode cX5_quotient 158 = .ok (.iastore, 1) := by decide +kernel
theorem dX5_quotient_159 : decode cX5_quotient 159 = .ok (.iinc 5 1, 3) := by decide +kernel
theorem dX5_quotient_162 : decode cX5_quotient 162 = .ok (.goto (-18), 3) := by decide +kernel
theorem dX5_quotient_165 : decode cX5_quotient 165 = .ok (.iconst 0, 1) := by decide +kernel
theorem dX5_quotient_166 : decode cX5_quotient 166 = .ok (.istore 5, 2) := by decide +kernel
theorem dX5_quotient_168 : decode cX5_quotient 168 = .ok (.iload 5, 2) := by decide +kernel
theorem dX5_quotient_170 : decode cX5_quotient 170 = .ok (.iconst 5, 1) := by decide +kernel
theorem dX5_quotient_171 : decode cX5_quotient 171 = .ok (.if_icmp .ge 192, 3) := by decide +kernel
theorem dX5_quotient_174 : decode cX5_quotient 174 = .ok (.iconst 0, 1) := by decide +kernel
theorem dX5_quotient_175 : decode cX5_quotient 175 = .ok (.istore 6, 2) := by decide +kernel
theorem dX5_quotient_177 : decode cX5_quotient 177 = .ok (.iload 6, 2) := by decide +kernel
theorem dX5_quotient_179 : decode cX5_quotient 179 = .ok (.aload_n 0, 1) := by decide +kernel
theorem dX5_quotient_180 : decode cX5_quotient 180 = .ok (.getfield 7, 3) := by decide +kernel
theorem dX5_quotient_183 : decode cX5_quotient 183 = .ok (.aload_n 0, 1) := by decide +kernel
theorem dX5_quotient_184 : decode cX5_quotient 184 = .ok (.getfield 7, 3) := by decide +kernel
theorem dX5_quotient_187 : decode cX5_quotient 187 = .ok (.imul, 1) := by decide +kernel
theorem dX5_quotient_188 : decode cX5_quotient 188 = .ok (.if_icmp .ge 169, 3) := by decide +kernel
theorem dX5_quotient_191 : decode cX5_quotient 191 = .ok (.iconst 0, 1) := by decide +kernel
theorem dX5_quotient_192 : decode cX5_quotient 192 = .ok (.istore 7, 2) := by decide +kernel
theorem dX5_quotient_194 : decode cX5_quotient 194 = .ok (.iload 7, 2) := by decide +kernel
theorem dX5_quotient_196 : decode cX5_quotient 196 = .ok (.aload_n 0, 1) := by decide +kernel
theorem dX5_quotient_197 : decode cX5_quotient 197 = .ok (.getfield 7, 3) := by decide +kernel
theorem dX5_quotient_200 : decode cX5_quotient 200 = .ok (.aload_n 0, 1) := by decide +kernel
theorem dX5_quotient_201 : decode cX5_quotient 201 = .ok (.getfield 7, 3) := by decide +kernel
theorem dX5_quotient_204 : decode cX5_quotient 204 = .ok (.imul, 1) := by decide +kernel
theorem dX5_quotient_205 : decode cX5_quotient 205 = .ok (.if_icmp .ge 146, 3) := by decide +kernel
theorem dX5_quotient_208 : decode cX5_quotient 208 = .ok (.aload_n 0, 1) := by decide +kernel
theorem dX5_quotient_209 : decode cX5_quotient 209 = .ok (.getfield 29, 3) := by decide +kernel
theorem dX5_quotient_212 : decode cX5_quotient 212 = .ok (.iload 6, 2) := by decide +kernel
theorem dX5_quotient_214 : decode cX5_quotient 214 = .ok (.aload_n 0, 1) := by decide +kernel
theorem dX5_quotient_215 : decode cX5_quotient 215 = .ok (.getfield 7, 3) := by decide +kernel
theorem dX5_quotient_218 : decode cX5_quotient 218 = .ok (.idiv, 1) := by decide +kernel
theorem dX5_quotient_219 : decode cX5_quotient 219 = .ok (.iaload, 1) := by decide +kernel
theorem dX5_quotient_220 : decode cX5_quotient 220 = .ok (.aload_n 0, 1) := by decide +kernel
theorem dX5_quotient_221 : decode cX5_quotient 221 = .ok (.getfield 29, 3) := by decide +kernel
theorem dX5_quotient_224 : decode cX5_quotient 224 = .ok (.iload 7, 2) := by decide +kernel
theorem dX5_quotient_226 : decode cX5_quotient 226 = .ok (.aload_n 0, 1) := by decide +kernel
theorem dX5_quotient_227 : decode cX5_quotient 227 = .ok (.getfield 7, 3) := by decide +kernel
theorem dX5_quotient_230 : decode cX5_quotient 230 = .ok (.idiv, 1) := by decide +kernel
theorem dX5_quotient_231 : decode cX5_quotient 231 = .ok (.iaload, 1) := by decide +kernel
theorem dX5_quotient_232 : decode cX5_quotient 232 = .ok (.if_icmp .ne 34, 3) := by decide +kernel
theorem dX5_quotient_235 : decode cX5_quotient 235 = .ok (.aload_n 0, 1) := by decide +kernel
theorem dX5_quotient_236 : decode cX5_quotient 236 = .ok (.getfield 29, 3) := by decide +kernel
theorem dX5_quotient_239 : decode cX5_quotient 239 = .ok (.iload 6, 2) := by decide +kernel
theorem dX5_quotient_241 : decode cX5_quotient 241 = .ok (.aload_n 0, 1) := by decide +kernel
theorem dX5_quotient_242 : decode cX5_quotient 242 = .ok (.getfield 7, 3) := by decide +kernel
theorem dX5_quotient_245 : decode cX5_quotient 245 = .ok (.irem, 1) := by decide +kernel
theorem dX5_quotient_246 : decode cX5_quotient 246 = .ok (.iaload, 1) := by decide +kernel
theorem dX5_quotient_247 : decode cX5_quotient 247 = .ok (.aload_n 0, 1) := by decide +kernel
theorem dX5_quotient_248 : decode cX5_quotient 248 = .ok (.getfield 29, 3) := by decide +kernel
theorem dX5_quotient_251 : decode cX5_quotient 251 = .ok (.iload 7, 2) := by decide +kernel
theorem dX5_quotient_253 : decode cX5_quotient 253 = .ok (.aload_n 0, 1) := by decide +kernel
theorem dX5_quotient_254 : decode cX5_quotient 254 = .ok (.getfield 7, 3) := by decide +kernel
theorem dX5_quotient_257 : decode cX5_quotient 257 = .ok (.irem, 1) := by decide +kernel
theorem dX5_quotient_258 : decode cX5_quotient 258 = .ok (.iaload, 1) := by decide +kernel
theorem dX5_quotient_259 : decode cX5_quotient 259 = .ok (.if_icmp .ne 7, 3) := by decide +kernel
theorem dX5_quotient_262 : decode cX5_quotient 262 = .ok (.iconst 1, 1) := by decide +kernel
theorem dX5_quotient_263 : decode cX5_quotient 263 = .ok (.goto 4, 3) := by decide +kernel
theorem dX5_quotient_266 : decode cX5_quotient 266 = .ok (.iconst 0, 1) := by decide +kernel
theorem dX5_quotient_267 : decode cX5_quotient 267 = .ok (.istore 8, 2) := by decide +kernel
theorem dX5_quotient_269 : decode cX5_quotient 269 = .ok (.aload_n 0, 1) := by decide +kernel
theorem dX5_quotient_270 : decode cX5_quotient 270 = .ok (.iload 6, 2) := by decide +kernel
theorem dX5_quotient_272 : decode cX5_quotient 272 = .ok (.aload_n 0, 1) := by decide +kernel
theorem dX5_quotient_273 : decode cX5_quotient 273 = .ok (.getfield 7, 3) := by decide +kernel
theorem dX5_quotient_276 : decode cX5_quotient 276 = .ok (.idiv, 1) := by decide +kernel
theorem dX5_quotient_277 : decode cX5_quotient 277 = .ok (.iload 6, 2) := by decide +kernel
theorem dX5_quotient_279 : decode cX5_quotient 279 = .ok (.aload_n 0, 1) := by decide +kernel
theorem dX5_quotient_280 : decode cX5_quotient 280 = .ok (.getfield 7, 3) := by decide +kernel
theorem dX5_quotient_283 : decode cX5_quotient 283 = .ok (.irem, 1) := by decide +kernel
theorem dX5_quotient_284 : decode cX5_quotient 284 = .ok (.invokevirtual 53, 3) := by decide +kernel
theorem dX5_quotient_287 : decode cX5_quotient 287 = .ok (.istore 9, 2) := by decide +kernel
theorem dX5_quotient_289 : decode cX5_quotient 289 = .ok (.aload_n 0, 1) := by decide +kernel
theorem dX5_quotient_290 : decode cX5_quotient 290 = .ok (.iload 7, 2) := by decide +kernel
theorem dX5_quotient_292 : decode cX5_quotient 292 = .ok (.aload_n 0, 1) := by decide +kernel
theorem dX5_quotient_293 : decode cX5_quotient 293 = .ok (.getfield 7, 3) := by decide +kernel
theorem dX5_quotient_296 : decode cX5_quotient 296 = .ok (.idiv, 1) := by decide +kernel
theorem dX5_quotient_297 : decode cX5_quotient 297 = .ok (.iload 7, 2) := by decide +kernel
theorem dX5_quotient_299 : decode cX5_quotient 299 = .ok (.aload_n 0, 1) := by decide +kernel
theorem dX5_quotient_300 : decode cX5_quotient 300 = .ok (.getfield 7, 3) := by decide +kernel
theorem dX5_quotient_303 : decode cX5_quotient 303 = .ok (.irem, 1) := by decide +kernel
theorem dX5_quotient_304 : decode cX5_quotient 304 = .ok (.invokevirtual 53, 3) := by decide +kernel
theorem dX5_quotient_307 : decode cX5_quotient 307 = .ok (.istore 10, 2) := by decide +kernel
theorem dX5_quotient_309 : decode cX5_quotient 309 = .ok (.iload 8, 2) := by decide +kernel
theorem dX5_quotient_311 : decode cX5_quotient 311 = .ok (.ifCond .eq 34, 3) := by decide +kernel
theorem dX5_quotient_314 : decode cX5_quotient 314 = .ok (.aload_n 0, 1) := by decide +kernel
theorem dX5_quotient_315 : decode cX5_quotient 315 = .ok (.getfield 32, 3) := by decide +kernel
theorem dX5_quotient_318 : decode cX5_quotient 318 = .ok (.iload 9, 2) := by decide +kernel
theorem dX5_quotient_320 : decode cX5_quotient 320 = .ok (.iaload, 1) := by decide +kernel
theorem dX5_quotient_321 : decode cX5_quotient 321 = .ok (.aload_n 0, 1) := by decide +kernel
theorem dX5_quotient_322 : decode cX5_quotient 322 = .ok (.getfield 32, 3) := by decide +kernel
theorem dX5_quotient_325 : decode cX5_quotient 325 = .ok (.iload 10, 2) := by decide +kernel
theorem dX5_quotient_327 : decode cX5_quotient 327 = .ok (.iaload, 1) := by decide +kernel
theorem dX5_quotient_328 : decode cX5_quotient 328 = .ok (.if_icmp .le 17, 3) := by decide +kernel
theorem dX5_quotient_331 : decode cX5_quotient 331 = .ok (.aload_n 0, 1) := by decide +kernel
theorem dX5_quotient_332 : decode cX5_quotient 332 = .ok (.getfield 32, 3) := by decide +kernel
theorem dX5_quotient_335 : decode cX5_quotient 335 = .ok (.iload 9, 2) := by decide +kernel
theorem dX5_quotient_337 : decode cX5_quotient 337 = .ok (.aload_n 0, 1) := by decide +kernel
theorem dX5_quotient_338 : decode cX5_quotient 338 = .ok (.getfield 32, 3) := by decide +kernel
theorem dX5_quotient_341 : decode cX5_quotient 341 = .ok (.iload 10, 2) := by decide +kernel
theorem dX5_quotient_343 : decode cX5_quotient 343 = .ok (.iaload, 1) := by decide +kernel
theorem dX5_quotient_344 : decode cX5_quotient 344 = .ok (.iastore, 1) := by decide +kernel
theorem dX5_quotient_345 : decode cX5_quotient 345 = .ok (.iinc 7 1, 3) := by decide +kernel
theorem dX5_quotient_348 : decode cX5_quotient 348 = .ok (.goto (-154), 3) := by decide +kernel
theorem dX5_quotient_351 : decode cX5_quotient 351 = .ok (.iinc 6 1, 3) := by decide +kernel
theorem dX5_quotient_354 : decode cX5_quotient 354 = .ok (.goto (-177), 3) := by decide +kernel
theorem dX5_quotient_357 : decode cX5_quotient 357 = .ok (.iinc 5 1, 3) := by decide +kernel
theorem dX5_quotient_360 : decode cX5_quotient 360 = .ok (.goto (-192), 3) := by decide +kernel
theorem dX5_quotient_363 : decode cX5_quotient 363 = .ok (.iconst 0, 1) := by decide +kernel
theorem dX5_quotient_364 : decode cX5_quotient 364 = .ok (.istore 5, 2) := by decide +kernel
theorem dX5_quotient_366 : decode cX5_quotient 366 = .ok (.iload 5, 2) := by decide +kernel
theorem dX5_quotient_368 : decode cX5_quotient 368 = .ok (.bipush 64, 2) := by decide +kernel
theorem dX5_quotient_370 : decode cX5_quotient 370 = .ok (.if_icmp .ge 23, 3) := by decide +kernel
theorem dX5_quotient_373 : decode cX5_quotient 373 = .ok (.aload_n 0, 1) := by decide +kernel
theorem dX5_quotient_374 : decode cX5_quotient 374 = .ok (.getfield 17, 3) := by decide +kernel
theorem dX5_quotient_377 : decode cX5_quotient 377 = .ok (.iload 5, 2) := by decide +kernel
theorem dX5_quotient_379 : decode cX5_quotient 379 = .ok (.aload_n 0, 1) := by decide +kernel
theorem dX5_quotient_380 : decode cX5_quotient 380 = .ok (.getfield 13, 3) := by decide +kernel
theorem dX5_quotient_383 : decode cX5_quotient 383 = .ok (.iload 5, 2) := by decide +kernel
theorem dX5_quotient_385 : decode cX5_quotient 385 = .ok (.iaload, 1) := by decide +kernel
theorem dX5_quotient_386 : decode cX5_quotient 386 = .ok (.iastore, 1) := by decide +kernel
theorem dX5_quotient_387 : decode cX5_quotient 387 = .ok (.iinc 5 1, 3) := by decide +kernel
theorem dX5_quotient_390 : decode cX5_quotient 390 = .ok (.goto (-24), 3) := by decide +kernel
theorem dX5_quotient_393 : decode cX5_quotient 393 = .ok (.iconst 0, 1) := by decide +kernel
theorem dX5_quotient_394 : decode cX5_quotient 394 = .ok (.istore 5, 2) := by decide +kernel
theorem dX5_quotient_396 : decode cX5_quotient 396 = .ok (.iload 5, 2) := by decide +kernel
theorem dX5_quotient_398 : decode cX5_quotient 398 = .ok (.aload_n 0, 1) := by decide +kernel
theorem dX5_quotient_399 : decode cX5_quotient 399 = .ok (.getfield 7, 3) := by decide +kernel
theorem dX5_quotient_402 : decode cX5_quotient 402 = .ok (.if_icmp .ge 120, 3) := by decide +kernel
theorem dX5_quotient_405 : decode cX5_quotient 405 = .ok (.iconst 0, 1) := by decide +kernel
theorem dX5_quotient_406 : decode cX5_quotient 406 = .ok (.istore 6, 2) := by decide +kernel
theorem dX5_quotient_408 : decode cX5_quotient 408 = .ok (.iload 6, 2) := by decide +kernel
theorem dX5_quotient_410 : decode cX5_quotient 410 = .ok (.aload_n 0, 1) := by decide +kernel
theorem dX5_quotient_411 : decode cX5_quotient 411 = .ok (.getfield 7, 3) := by decide +kernel
theorem dX5_quotient_414 : decode cX5_quotient 414 = .ok (.if_icmp .ge 102, 3) := by decide +kernel
theorem dX5_quotient_417 : decode cX5_quotient 417 = .ok (.aload_n 0, 1) := by decide +kernel
theorem dX5_quotient_418 : decode cX5_quotient 418 = .ok (.getfield 32, 3) := by decide +kernel
theorem dX5_quotient_421 : decode cX5_quotient 421 = .ok (.aload_n 0, 1) := by decide +kernel
theorem dX5_quotient_422 : decode cX5_quotient 422 = .ok (.getfield 17, 3) := by decide +kernel
theorem dX5_quotient_425 : decode cX5_quotient 425 = .ok (.bipush 8, 2) := by decide +kernel
theorem dX5_quotient_427 : decode cX5_quotient 427 = .ok (.iload 5, 2) := by decide +kernel
theorem dX5_quotient_429 : decode cX5_quotient 429 = .ok (.imul, 1) := by decide +kernel
theorem dX5_quotient_430 : decode cX5_quotient 430 = .ok (.iload 6, 2) := by decide +kernel
theorem dX5_quotient_432 : decode cX5_quotient 432 = .ok (.iadd, 1) := by decide +kernel
theorem dX5_quotient_433 : decode cX5_quotient 433 = .ok (.iaload, 1) := by decide +kernel
theorem dX5_quotient_434 : decode cX5_quotient 434 = .ok (.iaload, 1) := by decide +kernel
theorem dX5_quotient_435 : decode cX5_quotient 435 = .ok (.istore 7, 2) := by decide +kernel
theorem dX5_quotient_437 : decode cX5_quotient 437 = .ok (.iconst 0, 1) := by decide +kernel
theorem dX5_quotient_438 : decode cX5_quotient 438 = .ok (.istore 8, 2) := by decide +kernel
theorem dX5_quotient_440 : decode cX5_quotient 440 = .ok (.iconst 0, 1) := by decide +kernel
theorem dX5_quotient_441 : decode cX5_quotient 441 = .ok (.istore 9, 2) := by decide +kernel
theorem dX5_quotient_443 : decode cX5_quotient 443 = .ok (.iload 9, 2) := by decide +kernel
theorem dX5_quotient_445 : decode cX5_quotient 445 = .ok (.iload 7, 2) := by decide +kernel
theorem dX5_quotient_447 : decode cX5_quotient 447 = .ok (.if_icmp .ge 38, 3) := by decide +kernel
theorem dX5_quotient_450 : decode cX5_quotient 450 = .ok (.iload 8, 2) := by decide +kernel
theorem dX5_quotient_452 : decode cX5_quotient 452 = .ok (.iload 9, 2) := by decide +kernel
theorem dX5_quotient_454 : decode cX5_quotient 454 = .ok (.iload 4, 2) := by decide +kernel
theorem dX5_quotient_456 : decode cX5_quotient 456 = .ok (.if_icmp .ge 19, 3) := by decide +kernel
theorem dX5_quotient_459 : decode cX5_quotient 459 = .ok (.aload_n 0, 1) := by decide +kernel
theorem dX5_quotient_460 : decode cX5_quotient 460 = .ok (.getfield 32, 3) := by decide +kernel
theorem dX5_quotient_463 : decode cX5_quotient 463 = .ok (.iload 9, 2) := by decide +kernel
theorem dX5_quotient_465 : decode cX5_quotient 465 = .ok (.iaload, 1) := by decide +kernel
theorem dX5_quotient_466 : decode cX5_quotient 466 = .ok (.iload 9, 2) := by decide +kernel
theorem dX5_quotient_468 : decode cX5_quotient 468 = .ok (.if_icmp .ne 7, 3) := by decide +kernel
theorem dX5_quotient_471 : decode cX5_quotient 471 = .ok (.iconst 1, 1) := by decide +kernel
theorem dX5_quotient_472 : decode cX5_quotient 472 = .ok (.goto 4, 3) := by decide +kernel
theorem dX5_quotient_475 : decode cX5_quotient 475 = .ok (.iconst 0, 1) := by decide +kernel
theorem dX5_quotient_476 : decode cX5_quotient 476 = .ok (.iadd, 1) := by decide +kernel
theorem dX5_quotient_477 : decode cX5_quotient 477 = .ok (.istore 8, 2) := by decide +kernel
theorem dX5_quotient_479 : decode cX5_quotient 479 = .ok (.iinc 9 1, 3) := by decide +kernel
theorem dX5_quotient_482 : decode cX5_quotient 482 = .ok (.goto (-39), 3) := by decide +kernel
theorem dX5_quotient_485 : decode cX5_quotient 485 = .ok (.aload_n 0, 1) := by decide +kernel
theorem dX5_quotient_486 : decode cX5_quotient 486 = .ok (.getfield 13, 3) := by decide +kernel
theorem dX5_quotient_489 : decode cX5_quotient 489 = .ok (.bipush 8, 2) := by decide +kernel
theorem dX5_quotient_491 : decode cX5_quotient 491 = .ok (.aload_n 0, 1) := by decide +kernel
theorem dX5_quotient_492 : decode cX5_quotient 492 = .ok (.getfield 29, 3) := by decide +kernel
theorem dX5_quotient_495 : decode cX5_quotient 495 = .ok (.iload 5, 2) := by decide +kernel
theorem dX5_quotient_497 : decode cX5_quotient 497 = .ok (.iaload, 1) := by decide +kernel
theorem dX5_quotient_498 : decode cX5_quotient 498 = .ok (.imul, 1) := by decide +kernel
theorem dX5_quotient_499 : decode cX5_quotient 499 = .ok (.aload_n 0, 1) := by decide +kernel
theorem dX5_quotient_500 : decode cX5_quotient 500 = .ok (.getfield 29, 3) := by decide +kernel
theorem dX5_quotient_503 : decode cX5_quotient 503 = .ok (.iload 6, 2) := by decide +kernel
theorem dX5_quotient_505 : decode cX5_quotient 505 = .ok (.iaload, 1) := by decide +kernel
theorem dX5_quotient_506 : decode cX5_quotient 506 = .ok (.iadd, 1) := by decide +kernel
theorem dX5_quotient_507 : decode cX5_quotient 507 = .ok (.iload 8, 2) := by decide +kernel
theorem dX5_quotient_509 : decode cX5_quotient 509 = .ok (.iastore, 1) := by decide +kernel
theorem dX5_quotient_510 : decode cX5_quotient 510 = .ok (.iinc 6 1, 3) := by decide +kernel
theorem dX5_quotient_513 : decode cX5_quotient 513 = .ok (.goto (-105), 3) := by decide +kernel
theorem dX5_quotient_516 : decode cX5_quotient 516 = .ok (.iinc 5 1, 3) := by decide +kernel
theorem dX5_quotient_519 : decode cX5_quotient 519 = .ok (.goto (-123), 3) := by decide +kernel
theorem dX5_quotient_522 : decode cX5_quotient 522 = .ok (.aload_n 0, 1) := by decide +kernel
theorem dX5_quotient_523 : decode cX5_quotient 523 = .ok (.iload_n 3, 1) := by decide +kernel
theorem dX5_quotient_524 : decode cX5_quotient 524 = .ok (.putfield 7, 3) := by decide +kernel
theorem dX5_quotient_527 : decode cX5_quotient 527 = .ok (.aload_n 0, 1) := by decide +kernel
theorem dX5_quotient_528 : decode cX5_quotient 528 = .ok (.getfield 7, 3) := by decide +kernel
theorem dX5_quotient_531 : decode cX5_quotient 531 = .ok (.ireturn, 1) := by decide +kernel
theorem dX5_weight_0 : decode cX5_weight 0 = .ok (.aload_n 0, 1) := by decide +kernel
theorem dX5_weight_1 : decode cX5_weight 1 = .ok (.iconst 0, 1) := by decide +kernel
theorem dX5_weight_2 : decode cX5_weight 2 = .ok (.putfield 42, 3) := by decide +kernel
theorem dX5_weight_5 : decode cX5_weight 5 = .ok (.iload_n 1, 1) := by decide +kernel
theorem dX5_weight_6 : decode cX5_weight 6 = .ok (.iconst 0, 1) := by decide +kernel
theorem dX5_weight_7 : decode cX5_weight 7 = .ok (.iconst 4, 1) := by decide +kernel
theorem dX5_weight_8 : decode cX5_weight 8 = .ok (.invokestatic 45, 3) := by decide +kernel
theorem dX5_weight_11 : decode cX5_weight 11 = .ok (.ifCond .eq 13, 3) := by decide +kernel
end
section
-- decode rows (by program)
theorem dX5_weight_14 : decode cX5_weight 14 = .ok (.iload_n 2, 1) := by decide +kernel
theorem dX5_weight_15 : decode cX5_weight 15 = .ok (.iconst 0, 1) := by decide +kernel
theorem dX5_weight_16 : decode cX5_weight 16 = .ok (.bipush 9, 2) := by decide +kernel
theorem dX5_weight_18 : decode cX5_weight 18 = .ok (.invokestatic 45, 3) := by decide +kernel
theorem dX5_weight_21 : decode cX5_weight 21 = .ok (.ifCond .ne 5, 3) := by decide +kernel
theorem dX5_weight_24 : decode cX5_weight 24 = .ok (.iconst (-1), 1) := by decide +kernel
theorem dX5_weight_25 : decode cX5_weight 25 = .ok (.ireturn, 1) := by decide +kernel
theorem dX5_weight_26 : decode cX5_weight 26 = .ok (.aload_n 0, 1) := by decide +kernel
theorem dX5_weight_27 : decode cX5_weight 27 = .ok (.getfield 20, 3) := by decide +kernel
theorem dX5_weight_30 : decode cX5_weight 30 = .ok (.iload_n 1, 1) := by decide +kernel
theorem dX5_weight_31 : decode cX5_weight 31 = .ok (.iaload, 1) := by decide +kernel
theorem dX5_weight_32 : decode cX5_weight 32 = .ok (.istore_n 3, 1) := by decide +kernel
theorem dX5_weight_33 : decode cX5_weight 33 = .ok (.aload_n 0, 1) := by decide +kernel
theorem dX5_weight_34 : decode cX5_weight 34 = .ok (.getfield 20, 3) := by decide +kernel
theorem dX5_weight_37 : decode cX5_weight 37 = .ok (.iload_n 1, 1) := by decide +kernel
theorem dX5_weight_38 : decode cX5_weight 38 = .ok (.iload_n 2, 1) := by decide +kernel
theorem dX5_weight_39 : decode cX5_weight 39 = .ok (.iastore, 1) := by decide +kernel
theorem dX5_weight_40 : decode cX5_weight 40 = .ok (.iload_n 3, 1) := by decide +kernel
theorem dX5_weight_41 : decode cX5_weight 41 = .ok (.ireturn, 1) := by decide +kernel
theorem dX5_weights_0 : decode cX5_weights 0 = .ok (.iconst 0, 1) := by decide +kernel
theorem dX5_weights_1 : decode cX5_weights 1 = .ok (.istore_n 1, 1) := by decide +kernel
theorem dX5_weights_2 : decode cX5_weights 2 = .ok (.iconst 0, 1) := by decide +kernel
theorem dX5_weights_3 : decode cX5_weights 3 = .ok (.istore_n 2, 1) := by decide +kernel
theorem dX5_weights_4 : decode cX5_weights 4 = .ok (.iload_n 2, 1) := by decide +kernel
theorem dX5_weights_5 : decode cX5_weights 5 = .ok (.aload_n 0, 1) := by decide +kernel
theorem dX5_weights_6 : decode cX5_weights 6 = .ok (.invokevirtual 61, 3) := by decide +kernel
theorem dX5_weights_9 : decode cX5_weights 9 = .ok (.if_icmp .ge 18, 3) := by decide +kernel
theorem dX5_weights_12 : decode cX5_weights 12 = .ok (.iload_n 1, 1) := by decide +kernel
theorem dX5_weights_13 : decode cX5_weights 13 = .ok (.aload_n 0, 1) := by decide +kernel
theorem dX5_weights_14 : decode cX5_weights 14 = .ok (.getfield 20, 3) := by decide +kernel
theorem dX5_weights_17 : decode cX5_weights 17 = .ok (.iload_n 2, 1) := by decide +kernel
theorem dX5_weights_18 : decode cX5_weights 18 = .ok (.iaload, 1) := by decide +kernel
theorem dX5_weights_19 : decode cX5_weights 19 = .ok (.iadd, 1) := by decide +kernel
theorem dX5_weights_20 : decode cX5_weights 20 = .ok (.istore_n 1, 1) := by decide +kernel
theorem dX5_weights_21 : decode cX5_weights 21 = .ok (.iinc 2 1, 3) := by decide +kernel
theorem dX5_weights_24 : decode cX5_weights 24 = .ok (.goto (-20), 3) := by decide +kernel
theorem dX5_weights_27 : decode cX5_weights 27 = .ok (.iload_n 1, 1) := by decide +kernel
theorem dX5_weights_28 : decode cX5_weights 28 = .ok (.ireturn, 1) := by decide +kernel
theorem dX5_common_0 : decode cX5_common 0 = .ok (.lload_n 0, 1) := by decide +kernel
theorem dX5_common_1 : decode cX5_common 1 = .ok (.lstore 4, 2) := by decide +kernel
theorem dX5_common_3 : decode cX5_common 3 = .ok (.lload_n 2, 1) := by decide +kernel
theorem dX5_common_4 : decode cX5_common 4 = .ok (.lstore 6, 2) := by decide +kernel
theorem dX5_common_6 : decode cX5_common 6 = .ok (.lload 6, 2) := by decide +kernel
theorem dX5_common_8 : decode cX5_common 8 = .ok (.lconst 0, 1) := by decide +kernel
theorem dX5_common_9 : decode cX5_common 9 = .ok (.lcmp, 1) := by decide +kernel
theorem dX5_common_10 : decode cX5_common 10 = .ok (.ifCond .eq 21, 3) := by decide +kernel
theorem dX5_common_13 : decode cX5_common 13 = .ok (.lload 4, 2) := by decide +kernel
theorem dX5_common_15 : decode cX5_common 15 = .ok (.lload 6, 2) := by decide +kernel
theorem dX5_common_17 : decode cX5_common 17 = .ok (.lrem, 1) := by decide +kernel
theorem dX5_common_18 : decode cX5_common 18 = .ok (.lstore 8, 2) := by decide +kernel
theorem dX5_common_20 : decode cX5_common 20 = .ok (.lload 6, 2) := by decide +kernel
theorem dX5_common_22 : decode cX5_common 22 = .ok (.lstore 4, 2) := by decide +kernel
theorem dX5_common_24 : decode cX5_common 24 = .ok (.lload 8, 2) := by decide +kernel
theorem dX5_common_26 : decode cX5_common 26 = .ok (.lstore 6, 2) := by decide +kernel
theorem dX5_common_28 : decode cX5_common 28 = .ok (.goto (-22), 3) := by decide +kernel
theorem dX5_common_31 : decode cX5_common 31 = .ok (.lload 4, 2) := by decide +kernel
theorem dX5_common_33 : decode cX5_common 33 = .ok (.lreturn, 1) := by decide +kernel
theorem dX5_chance_0 : decode cX5_chance 0 = .ok (.aload_n 0, 1) := by decide +kernel
theorem dX5_chance_1 : decode cX5_chance 1 = .ok (.iconst 0, 1) := by decide +kernel
theorem dX5_chance_2 : decode cX5_chance 2 = .ok (.putfield 42, 3) := by decide +kernel
theorem dX5_chance_5 : decode cX5_chance 5 = .ok (.aload_n 0, 1) := by decide +kernel
theorem dX5_chance_6 : decode cX5_chance 6 = .ok (.iload_n 1, 1) := by decide +kernel
theorem dX5_chance_7 : decode cX5_chance 7 = .ok (.invokevirtual 72, 3) := by decide +kernel
theorem dX5_chance_10 : decode cX5_chance 10 = .ok (.ifCond .eq 22, 3) := by decide +kernel
theorem dX5_chance_13 : decode cX5_chance 13 = .ok (.iload_n 2, 1) := by decide +kernel
theorem dX5_chance_14 : decode cX5_chance 14 = .ok (.iconst 0, 1) := by decide +kernel
theorem dX5_chance_15 : decode cX5_chance 15 = .ok (.bipush 6, 2) := by decide +kernel
theorem dX5_chance_17 : decode cX5_chance 17 = .ok (.invokestatic 45, 3) := by decide +kernel
theorem dX5_chance_20 : decode cX5_chance 20 = .ok (.ifCond .eq 12, 3) := by decide +kernel
theorem dX5_chance_23 : decode cX5_chance 23 = .ok (.iload_n 3, 1) := by decide +kernel
theorem dX5_chance_24 : decode cX5_chance 24 = .ok (.iconst 0, 1) := by decide +kernel
theorem dX5_chance_25 : decode cX5_chance 25 = .ok (.iconst 1, 1) := by decide +kernel
theorem dX5_chance_26 : decode cX5_chance 26 = .ok (.invokestatic 45, 3) := by decide +kernel
theorem dX5_chance_29 : decode cX5_chance 29 = .ok (.ifCond .ne 7, 3) := by decide +kernel
theorem dX5_chance_32 : decode cX5_chance 32 = .ok (.ldc2_w 106, 3) := by decide +kernel
theorem dX5_chance_35 : decode cX5_chance 35 = .ok (.lreturn, 1) := by decide +kernel
theorem dX5_chance_36 : decode cX5_chance 36 = .ok (.aload_n 0, 1) := by decide +kernel
theorem dX5_chance_37 : decode cX5_chance 37 = .ok (.invokevirtual 75, 3) := by decide +kernel
theorem dX5_chance_40 : decode cX5_chance 40 = .ok (.ifCond .eq 10, 3) := by decide +kernel
theorem dX5_chance_43 : decode cX5_chance 43 = .ok (.aload_n 0, 1) := by decide +kernel
theorem dX5_chance_44 : decode cX5_chance 44 = .ok (.invokevirtual 108, 3) := by decide +kernel
theorem dX5_chance_47 : decode cX5_chance 47 = .ok (.ifCond .ne 7, 3) := by decide +kernel
theorem dX5_chance_50 : decode cX5_chance 50 = .ok (.ldc2_w 111, 3) := by decide +kernel
theorem dX5_chance_53 : decode cX5_chance 53 = .ok (.lreturn, 1) := by decide +kernel
theorem dX5_chance_54 : decode cX5_chance 54 = .ok (.lconst 1, 1) := by decide +kernel
theorem dX5_chance_55 : decode cX5_chance 55 = .ok (.lstore 4, 2) := by decide +kernel
theorem dX5_chance_57 : decode cX5_chance 57 = .ok (.iconst 0, 1) := by decide +kernel
theorem dX5_chance_58 : decode cX5_chance 58 = .ok (.istore 6, 2) := by decide +kernel
theorem dX5_chance_60 : decode cX5_chance 60 = .ok (.iload 6, 2) := by decide +kernel
theorem dX5_chance_62 : decode cX5_chance 62 = .ok (.aload_n 0, 1) := by decide +kernel
theorem dX5_chance_63 : decode cX5_chance 63 = .ok (.invokevirtual 61, 3) := by decide +kernel
theorem dX5_chance_66 : decode cX5_chance 66 = .ok (.if_icmp .ge 34, 3) := by decide +kernel
theorem dX5_chance_69 : decode cX5_chance 69 = .ok (.lload 4, 2) := by decide +kernel
theorem dX5_chance_71 : decode cX5_chance 71 = .ok (.lload 4, 2) := by decide +kernel
theorem dX5_chance_73 : decode cX5_chance 73 = .ok (.aload_n 0, 1) := by decide +kernel
theorem dX5_chance_74 : decode cX5_chance 74 = .ok (.iload 6, 2) := by decide +kernel
theorem dX5_chance_76 : decode cX5_chance 76 = .ok (.invokevirtual 82, 3) := by decide +kernel
theorem dX5_chance_79 : decode cX5_chance 79 = .ok (.i2l, 1) := by decide +kernel
theorem dX5_chance_80 : decode cX5_chance 80 = .ok (.invokestatic 113, 3) := by decide +kernel
theorem dX5_chance_83 : decode cX5_chance 83 = .ok (.ldiv, 1) := by decide +kernel
theorem dX5_chance_84 : decode cX5_chance 84 = .ok (.aload_n 0, 1) := by decide +kernel
theorem dX5_chance_85 : decode cX5_chance 85 = .ok (.iload 6, 2) := by decide +kernel
theorem dX5_chance_87 : decode cX5_chance 87 = .ok (.invokevirtual 82, 3) := by decide +kernel
theorem dX5_chance_90 : decode cX5_chance 90 = .ok (.i2l, 1) := by decide +kernel
theorem dX5_chance_91 : decode cX5_chance 91 = .ok (.lmul, 1) := by decide +kernel
theorem dX5_chance_92 : decode cX5_chance 92 = .ok (.lstore 4, 2) := by decide +kernel
theorem dX5_chance_94 : decode cX5_chance 94 = .ok (.iinc 6 1, 3) := by decide +kernel
theorem dX5_chance_97 : decode cX5_chance 97 = .ok (.goto (-37), 3) := by decide +kernel
theorem dX5_chance_100 : decode cX5_chance 100 = .ok (.iconst 0, 1) := by decide +kernel
theorem dX5_chance_101 : decode cX5_chance 101 = .ok (.istore 6, 2) := by decide +kernel
theorem dX5_chance_103 : decode cX5_chance 103 = .ok (.iload 6, 2) := by decide +kernel
theorem dX5_chance_105 : decode cX5_chance 105 = .ok (.bipush 8, 2) := by decide +kernel
theorem dX5_chance_107 : decode cX5_chance 107 = .ok (.if_icmp .ge 26, 3) := by decide +kernel
theorem dX5_chance_110 : decode cX5_chance 110 = .ok (.aload_n 0, 1) := by decide +kernel
theorem dX5_chance_111 : decode cX5_chance 111 = .ok (.getfield 35, 3) := by decide +kernel
theorem dX5_chance_114 : decode cX5_chance 114 = .ok (.iload 6, 2) := by decide +kernel
theorem dX5_chance_116 : decode cX5_chance 116 = .ok (.iload 6, 2) := by decide +kernel
theorem dX5_chance_118 : decode cX5_chance 118 = .ok (.ifCond .ne 7, 3) := by decide +kernel
theorem dX5_chance_121 : decode cX5_chance 121 = .ok (.lconst 1, 1) := by decide +kernel
theorem dX5_chance_122 : decode cX5_chance 122 = .ok (.goto 4, 3) := by decide +kernel
theorem dX5_chance_125 : decode cX5_chance 125 = .ok (.lconst 0, 1) := by decide +kernel
theorem dX5_chance_126 : decode cX5_chance 126 = .ok (.lastore, 1) := by decide +kernel
theorem dX5_chance_127 : decode cX5_chance 127 = .ok (.iinc 6 1, 3) := by decide +kernel
theorem dX5_chance_130 : decode cX5_chance 130 = .ok (.goto (-27), 3) := by decide +kernel
theorem dX5_chance_133 : decode cX5_chance 133 = .ok (.lconst 1, 1) := by decide +kernel
theorem dX5_chance_134 : decode cX5_chance 134 = .ok (.lstore 6, 2) := by decide +kernel
theorem dX5_chance_136 : decode cX5_chance 136 = .ok (.iconst 0, 1) := by decide +kernel
theorem dX5_chance_137 : decode cX5_chance 137 = .ok (.istore 8, 2) := by decide +kernel
theorem dX5_chance_139 : decode cX5_chance 139 = .ok (.iload 8, 2) := by decide +kernel
theorem dX5_chance_141 : decode cX5_chance 141 = .ok (.iload_n 2, 1) := by decide +kernel
theorem dX5_chance_142 : decode cX5_chance 142 = .ok (.if_icmp .ge 147, 3) := by decide +kernel
theorem dX5_chance_145 : decode cX5_chance 145 = .ok (.iconst 0, 1) := by decide +kernel
theorem dX5_chance_146 : decode cX5_chance 146 = .ok (.istore 9, 2) := by decide +kernel
theorem dX5_chance_148 : decode cX5_chance 148 = .ok (.iload 9, 2) := by decide +kernel
theorem dX5_chance_150 : decode cX5_chance 150 = .ok (.aload_n 0, 1) := by decide +kernel
theorem dX5_chance_151 : decode cX5_chance 151 = .ok (.getfield 7, 3) := by decide +kernel
theorem dX5_chance_154 : decode cX5_chance 154 = .ok (.if_icmp .ge 84, 3) := by decide +kernel
theorem dX5_chance_157 : decode cX5_chance 157 = .ok (.aload_n 0, 1) := by decide +kernel
theorem dX5_chance_158 : decode cX5_chance 158 = .ok (.getfield 39, 3) := by decide +kernel
theorem dX5_chance_161 : decode cX5_chance 161 = .ok (.iload 9, 2) := by decide +kernel
theorem dX5_chance_163 : decode cX5_chance 163 = .ok (.lconst 0, 1) := by decide +kernel
theorem dX5_chance_164 : decode cX5_chance 164 = .ok (.lastore, 1) := by decide +kernel
theorem dX5_chance_165 : decode cX5_chance 165 = .ok (.iconst 0, 1) := by decide +kernel
theorem dX5_chance_166 : decode cX5_chance 166 = .ok (.istore 10, 2) := by decide +kernel
theorem dX5_chance_168 : decode cX5_chance 168 = .ok (.iload 10, 2) := by decide +kernel
theorem dX5_chance_170 : decode cX5_chance 170 = .ok (.aload_n 0, 1) := by decide +kernel
theorem dX5_chance_171 : decode cX5_chance 171 = .ok (.getfield 7, 3) := by decide +kernel
theorem dX5_chance_174 : decode cX5_chance 174 = .ok (.if_icmp .ge 58, 3) := by decide +kernel
theorem dX5_chance_177 : decode cX5_chance 177 = .ok (.aload_n 0, 1) := by decide +kernel
theorem dX5_chance_178 : decode cX5_chance 178 = .ok (.getfield 39, 3) := by decide +kernel
theorem dX5_chance_181 : decode cX5_chance 181 = .ok (.iload 9, 2) := by decide +kernel
theorem dX5_chance_183 : decode cX5_chance 183 = .ok (.dup2, 1) := by decide +kernel
theorem dX5_chance_184 : decode cX5_chance 184 = .ok (.laload, 1) := by decide +kernel
theorem dX5_chance_185 : decode cX5_chance 185 = .ok (.aload_n 0, 1) := by decide +kernel
theorem dX5_chance_186 : decode cX5_chance 186 = .ok (.getfield 35, 3) := by decide +kernel
theorem dX5_chance_189 : decode cX5_chance 189 = .ok (.iload 10, 2) := by decide +kernel
theorem dX5_chance_191 : decode cX5_chance 191 = .ok (.laload, 1) := by decide +kernel
theorem dX5_chance_192 : decode cX5_chance 192 = .ok (.aload_n 0, 1) := by decide +kernel
theorem dX5_chance_193 : decode cX5_chance 193 = .ok (.getfield 20, 3) := by decide +kernel
theorem dX5_chance_196 : decode cX5_chance 196 = .ok (.aload_n 0, 1) := by decide +kernel
theorem dX5_chance_197 : decode cX5_chance 197 = .ok (.iload 10, 2) := by decide +kernel
theorem dX5_chance_199 : decode cX5_chance 199 = .ok (.iload 9, 2) := by decide +kernel
theorem dX5_chance_201 : decode cX5_chance 201 = .ok (.invokevirtual 53, 3) := by decide +kernel
theorem dX5_chance_204 : decode cX5_chance 204 = .ok (.iaload, 1) := by decide +kernel
theorem dX5_chance_205 : decode cX5_chance 205 = .ok (.i2l, 1) := by decide +kernel
theorem dX5_chance_206 : decode cX5_chance 206 = .ok (.lmul, 1) := by decide +kernel
theorem dX5_chance_207 : decode cX5_chance 207 = .ok (.lload 4, 2) := by decide +kernel
theorem dX5_chance_209 : decode cX5_chance 209 = .ok (.aload_n 0, 1) := by decide +kernel
theorem dX5_chance_210 : decode cX5_chance 210 = .ok (.aload_n 0, 1) := by decide +kernel
theorem dX5_chance_211 : decode cX5_chance 211 = .ok (.iload 10, 2) := by decide +kernel
theorem dX5_chance_213 : decode cX5_chance 213 = .ok (.iload 9, 2) := by decide +kernel
theorem dX5_chance_215 : decode cX5_chance 215 = .ok (.invokevirtual 53, 3) := by decide +kernel
theorem dX5_chance_218 : decode cX5_chance 218 = .ok (.invokevirtual 82, 3) := by decide +kernel
theorem dX5_chance_221 : decode cX5_chance 221 = .ok (.i2l, 1) := by decide +kernel
theorem dX5_chance_222 : decode cX5_chance 222 = .ok (.ldiv, 1) := by decide +kernel
theorem dX5_chance_223 : decode cX5_chance 223 = .ok (.lmul, 1) := by decide +kernel
theorem dX5_chance_224 : decode cX5_chance 224 = .ok (.ladd, 1) := by decide +kernel
theorem dX5_chance_225 : decode cX5_chance 225 = .ok (.lastore, 1) := by decide +kernel
theorem dX5_chance_226 : decode cX5_chance 226 = .ok (.iinc 10 1, 3) := by decide +kernel
theorem dX5_chance_229 : decode cX5_chance 229 = .ok (.goto (-61), 3) := by decide +kernel
theorem dX5_chance_232 : decode cX5_chance 232 = .ok (.iinc 9 1, 3) := by decide +kernel
theorem dX5_chance_235 : decode cX5_chance 235 = .ok (.goto (-87), 3) := by decide +kernel
theorem dX5_chance_238 : decode cX5_chance 238 = .ok (.iconst 0, 1) := by decide +kernel
theorem dX5_chance_239 : decode cX5_chance 239 = .ok (.istore 9, 2) := by decide +kernel
theorem dX5_chance_241 : decode cX5_chance 241 = .ok (.iload 9, 2) := by decide +kernel
theorem dX5_chance_243 : decode cX5_chance 243 = .ok (.aload_n 0, 1) := by decide +kernel
theorem dX5_chance_244 : decode cX5_chance 244 = .ok (.getfield 7, 3) := by decide +kernel
theorem dX5_chance_247 : decode cX5_chance 247 = .ok (.if_icmp .ge 23, 3) := by decide +kernel
theorem dX5_chance_250 : decode cX5_chance 250 = .ok (.aload_n 0, 1) := by decide +kernel
theorem dX5_chance_251 : decode cX5_chance 251 = .ok (.getfield 35, 3) := by decide +kernel
theorem dX5_chance_254 : decode cX5_chance 254 = .ok (.iload 9, 2) := by decide +kernel
theorem dX5_chance_256 : decode cX5_chance 256 = .ok (.aload_n 0, 1) := by decide +kernel
theorem dX5_chance_257 : decode cX5_chance 257 = .ok (.getfield 39, 3) := by decide +kernel
theorem dX5_chance_260 : decode cX5_chance 260 = .ok (.iload 9, 2) := by decide +kernel
theorem dX5_chance_262 : decode cX5_chance 262 = .ok (.laload, 1) := by decide +kernel
theorem dX5_chance_263 : decode cX5_chance 263 = .ok (.lastore, 1) := by decide +kernel
theorem dX5_chance_264 : decode cX5_chance 264 = .ok (.iinc 9 1, 3) := by decide +kernel
theorem dX5_chance_267 : decode cX5_chance 267 = .ok (.goto (-26), 3) := by decide +kernel
theorem dX5_chance_270 : decode cX5_chance 270 = .ok (.lload 6, 2) := by decide +kernel
theorem dX5_chance_272 : decode cX5_chance 272 = .ok (.aload_n 0, 1) := by decide +kernel
theorem dX5_chance_273 : decode cX5_chance 273 = .ok (.invokevirtual 108, 3) := by decide +kernel
theorem dX5_chance_276 : decode cX5_chance 276 = .ok (.i2l, 1) := by decide +kernel
theorem dX5_chance_277 : decode cX5_chance 277 = .ok (.lload 4, 2) := by decide +kernel
theorem dX5_chance_279 : decode cX5_chance 279 = .ok (.lmul, 1) := by decide +kernel
theorem dX5_chance_280 : decode cX5_chance 280 = .ok (.lmul, 1) := by decide +kernel
theorem dX5_chance_281 : decode cX5_chance 281 = .ok (.lstore 6, 2) := by decide +kernel
theorem dX5_chance_283 : decode cX5_chance 283 = .ok (.iinc 8 1, 3) := by decide +kernel
theorem dX5_chance_286 : decode cX5_chance 286 = .ok (.goto (-147), 3) := by decide +kernel
theorem dX5_chance_289 : decode cX5_chance 289 = .ok (.lconst 0, 1) := by decide +kernel
theorem dX5_chance_290 : decode cX5_chance 290 = .ok (.lstore 8, 2) := by decide +kernel
theorem dX5_chance_292 : decode cX5_chance 292 = .ok (.iconst 0, 1) := by decide +kernel
theorem dX5_chance_293 : decode cX5_chance 293 = .ok (.istore 10, 2) := by decide +kernel
theorem dX5_chance_295 : decode cX5_chance 295 = .ok (.iload 10, 2) := by decide +kernel
theorem dX5_chance_297 : decode cX5_chance 297 = .ok (.aload_n 0, 1) := by decide +kernel
theorem dX5_chance_298 : decode cX5_chance 298 = .ok (.getfield 7, 3) := by decide +kernel
theorem dX5_chance_301 : decode cX5_chance 301 = .ok (.if_icmp .ge 36, 3) := by decide +kernel
theorem dX5_chance_304 : decode cX5_chance 304 = .ok (.lload 8, 2) := by decide +kernel
theorem dX5_chance_306 : decode cX5_chance 306 = .ok (.aload_n 0, 1) := by decide +kernel
theorem dX5_chance_307 : decode cX5_chance 307 = .ok (.iconst 0, 1) := by decide +kernel
theorem dX5_chance_308 : decode cX5_chance 308 = .ok (.iload 10, 2) := by decide +kernel
theorem dX5_chance_310 : decode cX5_chance 310 = .ok (.invokevirtual 53, 3) := by decide +kernel
theorem dX5_chance_313 : decode cX5_chance 313 = .ok (.iload_n 1, 1) := by decide +kernel
theorem dX5_chance_314 : decode cX5_chance 314 = .ok (.if_icmp .ne 13, 3) := by decide +kernel
theorem dX5_chance_317 : decode cX5_chance 317 = .ok (.aload_n 0, 1) := by decide +kernel
theorem dX5_chance_318 : decode cX5_chance 318 = .ok (.getfield 35, 3) := by decide +kernel
theorem dX5_chance_321 : decode cX5_chance 321 = .ok (.iload 10, 2) := by decide +kernel
theorem dX5_chance_323 : decode cX5_chance 323 = .ok (.laload, 1) := by decide +kernel
theorem dX5_chance_324 : decode cX5_chance 324 = .ok (.goto 4, 3) := by decide +kernel
theorem dX5_chance_327 : decode cX5_chance 327 = .ok (.lconst 0, 1) := by decide +kernel
theorem dX5_chance_328 : decode cX5_chance 328 = .ok (.ladd, 1) := by decide +kernel
theorem dX5_chance_329 : decode cX5_chance 329 = .ok (.lstore 8, 2) := by decide +kernel
theorem dX5_chance_331 : decode cX5_chance 331 = .ok (.iinc 10 1, 3) := by decide +kernel
theorem dX5_chance_334 : decode cX5_chance 334 = .ok (.goto (-39), 3) := by decide +kernel
theorem dX5_chance_337 : decode cX5_chance 337 = .ok (.lload 8, 2) := by decide +kernel
theorem dX5_chance_339 : decode cX5_chance 339 = .ok (.lload 6, 2) := by decide +kernel
theorem dX5_chance_341 : decode cX5_chance 341 = .ok (.invokestatic 113, 3) := by decide +kernel
theorem dX5_chance_344 : decode cX5_chance 344 = .ok (.lstore 10, 2) := by decide +kernel
theorem dX5_chance_346 : decode cX5_chance 346 = .ok (.iload_n 3, 1) := by decide +kernel
theorem dX5_chance_347 : decode cX5_chance 347 = .ok (.ifCond .ne 11, 3) := by decide +kernel
theorem dX5_chance_350 : decode cX5_chance 350 = .ok (.lload 8, 2) := by decide +kernel
theorem dX5_chance_352 : decode cX5_chance 352 = .ok (.lload 10, 2) := by decide +kernel
theorem dX5_chance_354 : decode cX5_chance 354 = .ok (.ldiv, 1) := by decide +kernel
theorem dX5_chance_355 : decode cX5_chance 355 = .ok (.goto 8, 3) := by decide +kernel
theorem dX5_chance_358 : decode cX5_chance 358 = .ok (.lload 6, 2) := by decide +kernel
theorem dX5_chance_360 : decode cX5_chance 360 = .ok (.lload 10, 2) := by decide +kernel
theorem dX5_chance_362 : decode cX5_chance 362 = .ok (.ldiv, 1) := by decide +kernel
theorem dX5_chance_363 : decode cX5_chance 363 = .ok (.lreturn, 1) := by decide +kernel
theorem dX5_root_0 : decode cX5_root 0 = .ok (.iconst 0, 1) := by decide +kernel
theorem dX5_root_1 : decode cX5_root 1 = .ok (.istore_n 1, 1) := by decide +kernel
theorem dX5_root_2 : decode cX5_root 2 = .ok (.iload_n 1, 1) := by decide +kernel
theorem dX5_root_3 : decode cX5_root 3 = .ok (.iload_n 1, 1) := by decide +kernel
theorem dX5_root_4 : decode cX5_root 4 = .ok (.imul, 1) := by decide +kernel
theorem dX5_root_5 : decode cX5_root 5 = .ok (.iload_n 0, 1) := by decide +kernel
theorem dX5_root_6 : decode cX5_root 6 = .ok (.if_icmp .ge 9, 3) := by decide +kernel
theorem dX5_root_9 : decode cX5_root 9 = .ok (.iinc 1 1, 3) := by decide +kernel
theorem dX5_root_12 : decode cX5_root 12 = .ok (.goto (-10), 3) := by decide +kernel
theorem dX5_root_15 : decode cX5_root 15 = .ok (.iload_n 1, 1) := by decide +kernel
theorem dX5_root_16 : decode cX5_root 16 = .ok (.ireturn, 1) := by decide +kernel
theorem dX5_sieved_0 : decode cX5_sieved 0 = .ok (.iload_n 1, 1) := by decide +kernel
theorem dX5_sieved_1 : decode cX5_sieved 1 = .ok (.iload_n 1, 1) := by decide +kernel
theorem dX5_sieved_2 : decode cX5_sieved 2 = .ok (.iload_n 2, 1) := by decide +kernel
theorem dX5_sieved_3 : decode cX5_sieved 3 = .ok (.isub, 1) := by decide +kernel
theorem dX5_sieved_4 : decode cX5_sieved 4 = .ok (.iconst 1, 1) := by decide +kernel
theorem dX5_sieved_5 : decode cX5_sieved 5 = .ok (.isub, 1) := by decide +kernel
theorem dX5_sieved_6 : decode cX5_sieved 6 = .ok (.imul, 1) := by decide +kernel
theorem dX5_sieved_7 : decode cX5_sieved 7 = .ok (.iload_n 0, 1) := by decide +kernel
theorem dX5_sieved_8 : decode cX5_sieved 8 = .ok (.iload_n 1, 1) := by decide +kernel
theorem dX5_sieved_9 : decode cX5_sieved 9 = .ok (.isub, 1) := by decide +kernel
theorem dX5_sieved_10 : decode cX5_sieved 10 = .ok (.iconst 1, 1) := by decide +kernel
theorem dX5_sieved_11 : decode cX5_sieved 11 = .ok (.isub, 1) := by decide +kernel
theorem dX5_sieved_12 : decode cX5_sieved 12 = .ok (.iload_n 3, 1) := by decide +kernel
theorem dX5_sieved_13 : decode cX5_sieved 13 = .ok (.imul, 1) := by decide +kernel
theorem dX5_sieved_14 : decode cX5_sieved 14 = .ok (.if_icmp .eq 5, 3) := by decide +kernel
theorem dX5_sieved_17 : decode cX5_sieved 17 = .ok (.iconst 1, 1) := by decide +kernel
theorem dX5_sieved_18 : decode cX5_sieved 18 = .ok (.ireturn, 1) := by decide +kernel
theorem dX5_sieved_19 : decode cX5_sieved 19 = .ok (.iload_n 2, 1) := by decide +kernel
theorem dX5_sieved_20 : decode cX5_sieved 20 = .ok (.iload_n 3, 1) := by decide +kernel
theorem dX5_sieved_21 : decode cX5_sieved 21 = .ok (.isub, 1) := by decide +kernel
theorem dX5_sieved_22 : decode cX5_sieved 22 = .ok (.iload_n 2, 1) := by decide +kernel
theorem dX5_sieved_23 : decode cX5_sieved 23 = .ok (.iload_n 3, 1) := by decide +kernel
theorem dX5_sieved_24 : decode cX5_sieved 24 = .ok (.isub, 1) := by decide +kernel
theorem dX5_sieved_25 : decode cX5_sieved 25 = .ok (.imul, 1) := by decide +kernel
theorem dX5_sieved_26 : decode cX5_sieved 26 = .ok (.iconst 4, 1) := by decide +kernel
theorem dX5_sieved_27 : decode cX5_sieved 27 = .ok (.iload_n 1, 1) := by decide +kernel
theorem dX5_sieved_28 : decode cX5_sieved 28 = .ok (.iload_n 3, 1) := by decide +kernel
theorem dX5_sieved_29 : decode cX5_sieved 29 = .ok (.isub, 1) := by decide +kernel
theorem dX5_sieved_30 : decode cX5_sieved 30 = .ok (.imul, 1) := by decide +kernel
theorem dX5_sieved_31 : decode cX5_sieved 31 = .ok (.iadd, 1) := by decide +kernel
theorem dX5_sieved_32 : decode cX5_sieved 32 = .ok (.istore 4, 2) := by decide +kernel
theorem dX5_sieved_34 : decode cX5_sieved 34 = .ok (.iconst 2, 1) := by decide +kernel
theorem dX5_sieved_35 : decode cX5_sieved 35 = .ok (.iload_n 1, 1) := by decide +kernel
theorem dX5_sieved_36 : decode cX5_sieved 36 = .ok (.imul, 1) := by decide +kernel
theorem dX5_sieved_37 : decode cX5_sieved 37 = .ok (.iload_n 0, 1) := by decide +kernel
theorem dX5_sieved_38 : decode cX5_sieved 38 = .ok (.iconst 1, 1) := by decide +kernel
theorem dX5_sieved_39 : decode cX5_sieved 39 = .ok (.isub, 1) := by decide +kernel
theorem dX5_sieved_40 : decode cX5_sieved 40 = .ok (.iload_n 2, 1) := by decide +kernel
theorem dX5_sieved_41 : decode cX5_sieved 41 = .ok (.iload_n 3, 1) := by decide +kernel
theorem dX5_sieved_42 : decode cX5_sieved 42 = .ok (.isub, 1) := by decide +kernel
theorem dX5_sieved_43 : decode cX5_sieved 43 = .ok (.imul, 1) := by decide +kernel
theorem dX5_sieved_44 : decode cX5_sieved 44 = .ok (.iadd, 1) := by decide +kernel
theorem dX5_sieved_45 : decode cX5_sieved 45 = .ok (.istore 5, 2) := by decide +kernel
theorem dX5_sieved_47 : decode cX5_sieved 47 = .ok (.iload 4, 2) := by decide +kernel
theorem dX5_sieved_49 : decode cX5_sieved 49 = .ok (.ifCond .ne 5, 3) := by decide +kernel
theorem dX5_sieved_52 : decode cX5_sieved 52 = .ok (.iconst 2, 1) := by decide +kernel
theorem dX5_sieved_53 : decode cX5_sieved 53 = .ok (.ireturn, 1) := by decide +kernel
theorem dX5_sieved_54 : decode cX5_sieved 54 = .ok (.iload 5, 2) := by decide +kernel
theorem dX5_sieved_56 : decode cX5_sieved 56 = .ok (.ifCond .ne 15, 3) := by decide +kernel
theorem dX5_sieved_59 : decode cX5_sieved 59 = .ok (.iload_n 0, 1) := by decide +kernel
theorem dX5_sieved_60 : decode cX5_sieved 60 = .ok (.iconst 2, 1) := by decide +kernel
theorem dX5_sieved_61 : decode cX5_sieved 61 = .ok (.irem, 1) := by decide +kernel
theorem dX5_sieved_62 : decode cX5_sieved 62 = .ok (.ifCond .ne 7, 3) := by decide +kernel
theorem dX5_sieved_65 : decode cX5_sieved 65 = .ok (.iconst 2, 1) := by decide +kernel
theorem dX5_sieved_66 : decode cX5_sieved 66 = .ok (.goto 4, 3) := by decide +kernel
theorem dX5_sieved_69 : decode cX5_sieved 69 = .ok (.iconst 0, 1) := by decide +kernel
theorem dX5_sieved_70 : decode cX5_sieved 70 = .ok (.ireturn, 1) := by decide +kernel
theorem dX5_sieved_71 : decode cX5_sieved 71 = .ok (.iload 4, 2) := by decide +kernel
theorem dX5_sieved_73 : decode cX5_sieved 73 = .ok (.invokestatic 117, 3) := by decide +kernel
theorem dX5_sieved_76 : decode cX5_sieved 76 = .ok (.istore 6, 2) := by decide +kernel
theorem dX5_sieved_78 : decode cX5_sieved 78 = .ok (.iload 6, 2) := by decide +kernel
theorem dX5_sieved_80 : decode cX5_sieved 80 = .ok (.iload 6, 2) := by decide +kernel
theorem dX5_sieved_82 : decode cX5_sieved 82 = .ok (.imul, 1) := by decide +kernel
theorem dX5_sieved_83 : decode cX5_sieved 83 = .ok (.iload 4, 2) := by decide +kernel
theorem dX5_sieved_85 : decode cX5_sieved 85 = .ok (.if_icmp .ne 25, 3) := by decide +kernel
theorem dX5_sieved_88 : decode cX5_sieved 88 = .ok (.iload 5, 2) := by decide +kernel
theorem dX5_sieved_90 : decode cX5_sieved 90 = .ok (.iload 6, 2) := by decide +kernel
theorem dX5_sieved_92 : decode cX5_sieved 92 = .ok (.irem, 1) := by decide +kernel
theorem dX5_sieved_93 : decode cX5_sieved 93 = .ok (.ifCond .ne 17, 3) := by decide +kernel
theorem dX5_sieved_96 : decode cX5_sieved 96 = .ok (.iload_n 0, 1) := by decide +kernel
theorem dX5_sieved_97 : decode cX5_sieved 97 = .ok (.iconst 1, 1) := by decide +kernel
theorem dX5_sieved_98 : decode cX5_sieved 98 = .ok (.isub, 1) := by decide +kernel
theorem dX5_sieved_99 : decode cX5_sieved 99 = .ok (.iload 5, 2) := by decide +kernel
theorem dX5_sieved_101 : decode cX5_sieved 101 = .ok (.iload 6, 2) := by decide +kernel
theorem dX5_sieved_103 : decode cX5_sieved 103 = .ok (.idiv, 1) := by decide +kernel
theorem dX5_sieved_104 : decode cX5_sieved 104 = .ok (.iadd, 1) := by decide +kernel
theorem dX5_sieved_105 : decode cX5_sieved 105 = .ok (.iconst 2, 1) := by decide +kernel
theorem dX5_sieved_106 : decode cX5_sieved 106 = .ok (.irem, 1) := by decide +kernel
theorem dX5_sieved_107 : decode cX5_sieved 107 = .ok (.ifCond .eq 5, 3) := by decide +kernel
theorem dX5_sieved_110 : decode cX5_sieved 110 = .ok (.iconst 2, 1) := by decide +kernel
theorem dX5_sieved_111 : decode cX5_sieved 111 = .ok (.ireturn, 1) := by decide +kernel
theorem dX5_sieved_112 : decode cX5_sieved 112 = .ok (.iload_n 2, 1) := by decide +kernel
theorem dX5_sieved_113 : decode cX5_sieved 113 = .ok (.iload_n 3, 1) := by decide +kernel
theorem dX5_sieved_114 : decode cX5_sieved 114 = .ok (.isub, 1) := by decide +kernel
theorem dX5_sieved_115 : decode cX5_sieved 115 = .ok (.iload 6, 2) := by decide +kernel
theorem dX5_sieved_117 : decode cX5_sieved 117 = .ok (.iadd, 1) := by decide +kernel
theorem dX5_sieved_118 : decode cX5_sieved 118 = .ok (.iconst 2, 1) := by decide +kernel
theorem dX5_sieved_119 : decode cX5_sieved 119 = .ok (.idiv, 1) := by decide +kernel
theorem dX5_sieved_120 : decode cX5_sieved 120 = .ok (.i2l, 1) := by decide +kernel
theorem dX5_sieved_121 : decode cX5_sieved 121 = .ok (.lstore 7, 2) := by decide +kernel
theorem dX5_sieved_123 : decode cX5_sieved 123 = .ok (.iload_n 2, 1) := by decide +kernel
theorem dX5_sieved_124 : decode cX5_sieved 124 = .ok (.iload_n 3, 1) := by decide +kernel
theorem dX5_sieved_125 : decode cX5_sieved 125 = .ok (.isub, 1) := by decide +kernel
theorem dX5_sieved_126 : decode cX5_sieved 126 = .ok (.iload 6, 2) := by decide +kernel
theorem dX5_sieved_128 : decode cX5_sieved 128 = .ok (.isub, 1) := by decide +kernel
theorem dX5_sieved_129 : decode cX5_sieved 129 = .ok (.iconst 2, 1) := by decide +kernel
theorem dX5_sieved_130 : decode cX5_sieved 130 = .ok (.idiv, 1) := by decide +kernel
theorem dX5_sieved_131 : decode cX5_sieved 131 = .ok (.i2l, 1) := by decide +kernel
theorem dX5_sieved_132 : decode cX5_sieved 132 = .ok (.lstore 9, 2) := by decide +kernel
theorem dX5_sieved_134 : decode cX5_sieved 134 = .ok (.lload 7, 2) := by decide +kernel
theorem dX5_sieved_136 : decode cX5_sieved 136 = .ok (.lconst 1, 1) := by decide +kernel
theorem dX5_sieved_137 : decode cX5_sieved 137 = .ok (.ladd, 1) := by decide +kernel
theorem dX5_sieved_138 : decode cX5_sieved 138 = .ok (.iload_n 1, 1) := by decide +kernel
theorem dX5_sieved_139 : decode cX5_sieved 139 = .ok (.i2l, 1) := by decide +kernel
theorem dX5_sieved_140 : decode cX5_sieved 140 = .ok (.lload 7, 2) := by decide +kernel
theorem dX5_sieved_142 : decode cX5_sieved 142 = .ok (.ladd, 1) := by decide +kernel
theorem dX5_sieved_143 : decode cX5_sieved 143 = .ok (.ldc2_w 120, 3) := by decide +kernel
theorem dX5_sieved_146 : decode cX5_sieved 146 = .ok (.lload 7, 2) := by decide +kernel
theorem dX5_sieved_148 : decode cX5_sieved 148 = .ok (.lmul, 1) := by decide +kernel
theorem dX5_sieved_149 : decode cX5_sieved 149 = .ok (.lload 9, 2) := by decide +kernel
theorem dX5_sieved_151 : decode cX5_sieved 151 = .ok (.lmul, 1) := by decide +kernel
theorem dX5_sieved_152 : decode cX5_sieved 152 = .ok (.ladd, 1) := by decide +kernel
theorem dX5_sieved_153 : decode cX5_sieved 153 = .ok (.lmul, 1) := by decide +kernel
theorem dX5_sieved_154 : decode cX5_sieved 154 = .ok (.iload_n 1, 1) := by decide +kernel
theorem dX5_sieved_155 : decode cX5_sieved 155 = .ok (.i2l, 1) := by decide +kernel
theorem dX5_sieved_156 : decode cX5_sieved 156 = .ok (.lload 7, 2) := by decide +kernel
theorem dX5_sieved_158 : decode cX5_sieved 158 = .ok (.ladd, 1) := by decide +kernel
theorem dX5_sieved_159 : decode cX5_sieved 159 = .ok (.lload 9, 2) := by decide +kernel
theorem dX5_sieved_161 : decode cX5_sieved 161 = .ok (.lconst 1, 1) := by decide +kernel
theorem dX5_sieved_162 : decode cX5_sieved 162 = .ok (.ladd, 1) := by decide +kernel
theorem dX5_sieved_163 : decode cX5_sieved 163 = .ok (.lmul, 1) := by decide +kernel
theorem dX5_sieved_164 : decode cX5_sieved 164 = .ok (.lload 9, 2) := by decide +kernel
theorem dX5_sieved_166 : decode cX5_sieved 166 = .ok (.lconst 1, 1) := by decide +kernel
theorem dX5_sieved_167 : decode cX5_sieved 167 = .ok (.ladd, 1) := by decide +kernel
theorem dX5_sieved_168 : decode cX5_sieved 168 = .ok (.lmul, 1) := by decide +kernel
theorem dX5_sieved_169 : decode cX5_sieved 169 = .ok (.lcmp, 1) := by decide +kernel
theorem dX5_sieved_170 : decode cX5_sieved 170 = .ok (.ifCond .gt 42, 3) := by decide +kernel
theorem dX5_sieved_173 : decode cX5_sieved 173 = .ok (.lload 9, 2) := by decide +kernel
theorem dX5_sieved_175 : decode cX5_sieved 175 = .ok (.lconst 1, 1) := by decide +kernel
theorem dX5_sieved_176 : decode cX5_sieved 176 = .ok (.ladd, 1) := by decide +kernel
theorem dX5_sieved_177 : decode cX5_sieved 177 = .ok (.iload_n 1, 1) := by decide +kernel
theorem dX5_sieved_178 : decode cX5_sieved 178 = .ok (.i2l, 1) := by decide +kernel
theorem dX5_sieved_179 : decode cX5_sieved 179 = .ok (.lload 9, 2) := by decide +kernel
theorem dX5_sieved_181 : decode cX5_sieved 181 = .ok (.ladd, 1) := by decide +kernel
theorem dX5_sieved_182 : decode cX5_sieved 182 = .ok (.ldc2_w 120, 3) := by decide +kernel
theorem dX5_sieved_185 : decode cX5_sieved 185 = .ok (.lload 7, 2) := by decide +kernel
theorem dX5_sieved_187 : decode cX5_sieved 187 = .ok (.lmul, 1) := by decide +kernel
theorem dX5_sieved_188 : decode cX5_sieved 188 = .ok (.lload 9, 2) := by decide +kernel
theorem dX5_sieved_190 : decode cX5_sieved 190 = .ok (.lmul, 1) := by decide +kernel
theorem dX5_sieved_191 : decode cX5_sieved 191 = .ok (.ladd, 1) := by decide +kernel
theorem dX5_sieved_192 : decode cX5_sieved 192 = .ok (.lmul, 1) := by decide +kernel
theorem dX5_sieved_193 : decode cX5_sieved 193 = .ok (.iload_n 1, 1) := by decide +kernel
theorem dX5_sieved_194 : decode cX5_sieved 194 = .ok (.i2l, 1) := by decide +kernel
theorem dX5_sieved_195 : decode cX5_sieved 195 = .ok (.lload 9, 2) := by decide +kernel
theorem dX5_sieved_197 : decode cX5_sieved 197 = .ok (.ladd, 1) := by decide +kernel
theorem dX5_sieved_198 : decode cX5_sieved 198 = .ok (.lload 7, 2) := by decide +kernel
theorem dX5_sieved_200 : decode cX5_sieved 200 = .ok (.lconst 1, 1) := by decide +kernel
theorem dX5_sieved_201 : decode cX5_sieved 201 = .ok (.ladd, 1) := by decide +kernel
theorem dX5_sieved_202 : decode cX5_sieved 202 = .ok (.lmul, 1) := by decide +kernel
theorem dX5_sieved_203 : decode cX5_sieved 203 = .ok (.lload 7, 2) := by decide +kernel
theorem dX5_sieved_205 : decode cX5_sieved 205 = .ok (.lconst 1, 1) := by decide +kernel
theorem dX5_sieved_206 : decode cX5_sieved 206 = .ok (.ladd, 1) := by decide +kernel
theorem dX5_sieved_207 : decode cX5_sieved 207 = .ok (.lmul, 1) := by decide +kernel
theorem dX5_sieved_208 : decode cX5_sieved 208 = .ok (.lcmp, 1) := by decide +kernel
theorem dX5_sieved_209 : decode cX5_sieved 209 = .ok (.ifCond .le 5, 3) := by decide +kernel
theorem dX5_sieved_212 : decode cX5_sieved 212 = .ok (.iconst 3, 1) := by decide +kernel
theorem dX5_sieved_213 : decode cX5_sieved 213 = .ok (.ireturn, 1) := by decide +kernel
theorem dX5_sieved_214 : decode cX5_sieved 214 = .ok (.iload_n 0, 1) := by decide +kernel
theorem dX5_sieved_215 : decode cX5_sieved 215 = .ok (.iconst 1, 1) := by decide +kernel
theorem dX5_sieved_216 : decode cX5_sieved 216 = .ok (.isub, 1) := by decide +kernel
theorem dX5_sieved_217 : decode cX5_sieved 217 = .ok (.iload 5, 2) := by decide +kernel
theorem dX5_sieved_219 : decode cX5_sieved 219 = .ok (.iload 6, 2) := by decide +kernel
theorem dX5_sieved_221 : decode cX5_sieved 221 = .ok (.idiv, 1) := by decide +kernel
theorem dX5_sieved_222 : decode cX5_sieved 222 = .ok (.isub, 1) := by decide +kernel
theorem dX5_sieved_223 : decode cX5_sieved 223 = .ok (.iconst 2, 1) := by decide +kernel
theorem dX5_sieved_224 : decode cX5_sieved 224 = .ok (.idiv, 1) := by decide +kernel
theorem dX5_sieved_225 : decode cX5_sieved 225 = .ok (.istore 11, 2) := by decide +kernel
theorem dX5_sieved_227 : decode cX5_sieved 227 = .ok (.iload_n 0, 1) := by decide +kernel
theorem dX5_sieved_228 : decode cX5_sieved 228 = .ok (.iconst 1, 1) := by decide +kernel
theorem dX5_sieved_229 : decode cX5_sieved 229 = .ok (.isub, 1) := by decide +kernel
theorem dX5_sieved_230 : decode cX5_sieved 230 = .ok (.iload 5, 2) := by decide +kernel
theorem dX5_sieved_232 : decode cX5_sieved 232 = .ok (.iload 6, 2) := by decide +kernel
theorem dX5_sieved_234 : decode cX5_sieved 234 = .ok (.idiv, 1) := by decide +kernel
theorem dX5_sieved_235 : decode cX5_sieved 235 = .ok (.iadd, 1) := by decide +kernel
theorem dX5_sieved_236 : decode cX5_sieved 236 = .ok (.iconst 2, 1) := by decide +kernel
theorem dX5_sieved_237 : decode cX5_sieved 237 = .ok (.idiv, 1) := by decide +kernel
theorem dX5_sieved_238 : decode cX5_sieved 238 = .ok (.istore 12, 2) := by decide +kernel
theorem dX5_sieved_240 : decode cX5_sieved 240 = .ok (.iload_n 3, 1) := by decide +kernel
theorem dX5_sieved_241 : decode cX5_sieved 241 = .ok (.ifCond .le 38, 3) := by decide +kernel
theorem dX5_sieved_244 : decode cX5_sieved 244 = .ok (.iload_n 3, 1) := by decide +kernel
theorem dX5_sieved_245 : decode cX5_sieved 245 = .ok (.iload_n 1, 1) := by decide +kernel
theorem dX5_sieved_246 : decode cX5_sieved 246 = .ok (.if_icmp .ge 33, 3) := by decide +kernel
theorem dX5_sieved_249 : decode cX5_sieved 249 = .ok (.iconst 2, 1) := by decide +kernel
theorem dX5_sieved_250 : decode cX5_sieved 250 = .ok (.iload_n 0, 1) := by decide +kernel
theorem dX5_sieved_251 : decode cX5_sieved 251 = .ok (.imul, 1) := by decide +kernel
theorem dX5_sieved_252 : decode cX5_sieved 252 = .ok (.iload 11, 2) := by decide +kernel
theorem dX5_sieved_254 : decode cX5_sieved 254 = .ok (.iload 11, 2) := by decide +kernel
theorem dX5_sieved_256 : decode cX5_sieved 256 = .ok (.iconst 3, 1) := by decide +kernel
theorem dX5_sieved_257 : decode cX5_sieved 257 = .ok (.iadd, 1) := by decide +kernel
theorem dX5_sieved_258 : decode cX5_sieved 258 = .ok (.imul, 1) := by decide +kernel
theorem dX5_sieved_259 : decode cX5_sieved 259 = .ok (.if_icmp .gt 16, 3) := by decide +kernel
theorem dX5_sieved_262 : decode cX5_sieved 262 = .ok (.iconst 2, 1) := by decide +kernel
theorem dX5_sieved_263 : decode cX5_sieved 263 = .ok (.iload_n 0, 1) := by decide +kernel
theorem dX5_sieved_264 : decode cX5_sieved 264 = .ok (.imul, 1) := by decide +kernel
theorem dX5_sieved_265 : decode cX5_sieved 265 = .ok (.iload 12, 2) := by decide +kernel
theorem dX5_sieved_267 : decode cX5_sieved 267 = .ok (.iload 12, 2) := by decide +kernel
theorem dX5_sieved_269 : decode cX5_sieved 269 = .ok (.iconst 3, 1) := by decide +kernel
theorem dX5_sieved_270 : decode cX5_sieved 270 = .ok (.iadd, 1) := by decide +kernel
theorem dX5_sieved_271 : decode cX5_sieved 271 = .ok (.imul, 1) := by decide +kernel
theorem dX5_sieved_272 : decode cX5_sieved 272 = .ok (.if_icmp .le 7, 3) := by decide +kernel
theorem dX5_sieved_275 : decode cX5_sieved 275 = .ok (.iconst 4, 1) := by decide +kernel
theorem dX5_sieved_276 : decode cX5_sieved 276 = .ok (.goto 4, 3) := by decide +kernel
theorem dX5_sieved_279 : decode cX5_sieved 279 = .ok (.iconst 0, 1) := by decide +kernel
theorem dX5_sieved_280 : decode cX5_sieved 280 = .ok (.ireturn, 1) := by decide +kernel
theorem dX5_sieve_0 : decode cX5_sieve 0 = .ok (.aload_n 0, 1) := by decide +kernel
theorem dX5_sieve_1 : decode cX5_sieve 1 = .ok (.iconst 0, 1) := by decide +kernel
theorem dX5_sieve_2 : decode cX5_sieve 2 = .ok (.putfield 42, 3) := by decide +kernel
theorem dX5_sieve_5 : decode cX5_sieve 5 = .ok (.iload_n 1, 1) := by decide +kernel
theorem dX5_sieve_6 : decode cX5_sieve 6 = .ok (.iconst 2, 1) := by decide +kernel
theorem dX5_sieve_7 : decode cX5_sieve 7 = .ok (.sipush 200, 3) := by decide +kernel
theorem dX5_sieve_10 : decode cX5_sieve 10 = .ok (.invokestatic 45, 3) := by decide +kernel
theorem dX5_sieve_13 : decode cX5_sieve 13 = .ok (.ifCond .eq 46, 3) := by decide +kernel
theorem dX5_sieve_16 : decode cX5_sieve 16 = .ok (.iload_n 2, 1) := by decide +kernel
theorem dX5_sieve_17 : decode cX5_sieve 17 = .ok (.iconst 1, 1) := by decide +kernel
theorem dX5_sieve_18 : decode cX5_sieve 18 = .ok (.iload_n 1, 1) := by decide +kernel
theorem dX5_sieve_19 : decode cX5_sieve 19 = .ok (.iconst 2, 1) := by decide +kernel
theorem dX5_sieve_20 : decode cX5_sieve 20 = .ok (.isub, 1) := by decide +kernel
theorem dX5_sieve_21 : decode cX5_sieve 21 = .ok (.invokestatic 45, 3) := by decide +kernel
theorem dX5_sieve_24 : decode cX5_sieve 24 = .ok (.ifCond .eq 35, 3) := by decide +kernel
theorem dX5_sieve_27 : decode cX5_sieve 27 = .ok (.iload_n 3, 1) := by decide +kernel
theorem dX5_sieve_28 : decode cX5_sieve 28 = .ok (.iconst 0, 1) := by decide +kernel
theorem dX5_sieve_29 : decode cX5_sieve 29 = .ok (.iload_n 2, 1) := by decide +kernel
theorem dX5_sieve_30 : decode cX5_sieve 30 = .ok (.iconst 1, 1) := by decide +kernel
theorem dX5_sieve_31 : decode cX5_sieve 31 = .ok (.isub, 1) := by decide +kernel
theorem dX5_sieve_32 : decode cX5_sieve 32 = .ok (.invokestatic 45, 3) := by decide +kernel
theorem dX5_sieve_35 : decode cX5_sieve 35 = .ok (.ifCond .eq 24, 3) := by decide +kernel
theorem dX5_sieve_38 : decode cX5_sieve 38 = .ok (.iload 4, 2) := by decide +kernel
theorem dX5_sieve_40 : decode cX5_sieve 40 = .ok (.iconst 0, 1) := by decide +kernel
theorem dX5_sieve_41 : decode cX5_sieve 41 = .ok (.iload_n 2, 1) := by decide +kernel
theorem dX5_sieve_42 : decode cX5_sieve 42 = .ok (.invokestatic 45, 3) := by decide +kernel
theorem dX5_sieve_45 : decode cX5_sieve 45 = .ok (.ifCond .eq 14, 3) := by decide +kernel
theorem dX5_sieve_48 : decode cX5_sieve 48 = .ok (.iload_n 1, 1) := by decide +kernel
theorem dX5_sieve_49 : decode cX5_sieve 49 = .ok (.iload_n 2, 1) := by decide +kernel
theorem dX5_sieve_50 : decode cX5_sieve 50 = .ok (.iload_n 3, 1) := by decide +kernel
theorem dX5_sieve_51 : decode cX5_sieve 51 = .ok (.iload 4, 2) := by decide +kernel
theorem dX5_sieve_53 : decode cX5_sieve 53 = .ok (.invokestatic 122, 3) := by decide +kernel
theorem dX5_sieve_56 : decode cX5_sieve 56 = .ok (.goto 4, 3) := by decide +kernel
theorem dX5_sieve_59 : decode cX5_sieve 59 = .ok (.iconst (-1), 1) := by decide +kernel
theorem dX5_sieve_60 : decode cX5_sieve 60 = .ok (.ireturn, 1) := by decide +kernel
theorem dX5_many_0 : decode cX5_many 0 = .ok (.aload_n 0, 1) := by decide +kernel
theorem dX5_many_1 : decode cX5_many 1 = .ok (.iconst 0, 1) := by decide +kernel
theorem dX5_many_2 : decode cX5_many 2 = .ok (.putfield 42, 3) := by decide +kernel
theorem dX5_many_5 : decode cX5_many 5 = .ok (.iload_n 1, 1) := by decide +kernel
theorem dX5_many_6 : decode cX5_many 6 = .ok (.iconst 2, 1) := by decide +kernel
theorem dX5_many_7 : decode cX5_many 7 = .ok (.bipush 40, 2) := by decide +kernel
theorem dX5_many_9 : decode cX5_many 9 = .ok (.invokestatic 45, 3) := by decide +kernel
theorem dX5_many_12 : decode cX5_many 12 = .ok (.ifCond .ne 5, 3) := by decide +kernel
theorem dX5_many_15 : decode cX5_many 15 = .ok (.iconst (-1), 1) := by decide +kernel
theorem dX5_many_16 : decode cX5_many 16 = .ok (.ireturn, 1) := by decide +kernel
theorem dX5_many_17 : decode cX5_many 17 = .ok (.iconst 0, 1) := by decide +kernel
theorem dX5_many_18 : decode cX5_many 18 = .ok (.istore_n 2, 1) := by decide +kernel
theorem dX5_many_19 : decode cX5_many 19 = .ok (.iconst 1, 1) := by decide +kernel
theorem dX5_many_20 : decode cX5_many 20 = .ok (.istore_n 3, 1) := by decide +kernel
theorem dX5_many_21 : decode cX5_many 21 = .ok (.iconst 2, 1) := by decide +kernel
theorem dX5_many_22 : decode cX5_many 22 = .ok (.iload_n 3, 1) := by decide +kernel
theorem dX5_many_23 : decode cX5_many 23 = .ok (.imul, 1) := by decide +kernel
theorem dX5_many_24 : decode cX5_many 24 = .ok (.iload_n 1, 1) := by decide +kernel
theorem dX5_many_25 : decode cX5_many 25 = .ok (.iconst 1, 1) := by decide +kernel
theorem dX5_many_26 : decode cX5_many 26 = .ok (.isub, 1) := by decide +kernel
theorem dX5_many_27 : decode cX5_many 27 = .ok (.if_icmp .gt 66, 3) := by decide +kernel
theorem dX5_many_30 : decode cX5_many 30 = .ok (.iload_n 3, 1) := by decide +kernel
theorem dX5_many_31 : decode cX5_many 31 = .ok (.iload_n 1, 1) := by decide +kernel
theorem dX5_many_32 : decode cX5_many 32 = .ok (.iconst 2, 1) := by decide +kernel
theorem dX5_many_33 : decode cX5_many 33 = .ok (.isub, 1) := by decide +kernel
theorem dX5_many_34 : decode cX5_many 34 = .ok (.if_icmp .gt 59, 3) := by decide +kernel
theorem dX5_many_37 : decode cX5_many 37 = .ok (.iconst 0, 1) := by decide +kernel
theorem dX5_many_38 : decode cX5_many 38 = .ok (.istore 4, 2) := by decide +kernel
theorem dX5_many_40 : decode cX5_many 40 = .ok (.iload 4, 2) := by decide +kernel
theorem dX5_many_42 : decode cX5_many 42 = .ok (.iload_n 3, 1) := by decide +kernel
theorem dX5_many_43 : decode cX5_many 43 = .ok (.if_icmp .ge 44, 3) := by decide +kernel
theorem dX5_many_46 : decode cX5_many 46 = .ok (.iconst 0, 1) := by decide +kernel
theorem dX5_many_47 : decode cX5_many 47 = .ok (.istore 5, 2) := by decide +kernel
theorem dX5_many_49 : decode cX5_many 49 = .ok (.iload 5, 2) := by decide +kernel
theorem dX5_many_51 : decode cX5_many 51 = .ok (.iload_n 3, 1) := by decide +kernel
theorem dX5_many_52 : decode cX5_many 52 = .ok (.if_icmp .gt 29, 3) := by decide +kernel
theorem dX5_many_55 : decode cX5_many 55 = .ok (.iload_n 2, 1) := by decide +kernel
theorem dX5_many_56 : decode cX5_many 56 = .ok (.iload_n 1, 1) := by decide +kernel
theorem dX5_many_57 : decode cX5_many 57 = .ok (.iload_n 3, 1) := by decide +kernel
theorem dX5_many_58 : decode cX5_many 58 = .ok (.iload 4, 2) := by decide +kernel
theorem dX5_many_60 : decode cX5_many 60 = .ok (.iload 5, 2) := by decide +kernel
theorem dX5_many_62 : decode cX5_many 62 = .ok (.invokestatic 122, 3) := by decide +kernel
theorem dX5_many_65 : decode cX5_many 65 = .ok (.ifCond .ne 7, 3) := by decide +kernel
theorem dX5_many_68 : decode cX5_many 68 = .ok (.iconst 1, 1) := by decide +kernel
theorem dX5_many_69 : decode cX5_many 69 = .ok (.goto 4, 3) := by decide +kernel
theorem dX5_many_72 : decode cX5_many 72 = .ok (.iconst 0, 1) := by decide +kernel
theorem dX5_many_73 : decode cX5_many 73 = .ok (.iadd, 1) := by decide +kernel
theorem dX5_many_74 : decode cX5_many 74 = .ok (.istore_n 2, 1) := by decide +kernel
theorem dX5_many_75 : decode cX5_many 75 = .ok (.iinc 5 1, 3) := by decide +kernel
theorem dX5_many_78 : decode cX5_many 78 = .ok (.goto (-29), 3) := by decide +kernel
theorem dX5_many_81 : decode cX5_many 81 = .ok (.iinc 4 1, 3) := by decide +kernel
theorem dX5_many_84 : decode cX5_many 84 = .ok (.goto (-44), 3) := by decide +kernel
theorem dX5_many_87 : decode cX5_many 87 = .ok (.iinc 3 1, 3) := by decide +kernel
theorem dX5_many_90 : decode cX5_many 90 = .ok (.goto (-69), 3) := by decide +kernel
theorem dX5_many_93 : decode cX5_many 93 = .ok (.iload_n 2, 1) := by decide +kernel
theorem dX5_many_94 : decode cX5_many 94 = .ok (.ireturn, 1) := by decide +kernel
theorem dX5_count_0 : decode cX5_count 0 = .ok (.aload_n 0, 1) := by decide +kernel
theorem dX5_count_1 : decode cX5_count 1 = .ok (.iconst 0, 1) := by decide +kernel
theorem dX5_count_2 : decode cX5_count 2 = .ok (.putfield 42, 3) := by decide +kernel
theorem dX5_count_5 : decode cX5_count 5 = .ok (.iload_n 1, 1) := by decide +kernel
theorem dX5_count_6 : decode cX5_count 6 = .ok (.tableswitch 58 0 3 #[30, 35, 40, 53], 30) := by decide +kernel
theorem dX5_count_36 : decode cX5_count 36 = .ok (.aload_n 0, 1) := by decide +kernel
theorem dX5_count_37 : decode cX5_count 37 = .ok (.getfield 7, 3) := by decide +kernel
theorem dX5_count_40 : decode cX5_count 40 = .ok (.ireturn, 1) := by decide +kernel
theorem dX5_count_41 : decode cX5_count 41 = .ok (.aload_n 0, 1) := by decide +kernel
theorem dX5_count_42 : decode cX5_count 42 = .ok (.invokevirtual 61, 3) := by decide +kernel
theorem dX5_count_45 : decode cX5_count 45 = .ok (.ireturn, 1) := by decide +kernel
theorem dX5_count_46 : decode cX5_count 46 = .ok (.aload_n 0, 1) := by decide +kernel
theorem dX5_count_47 : decode cX5_count 47 = .ok (.invokevirtual 75, 3) := by decide +kernel
theorem dX5_count_50 : decode cX5_count 50 = .ok (.ifCond .eq 7, 3) := by decide +kernel
theorem dX5_count_53 : decode cX5_count 53 = .ok (.iconst 1, 1) := by decide +kernel
theorem dX5_count_54 : decode cX5_count 54 = .ok (.goto 4, 3) := by decide +kernel
theorem dX5_count_57 : decode cX5_count 57 = .ok (.iconst 0, 1) := by decide +kernel
theorem dX5_count_58 : decode cX5_count 58 = .ok (.ireturn, 1) := by decide +kernel
theorem dX5_count_59 : decode cX5_count 59 = .ok (.aload_n 0, 1) := by decide +kernel
theorem dX5_count_60 : decode cX5_count 60 = .ok (.invokevirtual 108, 3) := by decide +kernel
theorem dX5_count_63 : decode cX5_count 63 = .ok (.ireturn, 1) := by decide +kernel
theorem dX5_count_64 : decode cX5_count 64 = .ok (.iconst (-1), 1) := by decide +kernel
theorem dX5_count_65 : decode cX5_count 65 = .ok (.ireturn, 1) := by decide +kernel
theorem dX5_trace_0 : decode cX5_trace 0 = .ok (.aload_n 0, 1) := by decide +kernel
theorem dX5_trace_1 : decode cX5_trace 1 = .ok (.iconst 0, 1) := by decide +kernel
theorem dX5_trace_2 : decode cX5_trace 2 = .ok (.putfield 42, 3) := by decide +kernel
theorem dX5_trace_5 : decode cX5_trace 5 = .ok (.aload_n 0, 1) := by decide +kernel
theorem dX5_trace_6 : decode cX5_trace 6 = .ok (.getfield 98, 3) := by decide +kernel
theorem dX5_trace_9 : decode cX5_trace 9 = .ok (.lreturn, 1) := by decide +kernel
end
section
/-! THE ABSTRACT MACHINE: ints are Int (any representative), cells have numbers 0, 1, .. in the order of their making (cell k lies at the address bs.1 + k); rows over the kit's rows. -/
abbrev AV : Type := Int ⊕ (Int ⊕ (Nat ⊕ Bool))
abbrev vI (x : Int) : AV := .inl x
abbrev vJ (x : Int) : AV := .inr (.inl x)
abbrev vR (k : Nat) : AV := .inr (.inr (.inl k))
abbrev vN : AV := .inr (.inr (.inr false))
abbrev vS : AV := .inr (.inr (.inr true))
abbrev AC : Type := (Nat × List AV) ⊕ ((Nat × (Int → Int)) ⊕ (Nat × (Int → Int)))
abbrev cO (c : Nat) (fs : List AV) : AC := .inl (c, fs)
abbrev cA (n : Nat) (f : Int → Int) : AC := .inr (.inl (n, f))
abbrev cL (n : Nat) (f : Int → Int) : AC := .inr (.inr (n, f))
abbrev AH : Type := (Nat × Nat) × (Nat → AC)
def zz_get (h : AH) (k : Nat) : AC := h.2 k
def zz_put (h : AH) (k : Nat) (x : AC) : AH := (h.1, fun j => if j = k then x else h.2 j)
def zz_new (h : AH) (sz : Nat) (x : AC) : AH := ((h.1.1 + 1, h.1.2 + sz), fun j => if j = h.1.1 then x else h.2 j)
def zz_up (f : Int → Int) (i x : Int) : Int → Int := fun j => if j = i then x else f j
theorem zz_get_put (h : AH) (k j : Nat) (x : AC) : zz_get (zz_put h k x) j = if j = k then x else zz_get h j := rfl
theorem zz_get_new (h : AH) (j sz : Nat) (x : AC) : zz_get (zz_new h sz x) j = if j = h.1.1 then x else zz_get h j := rfl
theorem zz_put_put (h : AH) (k : Nat) (x y : AC) : zz_put (zz_put h k x) k y = zz_put h k y := by
  unfold zz_put
  congr 1
  funext j
  by_cases hj : j = k <;> simp [hj]
theorem zz_put_comm (h : AH) (k j : Nat) (x y : AC) (hkj : k ≠ j) : zz_put (zz_put h k x) j y = zz_put (zz_put h j y) k x := by
  unfold zz_put
  congr 1
  funext i
  by_cases h1 : i = k <;> by_cases h2 : i = j <;> simp_all
theorem zz_put_get (h : AH) (k : Nat) (x : AC) (hx : zz_get h k = x) : zz_put h k x = h := by
  subst hx
  unfold zz_put zz_get
  have : (fun j => if j = k then h.2 k else h.2 j) = h.2 := by
    funext j
    by_cases hj : j = k <;> simp [hj]
  rw [this]
theorem zz_up_s (f : Int → Int) (i x : Int) : zz_up f i x i = x := by simp [zz_up]
theorem zz_up_n (f : Int → Int) {i j : Int} (x : Int) (h : j ≠ i) : zz_up f i x j = f j := by simp [zz_up, h]
def zz_tbl : List Cond := lw_tbl.filter goodWord
theorem zz_in {w : Cond} (i : Nat) (h : lw_tbl[i]? = some w) (hg : goodWord w = true) : w ∈ zz_tbl := List.mem_filter.mpr ⟨List.mem_of_getElem? h, hg⟩
/-! what they stand for -/
def zz_cv (bs : Nat × Nat) : AV → Value
  | .inl x => .int (Int32.ofInt x)
  | .inr (.inl x) => .long (Int64.ofInt x)
  | .inr (.inr (.inl k)) => .ref (bs.1 + k)
  | .inr (.inr (.inr false)) => .null
  | .inr (.inr (.inr true)) => .ref bs.2
def zz_ce (cI cJ : ClassId) (bs : Nat × Nat) : AC → va_E
  | .inl (c, fs) => .inr (c, fs.map (zz_cv bs))
  | .inr (.inl (n, f)) => .inl (cI, n, .inl (fun j => Int32.ofInt (f (j : Int))))
  | .inr (.inr (n, f)) => .inl (cJ, n, .inr (.inl (fun j => Int64.ofInt (f (j : Int)))))
def zz_dead : AC := .inl (99, [])
def zz_wd (D : va_G) (cI cJ : ClassId) (bs : Nat × Nat) (h : AH) (H : Heap) : Prop :=
  H.size = bs.1 + h.1.1 ∧ (∀ k, k < h.1.1 → va_at D vwCl (bs.1 + k, zz_ce cI cJ bs (h.2 k)) H) ∧ ∀ k, h.1.1 ≤ k → h.2 k = zz_dead
def zz_lc (bs : Nat × Nat) : Nat → List (Option AV) → List (Nat × Value)
  | _, [] => []
  | i, none :: r => zz_lc bs (i + 1) r
  | i, some v :: r => (i, zz_cv bs v) :: zz_lc bs (i + 1) r
theorem zz_lc_mem (bs : Nat × Nat) : ∀ (L : List (Option AV)) (i k : Nat) (v : AV), L[k]? = some (some v) → (i + k, zz_cv bs v) ∈ zz_lc bs i L := by
  intro L
  induction L with
  | nil => intro i k v h; simp at h
  | cons a r ih =>
    intro i k v h
    cases k with
    | zero =>
      simp only [List.getElem?_cons_zero, Option.some.injEq] at h
      subst h
      simp [zz_lc]
    | succ k =>
      simp only [List.getElem?_cons_succ] at h
      have h1 := ih (i + 1) k v h
      rw [show i + 1 + k = i + (k + 1) by omega] at h1
      cases a with
      | none => simpa [zz_lc] using h1
      | some b => simp only [zz_lc]; exact List.mem_cons_of_mem _ h1
theorem zz_lc_inv (bs : Nat × Nat) : ∀ (L : List (Option AV)) (i : Nat) (q : Nat × Value), q ∈ zz_lc bs i L → ∃ (k : Nat) (v : AV), L[k]? = some (some v) ∧ q = (i + k, zz_cv bs v) := by
  intro L
  induction L with
  | nil => intro i q h; simp [zz_lc] at h
  | cons a r ih =>
    intro i q h
    have go : q ∈ zz_lc bs (i + 1) r → ∃ (k : Nat) (v : AV), (a :: r)[k]? = some (some v) ∧ q = (i + k, zz_cv bs v) := by
      intro h
      obtain ⟨k, v, h1, h2⟩ := ih (i + 1) q h
      exact ⟨k + 1, v, by simpa using h1, by rw [h2, show i + 1 + k = i + (k + 1) by omega]⟩
    cases a with
    | none => exact go (by simpa [zz_lc] using h)
    | some b =>
      simp only [zz_lc] at h
      rcases List.mem_cons.mp h with h | h
      · exact ⟨0, b, by simp, by simpa using h⟩
      · exact go h
theorem zz_lat {bs : Nat × Nat} {L : List (Option AV)} {ls : Array Slot} {nL i : Nat} {v : AV} (h : lv_has ls nL (zz_lc bs 0 L)) (hL : L[i]? = some (some v)) : ls[i]? = some (.val (zz_cv bs v)) := by
  have h1 := h.2.2 _ (zz_lc_mem bs L 0 i v hL)
  simpa using h1
/-- what is said of the locals may be less -/
def zz_le : List (Option AV) → List (Option AV) → Prop
  | [], _ => True
  | none :: a, _ :: b => zz_le a b
  | none :: a, [] => zz_le a []
  | some v :: a, some u :: b => v = u ∧ zz_le a b
  | some _ :: _, none :: _ => False
  | some _ :: _, [] => False
theorem zz_le_at : ∀ (L L' : List (Option AV)), zz_le L' L → ∀ (k : Nat) (v : AV), L'[k]? = some (some v) → L[k]? = some (some v) := by
  intro L L'
  induction L' generalizing L with
  | nil => intro _ k v h; simp at h
  | cons a r ih =>
    intro hle k v h
    cases L with
    | nil =>
      cases a with
      | none =>
        cases k with
        | zero => simp at h
        | succ k =>
          have := ih [] (by simpa [zz_le] using hle) k v (by simpa using h)
          simp at this
      | some u => exact absurd hle (by simp [zz_le])
    | cons b L =>
      cases k with
      | zero =>
        simp only [List.getElem?_cons_zero, Option.some.injEq] at h
        subst h
        cases b with
        | none => exact absurd hle (by simp [zz_le])
        | some u =>
          simp only [zz_le] at hle
          simp [hle.1]
      | succ k =>
        simp only [List.getElem?_cons_succ] at h ⊢
        refine ih L ?_ k v h
        cases a <;> cases b <;> simp only [zz_le] at hle
        · exact hle
        · exact hle
        · exact hle.2
theorem zz_weak {bs : Nat × Nat} {L L' : List (Option AV)} {ls : Array Slot} {nL : Nat} (h : lv_has ls nL (zz_lc bs 0 L)) (hle : zz_le L' L) : lv_has ls nL (zz_lc bs 0 L') := by
  refine ⟨h.1, h.2.1, fun q hq => ?_⟩
  obtain ⟨k, v, h1, h2⟩ := zz_lc_inv bs L' 0 q hq
  rw [h2]
  have := zz_lat h (zz_le_at L L' hle k v h1)
  simpa using this
/-- no long lies just below -/
def zz_nl (L : List (Option AV)) : Nat → Bool
  | 0 => true
  | i + 1 => match L[i]? with
    | some (some (.inr (.inl _))) => false
    | _ => true
theorem zz_cat (bs : Nat × Nat) (v : AV) : (zz_cv bs v).category = match v with | .inr (.inl _) => 2 | _ => 1 := by
  rcases v with x | x | k | b
  · rfl
  · rfl
  · rfl
  · cases b <;> rfl
theorem zz_st1 {bs : Nat × Nat} {L : List (Option AV)} {ls' : Array Slot} {nL i : Nat} {v : AV} (hi : i < L.length) (hn : zz_nl L i = true)
    (h : lv_has ls' nL ((i, zz_cv bs v) :: (zz_lc bs 0 L).filter (fun q => !(q.1 == i) && !(q.1 + 1 == i && q.2.category == 2)))) : lv_has ls' nL (zz_lc bs 0 (L.set i (some v))) := by
  refine ⟨h.1, h.2.1, fun q hq => h.2.2 q ?_⟩
  obtain ⟨k, u, h1, h2⟩ := zz_lc_inv bs _ 0 q hq
  rw [Nat.zero_add] at h2
  subst h2
  by_cases hk : k = i
  · subst hk
    rw [List.getElem?_set_self hi] at h1
    cases h1
    exact List.mem_cons_self
  · rw [List.getElem?_set_ne (Ne.symm hk)] at h1
    refine List.mem_cons_of_mem _ (List.mem_filter.mpr ⟨by have := zz_lc_mem bs L 0 k u h1; simpa using this, ?_⟩)
    have : ¬ (k + 1 = i ∧ (zz_cv bs u).category = 2) := by
      rintro ⟨rfl, hc⟩
      simp only [zz_nl, h1] at hn
      rw [zz_cat] at hc
      rcases u with x | x | x <;> simp_all
    simp only [Bool.and_eq_true, Bool.not_eq_true', beq_eq_false_iff_ne, ne_eq, Bool.and_eq_false_iff]
    refine ⟨hk, ?_⟩
    by_cases h3 : k + 1 = i
    · exact Or.inr fun h4 => this ⟨h3, h4⟩
    · exact Or.inl h3
theorem zz_st2 {bs : Nat × Nat} {L : List (Option AV)} {ls' : Array Slot} {nL i : Nat} {v : AV} (hi : i + 1 < L.length) (hn : zz_nl L i = true)
    (h : lv_has ls' nL ((i, zz_cv bs v) :: (zz_lc bs 0 L).filter (fun q => !(q.1 == i) && (!(q.1 == i + 1) && !(q.1 + 1 == i && q.2.category == 2))))) : lv_has ls' nL (zz_lc bs 0 ((L.set i (some v)).set (i + 1) none)) := by
  refine ⟨h.1, h.2.1, fun q hq => h.2.2 q ?_⟩
  obtain ⟨k, u, h1, h2⟩ := zz_lc_inv bs _ 0 q hq
  rw [Nat.zero_add] at h2
  subst h2
  by_cases hk1 : k = i + 1
  · subst hk1
    rw [List.getElem?_set_self (by simpa using hi)] at h1
    cases h1
  · rw [List.getElem?_set_ne (Ne.symm hk1)] at h1
    by_cases hk : k = i
    · subst hk
      rw [List.getElem?_set_self (by omega)] at h1
      cases h1
      exact List.mem_cons_self
    · rw [List.getElem?_set_ne (Ne.symm hk)] at h1
      refine List.mem_cons_of_mem _ (List.mem_filter.mpr ⟨by have := zz_lc_mem bs L 0 k u h1; simpa using this, ?_⟩)
      have : ¬ (k + 1 = i ∧ (zz_cv bs u).category = 2) := by
        rintro ⟨rfl, hc⟩
        simp only [zz_nl, h1] at hn
        rw [zz_cat] at hc
        rcases u with x | x | x <;> simp_all
      simp only [Bool.and_eq_true, Bool.not_eq_true', beq_eq_false_iff_ne, ne_eq, Bool.and_eq_false_iff]
      refine ⟨hk, hk1, ?_⟩
      by_cases h3 : k + 1 = i
      · exact Or.inr fun h4 => this ⟨h3, h4⟩
      · exact Or.inl h3
/-! the contract's state: launch and frame in one tuple -/
abbrev CT : Type := Program × Launch × Env × Room × State × MethodId × Array Value × List Frame × Method × Code × Nat × va_G × ClassId × ClassId × (Nat × Nat) × (Nat × Nat) × (State → Prop) × (Option AV → AH → Prop) × (Nat × (Nat → Int32))
def zz_ret : CT → Option AV → AH → Prop
  | (p, l, e, R, s, m, args, below, meth, c, nL, D, cI, cJ, bs, NS, Q, RET, SC) => RET
def zz_R : CT → Room
  | (p, l, e, R, s, m, args, below, meth, c, nL, D, cI, cJ, bs, NS, Q, RET, SC) => R
def zz_NS : CT → Nat × Nat
  | (p, l, e, R, s, m, args, below, meth, c, nL, D, cI, cJ, bs, NS, Q, RET, SC) => NS
def zz_scr : CT → Nat × (Nat → Int32)
  | (p, l, e, R, s, m, args, below, meth, c, nL, D, cI, cJ, bs, NS, Q, RET, SC) => SC
/-- from here on the machine comes to Q: with these locals, this stack, these cells -/
def AW : CT → Nat → List (Option AV) → List AV → AH → Prop
  | (p, l, e, R, s, m, args, below, meth, c, nL, D, cI, cJ, bs, NS, Q, RET, SC), pc, L, st, h =>
    ∀ (H : Heap) (locs : List Loc) (ls : Array Slot), zz_wd D cI cJ bs h H → va_S (fun q => bs.1 ≤ q) s.heap H locs → NS.1 ≤ h.1.1 ∧ NS.2 ≤ h.1.2 → lv_has ls nL (zz_lc bs 0 L) →
      W p l e R s m args below meth c H locs (h.1.1 - NS.1) (h.1.2 - NS.2) Q (F0 m pc ls (st.map (zz_cv bs)))
def zz_ok : CT → ByteArray → String → String → Prop
  | (p, l, e, R, s, m, args, below, meth, c, nL, D, cI, cJ, bs, NS, Q, RET, SC), cc, own, mn => p.tables.exec = Jvm.exec ∧ c.code = cc ∧ c.maxLocals = nL ∧ s.vm.findClass own = some m.cls ∧ (∀ w ∈ zz_tbl, w.before args s = true) ∧ s.heap.size = bs.1 + NS.1 ∧
    va_K D vwCl [(cI, .int), (cJ, .long)] s ∧ meth.name = mn
def zz_nl_ : CT → Nat
  | (p, l, e, R, s, m, args, below, meth, c, nL, D, cI, cJ, bs, NS, Q, RET, SC) => nL
/-- the script, where there is one -/
def zz_sc : CT → Prop
  | (p, l, e, R, s, m, args, below, meth, c, nL, D, cI, cJ, bs, NS, Q, RET, SC) => va_X bs.2 SC.1 SC.2 s s.heap ∧ bs.2 < s.heap.size ∧ bs.2 < bs.1
/-- what a return does -/
def zz_rt (X : CT) (cc : ByteArray) : Prop := ∀ (v : Option AV) (h : AH) (pc : Nat) (L : List (Option AV)), zz_ret X v h →
  (match v with
    | none => decode cc pc = .ok (.return_, 1)
    | some (.inl _) => decode cc pc = .ok (.ireturn, 1)
    | some (.inr (.inl _)) => decode cc pc = .ok (.lreturn, 1)
    | _ => False) → AW X pc L v.toList h
def zz_C (X : CT) (cc : ByteArray) (own mn : String) (nL : Nat) : Prop := zz_ok X cc own mn ∧ zz_rt X cc ∧ zz_nl_ X = nL
theorem aw_weak {X : CT} {pc : Nat} {L L' : List (Option AV)} {st : List AV} {h : AH} (k : AW X pc L' st h) (hle : zz_le L' L) : AW X pc L st h := by
  obtain ⟨p, l, e, R, s, m, args, below, meth, c, nL, D, cI, cJ, bs, NS, Q, RET, SC⟩ := X
  intro H locs ls h1 h2 h3 h5
  exact k H locs ls h1 h2 h3 (zz_weak h5 hle)
theorem aw_eq {X : CT} {pc : Nat} {L L' : List (Option AV)} {st st' : List AV} {h h' : AH} (k : AW X pc L' st' h') (h1 : L = L') (h2 : st = st') (h3 : h = h') : AW X pc L st h := by subst h1; subst h2; subst h3; exact k
theorem aw_fin {X : CT} {pc : Nat} {L L' : List (Option AV)} {st : List AV} {h h' : AH} (k : AW X pc L' st h') (hle : zz_le L' L) (hh : h = h') : AW X pc L st h := by subst hh; exact aw_weak k hle
/-! ints -/
abbrev R32 (x : Int) : Prop := -2147483648 ≤ x ∧ x < 2147483648
abbrev R64 (x : Int) : Prop := -9223372036854775808 ≤ x ∧ x < 9223372036854775808
theorem i32_t {x : Int} (h : R32 x) : (Int32.ofInt x).toInt = x := Int32.toInt_ofInt_of_le h.1 h.2
theorem i64_t {x : Int} (h : R64 x) : (Int64.ofInt x).toInt = x := Int64.toInt_ofInt_of_le h.1 h.2
theorem i32_eq {x y : Int} (hx : R32 x) (hy : R32 y) : Int32.ofInt x = Int32.ofInt y ↔ x = y := by rw [← Int32.toInt_inj, i32_t hx, i32_t hy]
theorem i32_lt {x y : Int} (hx : R32 x) (hy : R32 y) : Int32.ofInt x < Int32.ofInt y ↔ x < y := by rw [Int32.lt_iff_toInt_lt, i32_t hx, i32_t hy]
theorem i32_le {x y : Int} (hx : R32 x) (hy : R32 y) : Int32.ofInt x ≤ Int32.ofInt y ↔ x ≤ y := by rw [Int32.le_iff_toInt_le, i32_t hx, i32_t hy]
theorem i32_0 : (0 : Int32) = Int32.ofInt 0 := by decide
theorem r32_0 : R32 0 := by constructor <;> decide
theorem i64_eq {x y : Int} (hx : R64 x) (hy : R64 y) : Int64.ofInt x = Int64.ofInt y ↔ x = y := by rw [← Int64.toInt_inj, i64_t hx, i64_t hy]
theorem i64_lt {x y : Int} (hx : R64 x) (hy : R64 y) : Int64.ofInt x < Int64.ofInt y ↔ x < y := by rw [Int64.lt_iff_toInt_lt, i64_t hx, i64_t hy]
theorem i64_0 : (0 : Int64) = Int64.ofInt 0 := by decide
theorem r64_0 : R64 0 := by constructor <;> decide
theorem i32_in {i : Int} {n : Nat} (h0 : 0 ≤ i) (h1 : i < n) (hn : n < 2147483648) : vp_in (Int32.ofInt i) n := by
  rw [vp_in_iff, i32_t ⟨by omega, by omega⟩]
  exact ⟨h0, h1⟩
theorem i32_cl {i : Int} {n : Nat} (h0 : 0 ≤ i) (h1 : i < n) (hn : n < 2147483648) : (Int32.ofInt i).toNatClampNeg = i.toNat := Int32.toNatClampNeg_ofInt_of_le (by omega) (by omega)
theorem i32_mx {x : Int} (h : x < 2147483648) : x ≤ Int32.maxValue.toInt := by
  have h1 : Int32.maxValue.toInt = 2147483647 := by decide
  omega
theorem i32_mn {x : Int} (h : -2147483648 ≤ x) : Int32.minValue.toInt ≤ x := by
  have h1 : Int32.minValue.toInt = -2147483648 := by decide
  omega
theorem i64_mx {x : Int} (h : x < 9223372036854775808) : x ≤ Int64.maxValue.toInt := by
  have h1 : Int64.maxValue.toInt = 9223372036854775807 := by decide
  omega
theorem i64_mn {x : Int} (h : -9223372036854775808 ≤ x) : Int64.minValue.toInt ≤ x := by
  have h1 : Int64.minValue.toInt = -9223372036854775808 := by decide
  omega
theorem i32_div {x y : Int} (hx : R32 x) (hy : R32 y) : Int32.ofInt (x.tdiv y) = Int32.ofInt x / Int32.ofInt y := Int32.ofInt_tdiv (i32_mn hx.1) (i32_mx hx.2) (i32_mn hy.1) (i32_mx hy.2)
theorem i64_div {x y : Int} (hx : R64 x) (hy : R64 y) : Int64.ofInt (x.tdiv y) = Int64.ofInt x / Int64.ofInt y := Int64.ofInt_tdiv (i64_mn hx.1) (i64_mx hx.2) (i64_mn hy.1) (i64_mx hy.2)
theorem i32_rem {x y : Int} (hx : R32 x) (hy : R32 y) : Int32.ofInt (x.tmod y) = Int32.ofInt x - Int32.ofInt x / Int32.ofInt y * Int32.ofInt y := by
  rw [← i32_div hx hy, ← Int32.ofInt_mul, ← Int32.ofInt_sub]
  congr 1
  have := Int.tmod_add_mul_tdiv x y
  rw [Int.mul_comm] at this
  omega
theorem i64_rem {x y : Int} (hx : R64 x) (hy : R64 y) : Int64.ofInt (x.tmod y) = Int64.ofInt x - Int64.ofInt x / Int64.ofInt y * Int64.ofInt y := by
  rw [← i64_div hx hy, ← Int64.ofInt_mul, ← Int64.ofInt_sub]
  congr 1
  have := Int.tmod_add_mul_tdiv x y
  rw [Int.mul_comm] at this
  omega
def zz_shl (x y : Int) : Int := (Int32.ofInt x <<< (Int32.ofInt y &&& 31)).toInt
def zz_shr (x y : Int) : Int := (Int32.ofInt x >>> (Int32.ofInt y &&& 31)).toInt
def zz_and (x y : Int) : Int := (Int32.ofInt x &&& Int32.ofInt y).toInt
def zz_or (x y : Int) : Int := (Int32.ofInt x ||| Int32.ofInt y).toInt
def zz_xor (x y : Int) : Int := (Int32.ofInt x ^^^ Int32.ofInt y).toInt
def zz_cmp (x y : Int) : Int := if y < x then 1 else if x = y then 0 else -1
theorem i64_cmp {x y : Int} (hx : R64 x) (hy : R64 y) : Int32.ofInt (zz_cmp x y) = lg_cmp (Int64.ofInt x) (Int64.ofInt y) := by
  unfold lg_cmp zz_cmp
  simp only [gt_iff_lt, i64_lt hy hx, i64_eq hx hy]
  split
  · rfl
  · split <;> rfl
theorem i64_cmpE (x y : Int) (h : x = y) : Int32.ofInt (zz_cmp x y) = lg_cmp (Int64.ofInt x) (Int64.ofInt y) := by
  subst h
  unfold lg_cmp zz_cmp
  simp [gt_iff_lt, Int64.lt_iff_toInt_lt]
/-- of one word -/
def zz_c1 : AV → Bool
  | .inr (.inl _) => false
  | _ => true
/-! THE ROWS -/
theorem aw_iconst {X : CT} {cc : ByteArray} {own mn : String} {nL : Nat} (C : zz_C X cc own mn nL) {pc : Nat} {L : List (Option AV)} {st : List AV} {h : AH} (n : Nat) {z : Int} (hd : decode cc pc = .ok (.iconst z, 1)) (hn : pc + 1 = n)  (k : AW X n L (vI z :: st) h) : AW X pc L (st) h := by
  subst hn
  obtain ⟨p, l, e, R, s, m, args, below, meth, c, nL, D, cI, cJ, bs, NS, Q, RET, SC⟩ := X
  obtain ⟨⟨ox, ob, oml, oown, ots, osz, oK, omn⟩, -, oL⟩ := C
  intro H locs ls h1 h2 h3 h5
  have k := k H locs ls h1 h2 h3 h5
  simp only [List.map_cons, zz_cv] at k ⊢
  exact lv_iconst ox ob hd rfl k
theorem aw_bipush {X : CT} {cc : ByteArray} {own mn : String} {nL : Nat} (C : zz_C X cc own mn nL) {pc : Nat} {L : List (Option AV)} {st : List AV} {h : AH} (n : Nat) {z : Int} (hd : decode cc pc = .ok (.bipush z, 2)) (hn : pc + 2 = n) (hz : (Int8.ofInt z).toInt32 = Int32.ofInt z) (k : AW X n L (vI z :: st) h) : AW X pc L (st) h := by
  subst hn
  obtain ⟨p, l, e, R, s, m, args, below, meth, c, nL, D, cI, cJ, bs, NS, Q, RET, SC⟩ := X
  obtain ⟨⟨ox, ob, oml, oown, ots, osz, oK, omn⟩, -, oL⟩ := C
  intro H locs ls h1 h2 h3 h5
  have k := k H locs ls h1 h2 h3 h5
  simp only [List.map_cons, zz_cv] at k ⊢
  exact lv_bipush ox ob hd hz k
theorem aw_sipush {X : CT} {cc : ByteArray} {own mn : String} {nL : Nat} (C : zz_C X cc own mn nL) {pc : Nat} {L : List (Option AV)} {st : List AV} {h : AH} (n : Nat) {z : Int} (hd : decode cc pc = .ok (.sipush z, 3)) (hn : pc + 3 = n) (hz : (Int16.ofInt z).toInt32 = Int32.ofInt z) (k : AW X n L (vI z :: st) h) : AW X pc L (st) h := by
  subst hn
  obtain ⟨p, l, e, R, s, m, args, below, meth, c, nL, D, cI, cJ, bs, NS, Q, RET, SC⟩ := X
  obtain ⟨⟨ox, ob, oml, oown, ots, osz, oK, omn⟩, -, oL⟩ := C
  intro H locs ls h1 h2 h3 h5
  have k := k H locs ls h1 h2 h3 h5
  simp only [List.map_cons, zz_cv] at k ⊢
  exact lv_sipush ox ob hd hz k
theorem aw_lconst {X : CT} {cc : ByteArray} {own mn : String} {nL : Nat} (C : zz_C X cc own mn nL) {pc : Nat} {L : List (Option AV)} {st : List AV} {h : AH} (n : Nat) {i : Fin 2} (z : Int) (hd : decode cc pc = .ok (.lconst i, 1)) (hn : pc + 1 = n) (hz : Int64.ofNat (i : Nat) = Int64.ofInt z) (k : AW X n L (vJ z :: st) h) : AW X pc L (st) h := by
  subst hn
  obtain ⟨p, l, e, R, s, m, args, below, meth, c, nL, D, cI, cJ, bs, NS, Q, RET, SC⟩ := X
  obtain ⟨⟨ox, ob, oml, oown, ots, osz, oK, omn⟩, -, oL⟩ := C
  intro H locs ls h1 h2 h3 h5
  have k := k H locs ls h1 h2 h3 h5
  simp only [List.map_cons, zz_cv] at k ⊢
  exact lv_lconst ox ob hd hz k
theorem aw_ldc2 {X : CT} {cc : ByteArray} {own mn : String} {nL : Nat} (C : zz_C X cc own mn nL) {pc : Nat} {L : List (Option AV)} {st : List AV} {h : AH} (n : Nat) {i : Nat} (z : Int) {v : Int64} (hd : decode cc pc = .ok (.ldc2_w i, 3)) (hn : pc + 3 = n) (hw : Cond.constantLong own i v ∈ zz_tbl) (hz : v = Int64.ofInt z) (k : AW X n L (vJ z :: st) h) : AW X pc L (st) h := by
  subst hn
  obtain ⟨p, l, e, R, s, m, args, below, meth, c, nL, D, cI, cJ, bs, NS, Q, RET, SC⟩ := X
  obtain ⟨⟨ox, ob, oml, oown, ots, osz, oK, omn⟩, -, oL⟩ := C
  intro H locs ls h1 h2 h3 h5
  have k := k H locs ls h1 h2 h3 h5
  simp only [List.map_cons, zz_cv] at k ⊢
  rw [← hz] at k
  exact lv_ldc2 ox ob oown (ots _ hw) hd k
theorem aw_iload_n {X : CT} {cc : ByteArray} {own mn : String} {nL : Nat} (C : zz_C X cc own mn nL) {pc : Nat} {L : List (Option AV)} {st : List AV} {h : AH} (n : Nat) {i : Fin 4} {x : Int} (hd : decode cc pc = .ok (.iload_n i, 1)) (hn : pc + 1 = n) (hL : L[(i : Nat)]? = some (some (vI x))) (k : AW X n L (vI x :: st) h) : AW X pc L (st) h := by
  subst hn
  obtain ⟨p, l, e, R, s, m, args, below, meth, c, nL, D, cI, cJ, bs, NS, Q, RET, SC⟩ := X
  obtain ⟨⟨ox, ob, oml, oown, ots, osz, oK, omn⟩, -, oL⟩ := C
  intro H locs ls h1 h2 h3 h5
  have k := k H locs ls h1 h2 h3 h5
  simp only [List.map_cons, zz_cv] at k ⊢
  exact lv_iload_n ox ob hd rfl (zz_lat h5 hL) k
theorem aw_iload {X : CT} {cc : ByteArray} {own mn : String} {nL : Nat} (C : zz_C X cc own mn nL) {pc : Nat} {L : List (Option AV)} {st : List AV} {h : AH} (n : Nat) {i : Nat} {x : Int} (hd : decode cc pc = .ok (.iload i, 2)) (hn : pc + 2 = n) (hL : L[i]? = some (some (vI x))) (k : AW X n L (vI x :: st) h) : AW X pc L (st) h := by
  subst hn
  obtain ⟨p, l, e, R, s, m, args, below, meth, c, nL, D, cI, cJ, bs, NS, Q, RET, SC⟩ := X
  obtain ⟨⟨ox, ob, oml, oown, ots, osz, oK, omn⟩, -, oL⟩ := C
  intro H locs ls h1 h2 h3 h5
  have k := k H locs ls h1 h2 h3 h5
  simp only [List.map_cons, zz_cv] at k ⊢
  exact lv_iload ox ob hd (zz_lat h5 hL) k
theorem aw_lload_n {X : CT} {cc : ByteArray} {own mn : String} {nL : Nat} (C : zz_C X cc own mn nL) {pc : Nat} {L : List (Option AV)} {st : List AV} {h : AH} (n : Nat) {i : Fin 4} {x : Int} (hd : decode cc pc = .ok (.lload_n i, 1)) (hn : pc + 1 = n) (hL : L[(i : Nat)]? = some (some (vJ x))) (k : AW X n L (vJ x :: st) h) : AW X pc L (st) h := by
  subst hn
  obtain ⟨p, l, e, R, s, m, args, below, meth, c, nL, D, cI, cJ, bs, NS, Q, RET, SC⟩ := X
  obtain ⟨⟨ox, ob, oml, oown, ots, osz, oK, omn⟩, -, oL⟩ := C
  intro H locs ls h1 h2 h3 h5
  have k := k H locs ls h1 h2 h3 h5
  simp only [List.map_cons, zz_cv] at k ⊢
  exact lv_lload_n ox ob hd rfl (zz_lat h5 hL) k
theorem aw_lload {X : CT} {cc : ByteArray} {own mn : String} {nL : Nat} (C : zz_C X cc own mn nL) {pc : Nat} {L : List (Option AV)} {st : List AV} {h : AH} (n : Nat) {i : Nat} {x : Int} (hd : decode cc pc = .ok (.lload i, 2)) (hn : pc + 2 = n) (hL : L[i]? = some (some (vJ x))) (k : AW X n L (vJ x :: st) h) : AW X pc L (st) h := by
  subst hn
  obtain ⟨p, l, e, R, s, m, args, below, meth, c, nL, D, cI, cJ, bs, NS, Q, RET, SC⟩ := X
  obtain ⟨⟨ox, ob, oml, oown, ots, osz, oK, omn⟩, -, oL⟩ := C
  intro H locs ls h1 h2 h3 h5
  have k := k H locs ls h1 h2 h3 h5
  simp only [List.map_cons, zz_cv] at k ⊢
  exact lv_lload ox ob hd (zz_lat h5 hL) k
theorem aw_aload_n {X : CT} {cc : ByteArray} {own mn : String} {nL : Nat} (C : zz_C X cc own mn nL) {pc : Nat} {L : List (Option AV)} {st : List AV} {h : AH} (n : Nat) {i : Fin 4} {x : Nat} (hd : decode cc pc = .ok (.aload_n i, 1)) (hn : pc + 1 = n) (hL : L[(i : Nat)]? = some (some (vR x))) (k : AW X n L (vR x :: st) h) : AW X pc L (st) h := by
  subst hn
  obtain ⟨p, l, e, R, s, m, args, below, meth, c, nL, D, cI, cJ, bs, NS, Q, RET, SC⟩ := X
  obtain ⟨⟨ox, ob, oml, oown, ots, osz, oK, omn⟩, -, oL⟩ := C
  intro H locs ls h1 h2 h3 h5
  have k := k H locs ls h1 h2 h3 h5
  simp only [List.map_cons, zz_cv] at k ⊢
  exact lv_aload_n ox ob hd rfl (zz_lat h5 hL) k
theorem aw_sload_n {X : CT} {cc : ByteArray} {own mn : String} {nL : Nat} (C : zz_C X cc own mn nL) {pc : Nat} {L : List (Option AV)} {st : List AV} {h : AH} (n : Nat) {i : Fin 4} (hd : decode cc pc = .ok (.aload_n i, 1)) (hn : pc + 1 = n) (hL : L[(i : Nat)]? = some (some vS)) (k : AW X n L (vS :: st) h) : AW X pc L (st) h := by
  subst hn
  obtain ⟨p, l, e, R, s, m, args, below, meth, c, nL, D, cI, cJ, bs, NS, Q, RET, SC⟩ := X
  obtain ⟨⟨ox, ob, oml, oown, ots, osz, oK, omn⟩, -, oL⟩ := C
  intro H locs ls h1 h2 h3 h5
  have k := k H locs ls h1 h2 h3 h5
  simp only [List.map_cons, zz_cv] at k ⊢
  exact lv_aload_n ox ob hd rfl (zz_lat h5 hL) k
theorem aw_istore_n {X : CT} {cc : ByteArray} {own mn : String} {nL : Nat} (C : zz_C X cc own mn nL) {pc : Nat} {L : List (Option AV)} {st : List AV} {h : AH} (n : Nat) (j : Nat) {i : Fin 4} {x : Int} (hd : decode cc pc = .ok (.istore_n i, 1)) (hn : pc + 1 = n) (hj : (i : Nat) = j) (hi : j < L.length ∧ j < nL) (hi2 : zz_nl L j = true) (k : AW X n (L.set j (some (vI x))) (st) h) : AW X pc L (vI x :: st) h := by
  subst hn
  obtain ⟨p, l, e, R, s, m, args, below, meth, c, nL, D, cI, cJ, bs, NS, Q, RET, SC⟩ := X
  obtain ⟨⟨ox, ob, oml, oown, ots, osz, oK, omn⟩, -, oL⟩ := C
  intro H locs ls h1 h2 h3 h5
  subst hj
  simp only [List.map_cons, zz_cv]
  exact lv_istore_n ox ob hd rfl h5 (by have := oL; simp only [zz_nl_] at this; omega) rfl (fun ls hl => k H locs ls h1 h2 h3 (zz_st1 (v := vI x) hi.1 hi2 hl))
theorem aw_astore_n {X : CT} {cc : ByteArray} {own mn : String} {nL : Nat} (C : zz_C X cc own mn nL) {pc : Nat} {L : List (Option AV)} {st : List AV} {h : AH} (n : Nat) (j : Nat) {i : Fin 4} {x : Nat} (hd : decode cc pc = .ok (.astore_n i, 1)) (hn : pc + 1 = n) (hj : (i : Nat) = j) (hi : j < L.length ∧ j < nL) (hi2 : zz_nl L j = true) (k : AW X n (L.set j (some (vR x))) (st) h) : AW X pc L (vR x :: st) h := by
  subst hn
  obtain ⟨p, l, e, R, s, m, args, below, meth, c, nL, D, cI, cJ, bs, NS, Q, RET, SC⟩ := X
  obtain ⟨⟨ox, ob, oml, oown, ots, osz, oK, omn⟩, -, oL⟩ := C
  intro H locs ls h1 h2 h3 h5
  subst hj
  simp only [List.map_cons, zz_cv]
  exact lv_astore_n ox ob hd rfl h5 (by have := oL; simp only [zz_nl_] at this; omega) rfl (fun ls hl => k H locs ls h1 h2 h3 (zz_st1 (v := vR x) hi.1 hi2 hl))
theorem aw_istore {X : CT} {cc : ByteArray} {own mn : String} {nL : Nat} (C : zz_C X cc own mn nL) {pc : Nat} {L : List (Option AV)} {st : List AV} {h : AH} (n : Nat) {i : Nat} {x : Int} (hd : decode cc pc = .ok (.istore i, 2)) (hn : pc + 2 = n) (hi : i < L.length ∧ i < nL) (hi2 : zz_nl L i = true) (k : AW X n (L.set i (some (vI x))) (st) h) : AW X pc L (vI x :: st) h := by
  subst hn
  obtain ⟨p, l, e, R, s, m, args, below, meth, c, nL, D, cI, cJ, bs, NS, Q, RET, SC⟩ := X
  obtain ⟨⟨ox, ob, oml, oown, ots, osz, oK, omn⟩, -, oL⟩ := C
  intro H locs ls h1 h2 h3 h5
  simp only [List.map_cons, zz_cv]
  exact lv_istore ox ob hd h5 (by have := oL; simp only [zz_nl_] at this; omega) rfl (fun ls hl => k H locs ls h1 h2 h3 (zz_st1 (v := vI x) hi.1 hi2 hl))
theorem aw_lstore_n {X : CT} {cc : ByteArray} {own mn : String} {nL : Nat} (C : zz_C X cc own mn nL) {pc : Nat} {L : List (Option AV)} {st : List AV} {h : AH} (n : Nat) (j : Nat) {i : Fin 4} {x : Int} (hd : decode cc pc = .ok (.lstore_n i, 1)) (hn : pc + 1 = n) (hj : (i : Nat) = j) (hi : j + 1 < L.length ∧ j + 1 < nL) (hi2 : zz_nl L j = true) (k : AW X n ((L.set j (some (vJ x))).set (j + 1) none) (st) h) : AW X pc L (vJ x :: st) h := by
  subst hn
  obtain ⟨p, l, e, R, s, m, args, below, meth, c, nL, D, cI, cJ, bs, NS, Q, RET, SC⟩ := X
  obtain ⟨⟨ox, ob, oml, oown, ots, osz, oK, omn⟩, -, oL⟩ := C
  intro H locs ls h1 h2 h3 h5
  subst hj
  simp only [List.map_cons, zz_cv]
  exact lv_lstore_n ox ob hd rfl h5 (by have := oL; simp only [zz_nl_] at this; omega) rfl (fun ls hl => k H locs ls h1 h2 h3 (zz_st2 (v := vJ x) hi.1 hi2 hl))
theorem aw_lstore {X : CT} {cc : ByteArray} {own mn : String} {nL : Nat} (C : zz_C X cc own mn nL) {pc : Nat} {L : List (Option AV)} {st : List AV} {h : AH} (n : Nat) {i : Nat} {x : Int} (hd : decode cc pc = .ok (.lstore i, 2)) (hn : pc + 2 = n) (hi : i + 1 < L.length ∧ i + 1 < nL) (hi2 : zz_nl L i = true) (k : AW X n ((L.set i (some (vJ x))).set (i + 1) none) (st) h) : AW X pc L (vJ x :: st) h := by
  subst hn
  obtain ⟨p, l, e, R, s, m, args, below, meth, c, nL, D, cI, cJ, bs, NS, Q, RET, SC⟩ := X
  obtain ⟨⟨ox, ob, oml, oown, ots, osz, oK, omn⟩, -, oL⟩ := C
  intro H locs ls h1 h2 h3 h5
  simp only [List.map_cons, zz_cv]
  exact lv_lstore ox ob hd h5 (by have := oL; simp only [zz_nl_] at this; omega) rfl (fun ls hl => k H locs ls h1 h2 h3 (zz_st2 (v := vJ x) hi.1 hi2 hl))
theorem zz_lplace {bs : Nat × Nat} {L : List (Option AV)} {i : Nat} {v : AV} (hL : L[i]? = some (some v)) : ∃ k : Nat, (zz_lc bs 0 L)[k]? = some (i, zz_cv bs v) := by
  have h1 := zz_lc_mem bs L 0 i v hL
  rw [Nat.zero_add] at h1
  exact List.getElem?_of_mem h1
theorem aw_iinc {X : CT} {cc : ByteArray} {own mn : String} {nL : Nat} (C : zz_C X cc own mn nL) {pc : Nat} {L : List (Option AV)} {st : List AV} {h : AH} (n : Nat) {i : Nat} {z x : Int} (hd : decode cc pc = .ok (.iinc i z, 3)) (hn : pc + 3 = n) (hL : L[i]? = some (some (vI x))) (hi : i < nL) (hi2 : zz_nl L i = true) (k : AW X n (L.set i (some (vI (x + z)))) (st) h) : AW X pc L (st) h := by
  subst hn
  obtain ⟨p, l, e, R, s, m, args, below, meth, c, nL, D, cI, cJ, bs, NS, Q, RET, SC⟩ := X
  obtain ⟨⟨ox, ob, oml, oown, ots, osz, oK, omn⟩, -, oL⟩ := C
  intro H locs ls h1 h2 h3 h5
  obtain ⟨kk, hk⟩ := zz_lplace (bs := bs) hL
  refine lv_iinc (v := Int32.ofInt (x + z)) ox ob hd h5 (k := kk) (x := Int32.ofInt x) hk (by rw [Int32.ofInt_add]) (by have := oL; simp only [zz_nl_] at this; omega) rfl (fun ls hl => k H locs ls h1 h2 h3 (zz_st1 (v := vI (x + z)) (List.getElem?_eq_some_iff.mp hL).1 hi2 hl))
theorem aw_iadd {X : CT} {cc : ByteArray} {own mn : String} {nL : Nat} (C : zz_C X cc own mn nL) {pc : Nat} {L : List (Option AV)} {st : List AV} {h : AH} (n : Nat) {x y : Int} (hd : decode cc pc = .ok (.iadd, 1)) (hn : pc + 1 = n)  (k : AW X n L (vI (x + y) :: st) h) : AW X pc L (vI y :: vI x :: st) h := by
  subst hn
  obtain ⟨p, l, e, R, s, m, args, below, meth, c, nL, D, cI, cJ, bs, NS, Q, RET, SC⟩ := X
  obtain ⟨⟨ox, ob, oml, oown, ots, osz, oK, omn⟩, -, oL⟩ := C
  intro H locs ls h1 h2 h3 h5
  have k := k H locs ls h1 h2 h3 h5
  simp only [List.map_cons, zz_cv, Int32.ofInt_add] at k ⊢
  exact lv_iadd ox ob hd k
theorem aw_isub {X : CT} {cc : ByteArray} {own mn : String} {nL : Nat} (C : zz_C X cc own mn nL) {pc : Nat} {L : List (Option AV)} {st : List AV} {h : AH} (n : Nat) {x y : Int} (hd : decode cc pc = .ok (.isub, 1)) (hn : pc + 1 = n)  (k : AW X n L (vI (x - y) :: st) h) : AW X pc L (vI y :: vI x :: st) h := by
  subst hn
  obtain ⟨p, l, e, R, s, m, args, below, meth, c, nL, D, cI, cJ, bs, NS, Q, RET, SC⟩ := X
  obtain ⟨⟨ox, ob, oml, oown, ots, osz, oK, omn⟩, -, oL⟩ := C
  intro H locs ls h1 h2 h3 h5
  have k := k H locs ls h1 h2 h3 h5
  simp only [List.map_cons, zz_cv, Int32.ofInt_sub] at k ⊢
  exact lv_isub ox ob hd k
theorem aw_imul {X : CT} {cc : ByteArray} {own mn : String} {nL : Nat} (C : zz_C X cc own mn nL) {pc : Nat} {L : List (Option AV)} {st : List AV} {h : AH} (n : Nat) {x y : Int} (hd : decode cc pc = .ok (.imul, 1)) (hn : pc + 1 = n)  (k : AW X n L (vI (x * y) :: st) h) : AW X pc L (vI y :: vI x :: st) h := by
  subst hn
  obtain ⟨p, l, e, R, s, m, args, below, meth, c, nL, D, cI, cJ, bs, NS, Q, RET, SC⟩ := X
  obtain ⟨⟨ox, ob, oml, oown, ots, osz, oK, omn⟩, -, oL⟩ := C
  intro H locs ls h1 h2 h3 h5
  have k := k H locs ls h1 h2 h3 h5
  simp only [List.map_cons, zz_cv, Int32.ofInt_mul] at k ⊢
  exact lv_imul ox ob hd k
theorem aw_ladd {X : CT} {cc : ByteArray} {own mn : String} {nL : Nat} (C : zz_C X cc own mn nL) {pc : Nat} {L : List (Option AV)} {st : List AV} {h : AH} (n : Nat) {x y : Int} (hd : decode cc pc = .ok (.ladd, 1)) (hn : pc + 1 = n)  (k : AW X n L (vJ (x + y) :: st) h) : AW X pc L (vJ y :: vJ x :: st) h := by
  subst hn
  obtain ⟨p, l, e, R, s, m, args, below, meth, c, nL, D, cI, cJ, bs, NS, Q, RET, SC⟩ := X
  obtain ⟨⟨ox, ob, oml, oown, ots, osz, oK, omn⟩, -, oL⟩ := C
  intro H locs ls h1 h2 h3 h5
  have k := k H locs ls h1 h2 h3 h5
  simp only [List.map_cons, zz_cv, Int64.ofInt_add] at k ⊢
  exact lv_ladd ox ob hd k
theorem aw_lmul {X : CT} {cc : ByteArray} {own mn : String} {nL : Nat} (C : zz_C X cc own mn nL) {pc : Nat} {L : List (Option AV)} {st : List AV} {h : AH} (n : Nat) {x y : Int} (hd : decode cc pc = .ok (.lmul, 1)) (hn : pc + 1 = n)  (k : AW X n L (vJ (x * y) :: st) h) : AW X pc L (vJ y :: vJ x :: st) h := by
  subst hn
  obtain ⟨p, l, e, R, s, m, args, below, meth, c, nL, D, cI, cJ, bs, NS, Q, RET, SC⟩ := X
  obtain ⟨⟨ox, ob, oml, oown, ots, osz, oK, omn⟩, -, oL⟩ := C
  intro H locs ls h1 h2 h3 h5
  have k := k H locs ls h1 h2 h3 h5
  simp only [List.map_cons, zz_cv, Int64.ofInt_mul] at k ⊢
  exact lv_lmul ox ob hd k
theorem aw_idiv {X : CT} {cc : ByteArray} {own mn : String} {nL : Nat} (C : zz_C X cc own mn nL) {pc : Nat} {L : List (Option AV)} {st : List AV} {h : AH} (n : Nat) {x y : Int} (hd : decode cc pc = .ok (.idiv, 1)) (hn : pc + 1 = n) (hr : R32 x ∧ R32 y ∧ y ≠ 0) (k : AW X n L (vI (Int.tdiv x y) :: st) h) : AW X pc L (vI y :: vI x :: st) h := by
  subst hn
  obtain ⟨p, l, e, R, s, m, args, below, meth, c, nL, D, cI, cJ, bs, NS, Q, RET, SC⟩ := X
  obtain ⟨⟨ox, ob, oml, oown, ots, osz, oK, omn⟩, -, oL⟩ := C
  intro H locs ls h1 h2 h3 h5
  have k := k H locs ls h1 h2 h3 h5
  simp only [List.map_cons, zz_cv, i32_div hr.1 hr.2.1] at k ⊢
  exact lv_idiv ox ob hd (by rw [i32_0, i32_eq hr.2.1 r32_0]; exact hr.2.2) k
theorem aw_irem {X : CT} {cc : ByteArray} {own mn : String} {nL : Nat} (C : zz_C X cc own mn nL) {pc : Nat} {L : List (Option AV)} {st : List AV} {h : AH} (n : Nat) {x y : Int} (hd : decode cc pc = .ok (.irem, 1)) (hn : pc + 1 = n) (hr : R32 x ∧ R32 y ∧ y ≠ 0) (k : AW X n L (vI (Int.tmod x y) :: st) h) : AW X pc L (vI y :: vI x :: st) h := by
  subst hn
  obtain ⟨p, l, e, R, s, m, args, below, meth, c, nL, D, cI, cJ, bs, NS, Q, RET, SC⟩ := X
  obtain ⟨⟨ox, ob, oml, oown, ots, osz, oK, omn⟩, -, oL⟩ := C
  intro H locs ls h1 h2 h3 h5
  have k := k H locs ls h1 h2 h3 h5
  simp only [List.map_cons, zz_cv, i32_rem hr.1 hr.2.1] at k ⊢
  exact lv_irem ox ob hd (by rw [i32_0, i32_eq hr.2.1 r32_0]; exact hr.2.2) k
theorem aw_ldiv {X : CT} {cc : ByteArray} {own mn : String} {nL : Nat} (C : zz_C X cc own mn nL) {pc : Nat} {L : List (Option AV)} {st : List AV} {h : AH} (n : Nat) {x y : Int} (hd : decode cc pc = .ok (.ldiv, 1)) (hn : pc + 1 = n) (hr : R64 x ∧ R64 y ∧ y ≠ 0) (k : AW X n L (vJ (Int.tdiv x y) :: st) h) : AW X pc L (vJ y :: vJ x :: st) h := by
  subst hn
  obtain ⟨p, l, e, R, s, m, args, below, meth, c, nL, D, cI, cJ, bs, NS, Q, RET, SC⟩ := X
  obtain ⟨⟨ox, ob, oml, oown, ots, osz, oK, omn⟩, -, oL⟩ := C
  intro H locs ls h1 h2 h3 h5
  have k := k H locs ls h1 h2 h3 h5
  simp only [List.map_cons, zz_cv, i64_div hr.1 hr.2.1] at k ⊢
  exact lv_ldiv ox ob hd (by rw [i64_0, i64_eq hr.2.1 r64_0]; exact hr.2.2) k
theorem aw_lrem {X : CT} {cc : ByteArray} {own mn : String} {nL : Nat} (C : zz_C X cc own mn nL) {pc : Nat} {L : List (Option AV)} {st : List AV} {h : AH} (n : Nat) {x y : Int} (hd : decode cc pc = .ok (.lrem, 1)) (hn : pc + 1 = n) (hr : R64 x ∧ R64 y ∧ y ≠ 0) (k : AW X n L (vJ (Int.tmod x y) :: st) h) : AW X pc L (vJ y :: vJ x :: st) h := by
  subst hn
  obtain ⟨p, l, e, R, s, m, args, below, meth, c, nL, D, cI, cJ, bs, NS, Q, RET, SC⟩ := X
  obtain ⟨⟨ox, ob, oml, oown, ots, osz, oK, omn⟩, -, oL⟩ := C
  intro H locs ls h1 h2 h3 h5
  have k := k H locs ls h1 h2 h3 h5
  simp only [List.map_cons, zz_cv, i64_rem hr.1 hr.2.1] at k ⊢
  exact lv_lrem ox ob hd (by rw [i64_0, i64_eq hr.2.1 r64_0]; exact hr.2.2) k
theorem aw_ishl {X : CT} {cc : ByteArray} {own mn : String} {nL : Nat} (C : zz_C X cc own mn nL) {pc : Nat} {L : List (Option AV)} {st : List AV} {h : AH} (n : Nat) {x y : Int} (hd : decode cc pc = .ok (.ishl, 1)) (hn : pc + 1 = n)  (k : AW X n L (vI (zz_shl x y) :: st) h) : AW X pc L (vI y :: vI x :: st) h := by
  subst hn
  obtain ⟨p, l, e, R, s, m, args, below, meth, c, nL, D, cI, cJ, bs, NS, Q, RET, SC⟩ := X
  obtain ⟨⟨ox, ob, oml, oown, ots, osz, oK, omn⟩, -, oL⟩ := C
  intro H locs ls h1 h2 h3 h5
  have k := k H locs ls h1 h2 h3 h5
  simp only [List.map_cons, zz_cv, zz_shl, Int32.ofInt_toInt] at k ⊢
  exact lv_ishl ox ob hd k
theorem aw_ishr {X : CT} {cc : ByteArray} {own mn : String} {nL : Nat} (C : zz_C X cc own mn nL) {pc : Nat} {L : List (Option AV)} {st : List AV} {h : AH} (n : Nat) {x y : Int} (hd : decode cc pc = .ok (.ishr, 1)) (hn : pc + 1 = n)  (k : AW X n L (vI (zz_shr x y) :: st) h) : AW X pc L (vI y :: vI x :: st) h := by
  subst hn
  obtain ⟨p, l, e, R, s, m, args, below, meth, c, nL, D, cI, cJ, bs, NS, Q, RET, SC⟩ := X
  obtain ⟨⟨ox, ob, oml, oown, ots, osz, oK, omn⟩, -, oL⟩ := C
  intro H locs ls h1 h2 h3 h5
  have k := k H locs ls h1 h2 h3 h5
  simp only [List.map_cons, zz_cv, zz_shr, Int32.ofInt_toInt] at k ⊢
  exact lv_ishr ox ob hd k
theorem aw_iand {X : CT} {cc : ByteArray} {own mn : String} {nL : Nat} (C : zz_C X cc own mn nL) {pc : Nat} {L : List (Option AV)} {st : List AV} {h : AH} (n : Nat) {x y : Int} (hd : decode cc pc = .ok (.iand, 1)) (hn : pc + 1 = n)  (k : AW X n L (vI (zz_and x y) :: st) h) : AW X pc L (vI y :: vI x :: st) h := by
  subst hn
  obtain ⟨p, l, e, R, s, m, args, below, meth, c, nL, D, cI, cJ, bs, NS, Q, RET, SC⟩ := X
  obtain ⟨⟨ox, ob, oml, oown, ots, osz, oK, omn⟩, -, oL⟩ := C
  intro H locs ls h1 h2 h3 h5
  have k := k H locs ls h1 h2 h3 h5
  simp only [List.map_cons, zz_cv, zz_and, Int32.ofInt_toInt] at k ⊢
  exact lv_iand ox ob hd k
theorem aw_ior {X : CT} {cc : ByteArray} {own mn : String} {nL : Nat} (C : zz_C X cc own mn nL) {pc : Nat} {L : List (Option AV)} {st : List AV} {h : AH} (n : Nat) {x y : Int} (hd : decode cc pc = .ok (.ior, 1)) (hn : pc + 1 = n)  (k : AW X n L (vI (zz_or x y) :: st) h) : AW X pc L (vI y :: vI x :: st) h := by
  subst hn
  obtain ⟨p, l, e, R, s, m, args, below, meth, c, nL, D, cI, cJ, bs, NS, Q, RET, SC⟩ := X
  obtain ⟨⟨ox, ob, oml, oown, ots, osz, oK, omn⟩, -, oL⟩ := C
  intro H locs ls h1 h2 h3 h5
  have k := k H locs ls h1 h2 h3 h5
  simp only [List.map_cons, zz_cv, zz_or, Int32.ofInt_toInt] at k ⊢
  exact lv_ior ox ob hd k
theorem aw_ixor {X : CT} {cc : ByteArray} {own mn : String} {nL : Nat} (C : zz_C X cc own mn nL) {pc : Nat} {L : List (Option AV)} {st : List AV} {h : AH} (n : Nat) {x y : Int} (hd : decode cc pc = .ok (.ixor, 1)) (hn : pc + 1 = n)  (k : AW X n L (vI (zz_xor x y) :: st) h) : AW X pc L (vI y :: vI x :: st) h := by
  subst hn
  obtain ⟨p, l, e, R, s, m, args, below, meth, c, nL, D, cI, cJ, bs, NS, Q, RET, SC⟩ := X
  obtain ⟨⟨ox, ob, oml, oown, ots, osz, oK, omn⟩, -, oL⟩ := C
  intro H locs ls h1 h2 h3 h5
  have k := k H locs ls h1 h2 h3 h5
  simp only [List.map_cons, zz_cv, zz_xor, Int32.ofInt_toInt] at k ⊢
  exact lv_ixor ox ob hd k
theorem aw_i2l {X : CT} {cc : ByteArray} {own mn : String} {nL : Nat} (C : zz_C X cc own mn nL) {pc : Nat} {L : List (Option AV)} {st : List AV} {h : AH} (n : Nat) {x : Int} (hd : decode cc pc = .ok (.i2l, 1)) (hn : pc + 1 = n) (hr : R32 x) (k : AW X n L (vJ x :: st) h) : AW X pc L (vI x :: st) h := by
  subst hn
  obtain ⟨p, l, e, R, s, m, args, below, meth, c, nL, D, cI, cJ, bs, NS, Q, RET, SC⟩ := X
  obtain ⟨⟨ox, ob, oml, oown, ots, osz, oK, omn⟩, -, oL⟩ := C
  intro H locs ls h1 h2 h3 h5
  have k := k H locs ls h1 h2 h3 h5
  simp only [List.map_cons, zz_cv] at k ⊢
  exact lv_i2l ox ob hd (by rw [← Int64.toInt_inj, Int32.toInt_toInt64, i32_t hr, i64_t ⟨by omega, by omega⟩]) k
theorem aw_lcmp {X : CT} {cc : ByteArray} {own mn : String} {nL : Nat} (C : zz_C X cc own mn nL) {pc : Nat} {L : List (Option AV)} {st : List AV} {h : AH} (n : Nat) {x y : Int} (hd : decode cc pc = .ok (.lcmp, 1)) (hn : pc + 1 = n) (hr : x = y ∨ (R64 x ∧ R64 y)) (k : AW X n L (vI (zz_cmp x y) :: st) h) : AW X pc L (vJ y :: vJ x :: st) h := by
  subst hn
  obtain ⟨p, l, e, R, s, m, args, below, meth, c, nL, D, cI, cJ, bs, NS, Q, RET, SC⟩ := X
  obtain ⟨⟨ox, ob, oml, oown, ots, osz, oK, omn⟩, -, oL⟩ := C
  intro H locs ls h1 h2 h3 h5
  have k := k H locs ls h1 h2 h3 h5
  simp only [List.map_cons, zz_cv] at k ⊢
  rw [hr.elim (fun e => i64_cmpE x y e) (fun r => i64_cmp r.1 r.2)] at k
  exact W.lcmp ox ob hd k
theorem aw_dup {X : CT} {cc : ByteArray} {own mn : String} {nL : Nat} (C : zz_C X cc own mn nL) {pc : Nat} {L : List (Option AV)} {st : List AV} {h : AH} (n : Nat) {v : AV} (hd : decode cc pc = .ok (.dup, 1)) (hn : pc + 1 = n) (hv : zz_c1 v = true) (k : AW X n L (v :: v :: st) h) : AW X pc L (v :: st) h := by
  subst hn
  obtain ⟨p, l, e, R, s, m, args, below, meth, c, nL, D, cI, cJ, bs, NS, Q, RET, SC⟩ := X
  obtain ⟨⟨ox, ob, oml, oown, ots, osz, oK, omn⟩, -, oL⟩ := C
  intro H locs ls h1 h2 h3 h5
  have k := k H locs ls h1 h2 h3 h5
  simp only [List.map_cons] at k ⊢
  exact lv_dup ox ob hd (by rw [zz_cat]; rcases v with x | x | x <;> simp_all [zz_c1]) k
theorem aw_dup2 {X : CT} {cc : ByteArray} {own mn : String} {nL : Nat} (C : zz_C X cc own mn nL) {pc : Nat} {L : List (Option AV)} {st : List AV} {h : AH} (n : Nat) {v u : AV} (hd : decode cc pc = .ok (.dup2, 1)) (hn : pc + 1 = n) (hv : zz_c1 v = true ∧ zz_c1 u = true) (k : AW X n L (v :: u :: v :: u :: st) h) : AW X pc L (v :: u :: st) h := by
  subst hn
  obtain ⟨p, l, e, R, s, m, args, below, meth, c, nL, D, cI, cJ, bs, NS, Q, RET, SC⟩ := X
  obtain ⟨⟨ox, ob, oml, oown, ots, osz, oK, omn⟩, -, oL⟩ := C
  intro H locs ls h1 h2 h3 h5
  have k := k H locs ls h1 h2 h3 h5
  simp only [List.map_cons] at k ⊢
  exact lv_dup2_11 ox ob hd (by rw [zz_cat]; rcases v with x | x | x <;> simp_all [zz_c1]) (by rw [zz_cat]; rcases u with x | x | x <;> simp_all [zz_c1]) k
theorem aw_icmp_eq {X : CT} {cc : ByteArray} {own mn : String} {nL : Nat} (C : zz_C X cc own mn nL) {pc : Nat} {L : List (Option AV)} {st : List AV} {h : AH} (n t : Nat) {x y off : Int} (hd : decode cc pc = .ok (.if_icmp .eq off, 3)) (hn : pc + 3 = n) (ht : (pc : Int) + off = t) (hr : R32 x ∧ R32 y) (kt : x = y → AW X t L st h) (kf : ¬ (x = y) → AW X n L st h) : AW X pc L (vI y :: vI x :: st) h := by
  subst hn
  obtain ⟨p, l, e, R, s, m, args, below, meth, c, nL, D, cI, cJ, bs, NS, Q, RET, SC⟩ := X
  obtain ⟨⟨ox, ob, oml, oown, ots, osz, oK, omn⟩, -, oL⟩ := C
  intro H locs ls h1 h2 h3 h5
  simp only [List.map_cons, zz_cv]
  refine lv_icmp_eq ox ob hd ht (fun hc => ?_) (fun hc => ?_)
  · rw [i32_eq hr.1 hr.2] at hc
    exact kt hc H locs ls h1 h2 h3 h5
  · rw [i32_eq hr.1 hr.2] at hc
    exact kf hc H locs ls h1 h2 h3 h5
theorem aw_icmp_ne {X : CT} {cc : ByteArray} {own mn : String} {nL : Nat} (C : zz_C X cc own mn nL) {pc : Nat} {L : List (Option AV)} {st : List AV} {h : AH} (n t : Nat) {x y off : Int} (hd : decode cc pc = .ok (.if_icmp .ne off, 3)) (hn : pc + 3 = n) (ht : (pc : Int) + off = t) (hr : R32 x ∧ R32 y) (kt : ¬ x = y → AW X t L st h) (kf : x = y → AW X n L st h) : AW X pc L (vI y :: vI x :: st) h := by
  subst hn
  obtain ⟨p, l, e, R, s, m, args, below, meth, c, nL, D, cI, cJ, bs, NS, Q, RET, SC⟩ := X
  obtain ⟨⟨ox, ob, oml, oown, ots, osz, oK, omn⟩, -, oL⟩ := C
  intro H locs ls h1 h2 h3 h5
  simp only [List.map_cons, zz_cv]
  refine lv_icmp_ne ox ob hd ht (fun hc => ?_) (fun hc => ?_)
  · rw [i32_eq hr.1 hr.2] at hc
    exact kt hc H locs ls h1 h2 h3 h5
  · rw [i32_eq hr.1 hr.2] at hc
    exact kf hc H locs ls h1 h2 h3 h5
theorem aw_icmp_lt {X : CT} {cc : ByteArray} {own mn : String} {nL : Nat} (C : zz_C X cc own mn nL) {pc : Nat} {L : List (Option AV)} {st : List AV} {h : AH} (n t : Nat) {x y off : Int} (hd : decode cc pc = .ok (.if_icmp .lt off, 3)) (hn : pc + 3 = n) (ht : (pc : Int) + off = t) (hr : R32 x ∧ R32 y) (kt : x < y → AW X t L st h) (kf : ¬ (x < y) → AW X n L st h) : AW X pc L (vI y :: vI x :: st) h := by
  subst hn
  obtain ⟨p, l, e, R, s, m, args, below, meth, c, nL, D, cI, cJ, bs, NS, Q, RET, SC⟩ := X
  obtain ⟨⟨ox, ob, oml, oown, ots, osz, oK, omn⟩, -, oL⟩ := C
  intro H locs ls h1 h2 h3 h5
  simp only [List.map_cons, zz_cv]
  refine lv_icmp_lt ox ob hd ht (fun hc => ?_) (fun hc => ?_)
  · rw [i32_lt hr.1 hr.2] at hc
    exact kt hc H locs ls h1 h2 h3 h5
  · rw [i32_lt hr.1 hr.2] at hc
    exact kf hc H locs ls h1 h2 h3 h5
theorem aw_icmp_ge {X : CT} {cc : ByteArray} {own mn : String} {nL : Nat} (C : zz_C X cc own mn nL) {pc : Nat} {L : List (Option AV)} {st : List AV} {h : AH} (n t : Nat) {x y off : Int} (hd : decode cc pc = .ok (.if_icmp .ge off, 3)) (hn : pc + 3 = n) (ht : (pc : Int) + off = t) (hr : R32 x ∧ R32 y) (kt : y ≤ x → AW X t L st h) (kf : ¬ (y ≤ x) → AW X n L st h) : AW X pc L (vI y :: vI x :: st) h := by
  subst hn
  obtain ⟨p, l, e, R, s, m, args, below, meth, c, nL, D, cI, cJ, bs, NS, Q, RET, SC⟩ := X
  obtain ⟨⟨ox, ob, oml, oown, ots, osz, oK, omn⟩, -, oL⟩ := C
  intro H locs ls h1 h2 h3 h5
  simp only [List.map_cons, zz_cv]
  refine lv_icmp_ge ox ob hd ht (fun hc => ?_) (fun hc => ?_)
  · rw [i32_le hr.2 hr.1] at hc
    exact kt hc H locs ls h1 h2 h3 h5
  · rw [i32_le hr.2 hr.1] at hc
    exact kf hc H locs ls h1 h2 h3 h5
theorem aw_icmp_gt {X : CT} {cc : ByteArray} {own mn : String} {nL : Nat} (C : zz_C X cc own mn nL) {pc : Nat} {L : List (Option AV)} {st : List AV} {h : AH} (n t : Nat) {x y off : Int} (hd : decode cc pc = .ok (.if_icmp .gt off, 3)) (hn : pc + 3 = n) (ht : (pc : Int) + off = t) (hr : R32 x ∧ R32 y) (kt : y < x → AW X t L st h) (kf : ¬ (y < x) → AW X n L st h) : AW X pc L (vI y :: vI x :: st) h := by
  subst hn
  obtain ⟨p, l, e, R, s, m, args, below, meth, c, nL, D, cI, cJ, bs, NS, Q, RET, SC⟩ := X
  obtain ⟨⟨ox, ob, oml, oown, ots, osz, oK, omn⟩, -, oL⟩ := C
  intro H locs ls h1 h2 h3 h5
  simp only [List.map_cons, zz_cv]
  refine lv_icmp_gt ox ob hd ht (fun hc => ?_) (fun hc => ?_)
  · rw [i32_lt hr.2 hr.1] at hc
    exact kt hc H locs ls h1 h2 h3 h5
  · rw [i32_lt hr.2 hr.1] at hc
    exact kf hc H locs ls h1 h2 h3 h5
theorem aw_icmp_le {X : CT} {cc : ByteArray} {own mn : String} {nL : Nat} (C : zz_C X cc own mn nL) {pc : Nat} {L : List (Option AV)} {st : List AV} {h : AH} (n t : Nat) {x y off : Int} (hd : decode cc pc = .ok (.if_icmp .le off, 3)) (hn : pc + 3 = n) (ht : (pc : Int) + off = t) (hr : R32 x ∧ R32 y) (kt : x ≤ y → AW X t L st h) (kf : ¬ (x ≤ y) → AW X n L st h) : AW X pc L (vI y :: vI x :: st) h := by
  subst hn
  obtain ⟨p, l, e, R, s, m, args, below, meth, c, nL, D, cI, cJ, bs, NS, Q, RET, SC⟩ := X
  obtain ⟨⟨ox, ob, oml, oown, ots, osz, oK, omn⟩, -, oL⟩ := C
  intro H locs ls h1 h2 h3 h5
  simp only [List.map_cons, zz_cv]
  refine lv_icmp_le ox ob hd ht (fun hc => ?_) (fun hc => ?_)
  · rw [i32_le hr.1 hr.2] at hc
    exact kt hc H locs ls h1 h2 h3 h5
  · rw [i32_le hr.1 hr.2] at hc
    exact kf hc H locs ls h1 h2 h3 h5
theorem aw_if_eq {X : CT} {cc : ByteArray} {own mn : String} {nL : Nat} (C : zz_C X cc own mn nL) {pc : Nat} {L : List (Option AV)} {st : List AV} {h : AH} (n t : Nat) {x off : Int} (hd : decode cc pc = .ok (.ifCond .eq off, 3)) (hn : pc + 3 = n) (ht : (pc : Int) + off = t) (hr : R32 x) (kt : x = 0 → AW X t L st h) (kf : ¬ (x = 0) → AW X n L st h) : AW X pc L (vI x :: st) h := by
  subst hn
  obtain ⟨p, l, e, R, s, m, args, below, meth, c, nL, D, cI, cJ, bs, NS, Q, RET, SC⟩ := X
  obtain ⟨⟨ox, ob, oml, oown, ots, osz, oK, omn⟩, -, oL⟩ := C
  intro H locs ls h1 h2 h3 h5
  simp only [List.map_cons, zz_cv]
  refine lv_if_eq ox ob hd ht (fun hc => ?_) (fun hc => ?_)
  · rw [i32_0, i32_eq hr r32_0] at hc
    exact kt hc H locs ls h1 h2 h3 h5
  · rw [i32_0, i32_eq hr r32_0] at hc
    exact kf hc H locs ls h1 h2 h3 h5
theorem aw_if_ne {X : CT} {cc : ByteArray} {own mn : String} {nL : Nat} (C : zz_C X cc own mn nL) {pc : Nat} {L : List (Option AV)} {st : List AV} {h : AH} (n t : Nat) {x off : Int} (hd : decode cc pc = .ok (.ifCond .ne off, 3)) (hn : pc + 3 = n) (ht : (pc : Int) + off = t) (hr : R32 x) (kt : ¬ x = 0 → AW X t L st h) (kf : x = 0 → AW X n L st h) : AW X pc L (vI x :: st) h := by
  subst hn
  obtain ⟨p, l, e, R, s, m, args, below, meth, c, nL, D, cI, cJ, bs, NS, Q, RET, SC⟩ := X
  obtain ⟨⟨ox, ob, oml, oown, ots, osz, oK, omn⟩, -, oL⟩ := C
  intro H locs ls h1 h2 h3 h5
  simp only [List.map_cons, zz_cv]
  refine lv_if_ne ox ob hd ht (fun hc => ?_) (fun hc => ?_)
  · rw [i32_0, i32_eq hr r32_0] at hc
    exact kt hc H locs ls h1 h2 h3 h5
  · rw [i32_0, i32_eq hr r32_0] at hc
    exact kf hc H locs ls h1 h2 h3 h5
theorem aw_if_lt {X : CT} {cc : ByteArray} {own mn : String} {nL : Nat} (C : zz_C X cc own mn nL) {pc : Nat} {L : List (Option AV)} {st : List AV} {h : AH} (n t : Nat) {x off : Int} (hd : decode cc pc = .ok (.ifCond .lt off, 3)) (hn : pc + 3 = n) (ht : (pc : Int) + off = t) (hr : R32 x) (kt : x < 0 → AW X t L st h) (kf : ¬ (x < 0) → AW X n L st h) : AW X pc L (vI x :: st) h := by
  subst hn
  obtain ⟨p, l, e, R, s, m, args, below, meth, c, nL, D, cI, cJ, bs, NS, Q, RET, SC⟩ := X
  obtain ⟨⟨ox, ob, oml, oown, ots, osz, oK, omn⟩, -, oL⟩ := C
  intro H locs ls h1 h2 h3 h5
  simp only [List.map_cons, zz_cv]
  refine lv_if_lt ox ob hd ht (fun hc => ?_) (fun hc => ?_)
  · rw [i32_0, i32_lt hr r32_0] at hc
    exact kt hc H locs ls h1 h2 h3 h5
  · rw [i32_0, i32_lt hr r32_0] at hc
    exact kf hc H locs ls h1 h2 h3 h5
theorem aw_if_ge {X : CT} {cc : ByteArray} {own mn : String} {nL : Nat} (C : zz_C X cc own mn nL) {pc : Nat} {L : List (Option AV)} {st : List AV} {h : AH} (n t : Nat) {x off : Int} (hd : decode cc pc = .ok (.ifCond .ge off, 3)) (hn : pc + 3 = n) (ht : (pc : Int) + off = t) (hr : R32 x) (kt : 0 ≤ x → AW X t L st h) (kf : ¬ (0 ≤ x) → AW X n L st h) : AW X pc L (vI x :: st) h := by
  subst hn
  obtain ⟨p, l, e, R, s, m, args, below, meth, c, nL, D, cI, cJ, bs, NS, Q, RET, SC⟩ := X
  obtain ⟨⟨ox, ob, oml, oown, ots, osz, oK, omn⟩, -, oL⟩ := C
  intro H locs ls h1 h2 h3 h5
  simp only [List.map_cons, zz_cv]
  refine lv_if_ge ox ob hd ht (fun hc => ?_) (fun hc => ?_)
  · rw [i32_0, i32_le r32_0 hr] at hc
    exact kt hc H locs ls h1 h2 h3 h5
  · rw [i32_0, i32_le r32_0 hr] at hc
    exact kf hc H locs ls h1 h2 h3 h5
theorem aw_if_gt {X : CT} {cc : ByteArray} {own mn : String} {nL : Nat} (C : zz_C X cc own mn nL) {pc : Nat} {L : List (Option AV)} {st : List AV} {h : AH} (n t : Nat) {x off : Int} (hd : decode cc pc = .ok (.ifCond .gt off, 3)) (hn : pc + 3 = n) (ht : (pc : Int) + off = t) (hr : R32 x) (kt : 0 < x → AW X t L st h) (kf : ¬ (0 < x) → AW X n L st h) : AW X pc L (vI x :: st) h := by
  subst hn
  obtain ⟨p, l, e, R, s, m, args, below, meth, c, nL, D, cI, cJ, bs, NS, Q, RET, SC⟩ := X
  obtain ⟨⟨ox, ob, oml, oown, ots, osz, oK, omn⟩, -, oL⟩ := C
  intro H locs ls h1 h2 h3 h5
  simp only [List.map_cons, zz_cv]
  refine lv_if_gt ox ob hd ht (fun hc => ?_) (fun hc => ?_)
  · rw [i32_0, i32_lt r32_0 hr] at hc
    exact kt hc H locs ls h1 h2 h3 h5
  · rw [i32_0, i32_lt r32_0 hr] at hc
    exact kf hc H locs ls h1 h2 h3 h5
theorem aw_if_le {X : CT} {cc : ByteArray} {own mn : String} {nL : Nat} (C : zz_C X cc own mn nL) {pc : Nat} {L : List (Option AV)} {st : List AV} {h : AH} (n t : Nat) {x off : Int} (hd : decode cc pc = .ok (.ifCond .le off, 3)) (hn : pc + 3 = n) (ht : (pc : Int) + off = t) (hr : R32 x) (kt : x ≤ 0 → AW X t L st h) (kf : ¬ (x ≤ 0) → AW X n L st h) : AW X pc L (vI x :: st) h := by
  subst hn
  obtain ⟨p, l, e, R, s, m, args, below, meth, c, nL, D, cI, cJ, bs, NS, Q, RET, SC⟩ := X
  obtain ⟨⟨ox, ob, oml, oown, ots, osz, oK, omn⟩, -, oL⟩ := C
  intro H locs ls h1 h2 h3 h5
  simp only [List.map_cons, zz_cv]
  refine lv_if_le ox ob hd ht (fun hc => ?_) (fun hc => ?_)
  · rw [i32_0, i32_le hr r32_0] at hc
    exact kt hc H locs ls h1 h2 h3 h5
  · rw [i32_0, i32_le hr r32_0] at hc
    exact kf hc H locs ls h1 h2 h3 h5
theorem aw_icmp_eqE {X : CT} {cc : ByteArray} {own mn : String} {nL : Nat} (C : zz_C X cc own mn nL) {pc : Nat} {L : List (Option AV)} {st : List AV} {h : AH} (n t : Nat) {x off : Int} (hd : decode cc pc = .ok (.if_icmp .eq off, 3)) (hn : pc + 3 = n) (ht : (pc : Int) + off = t) (kt : AW X t L st h) : AW X pc L (vI x :: vI x :: st) h := by
  subst hn
  obtain ⟨p, l, e, R, s, m, args, below, meth, c, nL, D, cI, cJ, bs, NS, Q, RET, SC⟩ := X
  obtain ⟨⟨ox, ob, oml, oown, ots, osz, oK, omn⟩, -, oL⟩ := C
  intro H locs ls h1 h2 h3 h5
  simp only [List.map_cons, zz_cv]
  exact lv_icmp_eq ox ob hd ht (fun _ => kt H locs ls h1 h2 h3 h5) (fun hc => absurd rfl hc)
theorem aw_goto {X : CT} {cc : ByteArray} {own mn : String} {nL : Nat} (C : zz_C X cc own mn nL) {pc : Nat} {L : List (Option AV)} {st : List AV} {h : AH} (t : Nat) {off : Int} (hd : decode cc pc = .ok (.goto off, 3)) (ht : (pc : Int) + off = t) (k : AW X t L st h) : AW X pc L st h := by
  obtain ⟨p, l, e, R, s, m, args, below, meth, c, nL, D, cI, cJ, bs, NS, Q, RET, SC⟩ := X
  obtain ⟨⟨ox, ob, oml, oown, ots, osz, oK, omn⟩, -, oL⟩ := C
  intro H locs ls h1 h2 h3 h5
  exact lv_goto ox ob hd ht (k H locs ls h1 h2 h3 h5)
theorem aw_tableIn {X : CT} {cc : ByteArray} {own mn : String} {nL : Nat} (C : zz_C X cc own mn nL) {pc : Nat} {L : List (Option AV)} {st : List AV} {h : AH} (t : Nat) {dflt lo hi x off : Int} {offs : Array Int} {len : Nat} (hd : decode cc pc = .ok (.tableswitch dflt lo hi offs, len)) (hr : R32 x) (ha : lo ≤ x ∧ x ≤ hi) (ho : offs[(x - lo).toNat]? = some off) (ht : (pc : Int) + off = t) (k : AW X t L st h) : AW X pc L (vI x :: st) h := by
  obtain ⟨p, l, e, R, s, m, args, below, meth, c, nL, D, cI, cJ, bs, NS, Q, RET, SC⟩ := X
  obtain ⟨⟨ox, ob, oml, oown, ots, osz, oK, omn⟩, -, oL⟩ := C
  intro H locs ls h1 h2 h3 h5
  simp only [List.map_cons, zz_cv]
  exact lv_tableIn ox ob hd (by rw [i32_t hr]; omega) (by rw [i32_t hr]; omega) (by rw [i32_t hr]; exact ho) ht (k H locs ls h1 h2 h3 h5)
theorem aw_tableOut {X : CT} {cc : ByteArray} {own mn : String} {nL : Nat} (C : zz_C X cc own mn nL) {pc : Nat} {L : List (Option AV)} {st : List AV} {h : AH} (t : Nat) {dflt lo hi x : Int} {offs : Array Int} {len : Nat} (hd : decode cc pc = .ok (.tableswitch dflt lo hi offs, len)) (hr : R32 x) (ha : x < lo ∨ hi < x) (ht : (pc : Int) + dflt = t) (k : AW X t L st h) : AW X pc L (vI x :: st) h := by
  obtain ⟨p, l, e, R, s, m, args, below, meth, c, nL, D, cI, cJ, bs, NS, Q, RET, SC⟩ := X
  obtain ⟨⟨ox, ob, oml, oown, ots, osz, oK, omn⟩, -, oL⟩ := C
  intro H locs ls h1 h2 h3 h5
  simp only [List.map_cons, zz_cv]
  exact lv_tableOut ox ob hd (by rw [i32_t hr]; exact ha) ht (k H locs ls h1 h2 h3 h5)
end
section
/-! fields, rows, making, calls, returns over the abstract machine -/
theorem zz_wd_put {D : va_G} {cI cJ : ClassId} {bs : Nat × Nat} {h : AH} {H H' : Heap} {k : Nat} {x : AC} (hw : zz_wd D cI cJ bs h H) (hk : k < h.1.1) (hx : va_at D vwCl (bs.1 + k, zz_ce cI cJ bs x) H') (hs : H'.size = H.size) (ho : ∀ q : Nat, q ≠ bs.1 + k → H'[q]? = H[q]?) : zz_wd D cI cJ bs (zz_put h k x) H' := by
  refine ⟨by rw [hs]; exact hw.1, fun j hj => ?_, fun j hj => ?_⟩
  · by_cases e : j = k
    · subst e
      simp only [zz_put, if_true]
      exact hx
    · simp only [zz_put, if_neg e]
      exact (hw.2.1 j hj).kept (ho _ (fun z => e (by have z' : bs.1 + j = bs.1 + k := z
                                                     omega)))
  · have hj' : h.1.1 ≤ j := hj
    simp only [zz_put]
    rw [if_neg (by omega)]
    exact hw.2.2 j hj'
theorem zz_wd_new {D : va_G} {cI cJ : ClassId} {bs : Nat × Nat} {h : AH} {H H' : Heap} {sz : Nat} {x : AC} (hw : zz_wd D cI cJ bs h H) (hx : va_at D vwCl (bs.1 + h.1.1, zz_ce cI cJ bs x) H') (hs : H'.size = H.size + 1) (ho : ∀ q : Nat, q < H.size → H'[q]? = H[q]?) : zz_wd D cI cJ bs (zz_new h sz x) H' := by
  refine ⟨by rw [hs, hw.1]; simp only [zz_new]; omega, fun j hj => ?_, fun j hj => ?_⟩
  · have hj' : j < h.1.1 + 1 := hj
    by_cases e : j = h.1.1
    · subst e
      simp only [zz_new, if_true]
      exact hx
    · simp only [zz_new, if_neg e]
      exact (hw.2.1 j (by omega)).kept (ho _ (by have := hw.1; omega))
  · have hj' : h.1.1 + 1 ≤ j := hj
    simp only [zz_new]
    rw [if_neg (by omega)]
    exact hw.2.2 j (by omega)
theorem zz_live {D : va_G} {cI cJ : ClassId} {bs : Nat × Nat} {h : AH} {H : Heap} {k : Nat} (hw : zz_wd D cI cJ bs h H) (hk : h.2 k ≠ zz_dead) : k < h.1.1 := by
  rcases Nat.lt_or_ge k h.1.1 with q | q
  · exact q
  · exact absurd (hw.2.2 k q) hk
theorem zz_P1 {D : va_G} {q : Nat × va_E} {H : Heap} (h : va_at D vwCl q H) : va_P D vwCl [q] H := by
  intro k q' hk
  have hl : k < 1 := (List.getElem?_eq_some_iff.mp hk).1
  rw [show k = 0 by omega] at hk
  cases hk
  exact h
theorem zz_at {D : va_G} {cI cJ : ClassId} {bs : Nat × Nat} {h : AH} {H : Heap} {k : Nat} {x : AC} (hw : zz_wd D cI cJ bs h H) (hg : zz_get h k = x) (hx : x ≠ zz_dead) : k < h.1.1 ∧ va_at D vwCl (bs.1 + k, zz_ce cI cJ bs x) H := by
  unfold zz_get at hg
  have hk := zz_live hw (by rw [hg]; exact hx)
  have := hw.2.1 k hk
  rw [hg] at this
  exact ⟨hk, this⟩
theorem zz_ndA {n : Nat} {f : Int → Int} : (cA n f : AC) ≠ zz_dead := by intro h; cases h
theorem zz_ndL {n : Nat} {f : Int → Int} : (cL n f : AC) ≠ zz_dead := by intro h; cases h
theorem zz_ndO {ci : Nat} {fs : List AV} (h : ci < 5) : (cO ci fs : AC) ≠ zz_dead := by
  intro e
  have := congrArg (fun x : AC => match x with | .inl q => q.1 | _ => 0) e
  simp only [zz_dead] at this
  omega
theorem lw_good : ∀ w ∈ zz_tbl, goodWord w = true := fun w hw => (List.mem_filter.mp hw).2
theorem zz_goodIn {ws : List Cond} (h : ∀ w ∈ ws, w ∈ zz_tbl) : GoodIn zz_tbl ws := fun w hw => ⟨h w hw, good_of_word (lw_good w (h w hw))⟩
/-! fields -/
def zz_fl (own : String) (idx ci i : Nat) (fin : Bool) (ty : FieldType) : Prop :=
  ∃ (Cn : String) (T : u_T) (N : Nat) (tys : Nat → FieldType), vwCl[ci]? = some (Cn, T, N) ∧ (∀ w ∈ u_ws Cn T N, w ∈ zz_tbl) ∧ (∀ k, k < N → parseFieldDescriptor (T k).2.2.1 = some (tys k)) ∧ (∀ a, a < N → ∀ b, b < N → a ≠ b → (T a).2.1 ≠ (T b).2.1) ∧
    i < N ∧ Cond.fieldLink own idx (T i).1 (T i).2.1 (T i).2.2.1 ∈ zz_tbl ∧ (T i).2.2.2 = fin ∧ tys i = ty ∧ (T i).1 = Cn ∧ ci < 5
theorem aw_getfield {X : CT} {cc : ByteArray} {own mn : String} {nL : Nat} (C : zz_C X cc own mn nL) {pc : Nat} {L : List (Option AV)} {st : List AV} {h : AH} (n : Nat) {a ci i idx : Nat} {fin : Bool} {ty : FieldType} {fs : List AV} {v : AV} (hd : decode cc pc = .ok (.getfield idx, 3)) (hn : pc + 3 = n) (hf : zz_fl own idx ci i fin ty) (hg : zz_get h a = cO ci fs) (hv : fs[i]? = some v) (k : AW X n L (v :: st) h) : AW X pc L (vR a :: st) h := by
  subst hn
  obtain ⟨p, l, e, R, s, m, args, below, meth, c, nL, D, cI, cJ, bs, NS, Q, RET, SC⟩ := X
  obtain ⟨⟨ox, ob, oml, oown, ots, osz, oK, omn⟩, oR, oL⟩ := C
  intro H locs ls h1 h2 h3 h5
  obtain ⟨Cn, T, N, tys, g1, g2, g3, g4, g5, g6, g7, g8, g9, g10⟩ := hf
  have k := k H locs ls h1 h2 h3 h5
  simp only [List.map_cons, zz_cv] at k ⊢
  obtain ⟨hk, ha⟩ := zz_at h1 hg (zz_ndO g10)
  exact va_get (cl := vwCl) ox ob ots g2 oown oK (zz_P1 ha) 0 rfl g1 i g5 (ots _ g6) (fun _ h9 => h9) (by rw [List.getElem?_map, hv]; rfl) hd k
def zz_fit : FieldType → AV → Bool
  | .int, .inl _ => true
  | .long, .inr (.inl _) => true
  | .object _, .inr (.inr (.inl _)) => true
  | .array _, .inr (.inr (.inl _)) => true
  | _, _ => false
theorem zz_fits {ty : FieldType} {v : AV} {bs : Nat × Nat} (h : zz_fit ty v = true) : narrow ty (zz_cv bs v) = zz_cv bs v ∧ fits ty (zz_cv bs v) = true := by
  rcases v with x | x | k | b <;> cases ty <;> simp only [zz_fit] at h <;> first | exact absurd h (by decide) | exact ⟨rfl, rfl⟩
theorem zz_setm {fs : List AV} {i : Nat} {v : AV} {bs : Nat × Nat} : (fs.set i v).map (zz_cv bs) = (fs.map (zz_cv bs)).set i (zz_cv bs v) := List.map_set
theorem aw_putfield {X : CT} {cc : ByteArray} {own mn : String} {nL : Nat} (C : zz_C X cc own mn nL) {pc : Nat} {L : List (Option AV)} {st : List AV} {h : AH} (n : Nat) {a ci i idx : Nat} {ty : FieldType} {fs : List AV} {v : AV} (hd : decode cc pc = .ok (.putfield idx, 3)) (hn : pc + 3 = n) (hf : zz_fl own idx ci i false ty) (hg : zz_get h a = cO ci fs) (hl : i < fs.length) (hv : zz_fit ty v = true) (k : AW X n L st (zz_put h a (cO ci (fs.set i v)))) : AW X pc L (v :: vR a :: st) h := by
  subst hn
  obtain ⟨p, l, e, R, s, m, args, below, meth, c, nL, D, cI, cJ, bs, NS, Q, RET, SC⟩ := X
  obtain ⟨⟨ox, ob, oml, oown, ots, osz, oK, omn⟩, oR, oL⟩ := C
  intro H locs ls h1 h2 h3 h5
  obtain ⟨Cn, T, N, tys, g1, g2, g3, g4, g5, g6, g7, g8, g9, g10⟩ := hf
  simp only [List.map_cons]
  obtain ⟨hk, ha⟩ := zz_at h1 hg (zz_ndO g10)
  have hap := va_apart (own := own) ots g2 tys g3 g4 oK g1
  obtain ⟨r, r1, cell, q1, q2, q3, q4⟩ := ha
  have hr : r = (Cn, T, N) := Option.some.inj (r1.symm.trans g1)
  subst hr
  obtain ⟨hS, hfc, kC, hkC, hkind⟩ := oK.1 ci _ g1
  obtain ⟨cf, kf, fi, f, hi, hsl⟩ := hS i g5
  have hlay := ots _ (g2 _ (u_in_lay g5))
  unfold u_lay at hlay
  rw [if_neg (by rw [g7]; decide)] at hlay
  have hst := (u_facts hfc hkC (u_lays ots g2 g5) hi).1
  have h6 := u_store (v := zz_cv bs v) hfc hkC hkind hlay hi (g3 i g5) (by rw [g8]; exact (zz_fits hv).1) (by rw [g8]; exact (zz_fits hv).2)
  refine W.putK ox ob (f := f) ⟨oown, ots _ g6, ⟨_, _, _, hi⟩, hst⟩ (by rw [q2]; exact h6) q1 q3 (by rw [hsl]; exact k2_hasslot (q4 i g5)) rfl rfl hd fun H' e1 e2 e3 => ?_
  rw [hsl] at e1 ⊢
  have hl' : i < (fs.map (zz_cv bs)).length := by rw [List.length_map]; exact hl
  have hat : va_at D vwCl (bs.1 + a, zz_ce cI cJ bs (cO ci (fs.set i v))) H' := by
    refine ⟨_, g1, t_OB.to (V := updV (vp_V (fs.map (zz_cv bs))) i (zz_cv bs v)) ⟨_, e1, q2, q3, t_set q4 hap g5 (zz_cv bs v)⟩ (fun j _ => ?_)⟩
    rw [vp_updV_set hl' (zz_cv bs v) j]
    show vp_V _ j = vp_V ((fs.set i v).map (zz_cv bs)) j
    rw [zz_setm]
  exact k H' _ ls (zz_wd_put h1 hk hat e2 e3) (h2.put e2 e3 (Nat.le_add_right _ _)) h3 h5
theorem aw_putfinal {X : CT} {cc : ByteArray} {own mn : String} {nL : Nat} (C : zz_C X cc own mn nL) {pc : Nat} {L : List (Option AV)} {st : List AV} {h : AH} (n : Nat) {a ci i idx : Nat} {ty : FieldType} {fs : List AV} {v : AV} (hd : decode cc pc = .ok (.putfield idx, 3)) (hn : pc + 3 = n) (hf : zz_fl own idx ci i true ty) (hmn : mn = "<init>" ∧ vwCl[ci]?.map (fun q => q.1) = some own) (hg : zz_get h a = cO ci fs) (hl : i < fs.length) (hv : zz_fit ty v = true) (k : AW X n L st (zz_put h a (cO ci (fs.set i v)))) : AW X pc L (v :: vR a :: st) h := by
  subst hn
  obtain ⟨p, l, e, R, s, m, args, below, meth, c, nL, D, cI, cJ, bs, NS, Q, RET, SC⟩ := X
  obtain ⟨⟨ox, ob, oml, oown, ots, osz, oK, omn⟩, oR, oL⟩ := C
  intro H locs ls h1 h2 h3 h5
  obtain ⟨Cn, T, N, tys, g1, g2, g3, g4, g5, g6, g7, g8, g9, g10⟩ := hf
  simp only [List.map_cons]
  obtain ⟨hk, ha⟩ := zz_at h1 hg (zz_ndO g10)
  have hap := va_apart (own := own) ots g2 tys g3 g4 oK g1
  obtain ⟨r, r1, cell, q1, q2, q3, q4⟩ := ha
  have hr : r = (Cn, T, N) := Option.some.inj (r1.symm.trans g1)
  subst hr
  have hdecl : (T i).1 = own := by
    have h9 := hmn.2
    rw [g1] at h9
    rw [g9]
    exact Option.some.inj h9
  obtain ⟨hS, hfc, kC, hkC, hkind⟩ := oK.1 ci _ g1
  obtain ⟨cf, kf, fi, f, hi, hsl⟩ := hS i g5
  have hlay := ots _ (g2 _ (u_in_lay g5))
  unfold u_lay at hlay
  rw [if_pos g7] at hlay
  have hst := (u_facts hfc hkC (u_lays ots g2 g5) hi).1
  have hcf : m.cls = cf := by
    obtain ⟨_, _, c', _, _, _, -, -, hf', -, -, -, hown2, -⟩ := Cond.laysFinal_spec hlay
    have e1 : c' = cf := by have := hi.symm.trans hf'; simp at this; exact this.1.symm
    rw [hdecl] at hown2
    rw [← e1]; exact Option.some.inj (oown.symm.trans hown2)
  have h6 := u_fits (v := zz_cv bs v) hfc hkC hkind (Or.inr hlay) hi (g3 i g5) (by rw [g8]; exact (zz_fits hv).1) (by rw [g8]; exact (zz_fits hv).2)
  refine W.putFinK ox ob oown (ots _ g6) hi hst hcf (omn.trans hmn.1) (by rw [q2]; exact h6) q1 q3 (by rw [hsl]; exact k2_hasslot (q4 i g5)) rfl rfl hd fun H' e1 e2 e3 => ?_
  rw [hsl] at e1 ⊢
  have hl' : i < (fs.map (zz_cv bs)).length := by rw [List.length_map]; exact hl
  have hat : va_at D vwCl (bs.1 + a, zz_ce cI cJ bs (cO ci (fs.set i v))) H' := by
    refine ⟨_, g1, t_OB.to (V := updV (vp_V (fs.map (zz_cv bs))) i (zz_cv bs v)) ⟨_, e1, q2, q3, t_set q4 hap g5 (zz_cv bs v)⟩ (fun j _ => ?_)⟩
    rw [vp_updV_set hl' (zz_cv bs v) j]
    show vp_V _ j = vp_V ((fs.set i v).map (zz_cv bs)) j
    rw [zz_setm]
  exact k H' _ ls (zz_wd_put h1 hk hat e2 e3) (h2.put e2 e3 (Nat.le_add_right _ _)) h3 h5
/-! rows of ints and longs -/
theorem zz_toNat {i : Int} (h : 0 ≤ i) : ((i.toNat : Nat) : Int) = i := Int.toNat_of_nonneg h
theorem zz_upm {f : Int → Int} {i x : Int} (h0 : 0 ≤ i) : (fun j : Nat => Int32.ofInt (zz_up f i x (j : Int))) = upd (fun j : Nat => Int32.ofInt (f (j : Int))) i.toNat (Int32.ofInt x) := by
  funext j
  unfold zz_up upd
  by_cases e : (j : Int) = i
  · rw [if_pos e, if_pos (by omega)]
  · rw [if_neg e, if_neg (by omega)]
theorem zz_upmL {f : Int → Int} {i x : Int} (h0 : 0 ≤ i) : (fun j : Nat => Int64.ofInt (zz_up f i x (j : Int))) = vp_updL (fun j : Nat => Int64.ofInt (f (j : Int))) i.toNat (Int64.ofInt x) := by
  funext j
  unfold zz_up vp_updL
  by_cases e : (j : Int) = i
  · rw [if_pos e, if_pos (by omega)]
  · rw [if_neg e, if_neg (by omega)]
theorem aw_iaload {X : CT} {cc : ByteArray} {own mn : String} {nL : Nat} (C : zz_C X cc own mn nL) {pc : Nat} {L : List (Option AV)} {st : List AV} {h : AH} (n : Nat) {a z : Nat} {i : Int} {f : Int → Int} (hd : decode cc pc = .ok (.iaload, 1)) (hn : pc + 1 = n) (hg : zz_get h a = cA z f) (hi : 0 ≤ i ∧ i < z) (hz : z < 2147483648) (k : AW X n L (vI (f i) :: st) h) : AW X pc L (vI i :: vR a :: st) h := by
  subst hn
  obtain ⟨p, l, e, R, s, m, args, below, meth, c, nL, D, cI, cJ, bs, NS, Q, RET, SC⟩ := X
  obtain ⟨⟨ox, ob, oml, oown, ots, osz, oK, omn⟩, oR, oL⟩ := C
  intro H locs ls h1 h2 h3 h5
  have k := k H locs ls h1 h2 h3 h5
  simp only [List.map_cons, zz_cv] at k ⊢
  obtain ⟨hk, ha⟩ := zz_at h1 hg zz_ndA
  refine va_iald (cl := vwCl) ox ob oK (zz_P1 ha) 0 0 rfl rfl (i32_in hi.1 hi.2 hz) hd ?_
  rw [i32_cl hi.1 hi.2 hz]
  simp only [zz_toNat hi.1]
  exact k
theorem aw_laload {X : CT} {cc : ByteArray} {own mn : String} {nL : Nat} (C : zz_C X cc own mn nL) {pc : Nat} {L : List (Option AV)} {st : List AV} {h : AH} (n : Nat) {a z : Nat} {i : Int} {f : Int → Int} (hd : decode cc pc = .ok (.laload, 1)) (hn : pc + 1 = n) (hg : zz_get h a = cL z f) (hi : 0 ≤ i ∧ i < z) (hz : z < 2147483648) (k : AW X n L (vJ (f i) :: st) h) : AW X pc L (vI i :: vR a :: st) h := by
  subst hn
  obtain ⟨p, l, e, R, s, m, args, below, meth, c, nL, D, cI, cJ, bs, NS, Q, RET, SC⟩ := X
  obtain ⟨⟨ox, ob, oml, oown, ots, osz, oK, omn⟩, oR, oL⟩ := C
  intro H locs ls h1 h2 h3 h5
  have k := k H locs ls h1 h2 h3 h5
  simp only [List.map_cons, zz_cv] at k ⊢
  obtain ⟨hk, ha⟩ := zz_at h1 hg zz_ndL
  refine va_lald (cl := vwCl) ox ob oK (zz_P1 ha) 0 1 rfl rfl (i32_in hi.1 hi.2 hz) hd ?_
  rw [i32_cl hi.1 hi.2 hz]
  simp only [zz_toNat hi.1]
  exact k
theorem aw_iastore {X : CT} {cc : ByteArray} {own mn : String} {nL : Nat} (C : zz_C X cc own mn nL) {pc : Nat} {L : List (Option AV)} {st : List AV} {h : AH} (n : Nat) {a z : Nat} {i x : Int} {f : Int → Int} (hd : decode cc pc = .ok (.iastore, 1)) (hn : pc + 1 = n) (hg : zz_get h a = cA z f) (hi : 0 ≤ i ∧ i < z) (hz : z < 2147483648) (k : AW X n L st (zz_put h a (cA z (zz_up f i x)))) : AW X pc L (vI x :: vI i :: vR a :: st) h := by
  subst hn
  obtain ⟨p, l, e, R, s, m, args, below, meth, c, nL, D, cI, cJ, bs, NS, Q, RET, SC⟩ := X
  obtain ⟨⟨ox, ob, oml, oown, ots, osz, oK, omn⟩, oR, oL⟩ := C
  intro H locs ls h1 h2 h3 h5
  simp only [List.map_cons, zz_cv]
  obtain ⟨hk, ha⟩ := zz_at h1 hg zz_ndA
  refine W.iast (cell := arrV cI z (fun j => .int (Int32.ofInt (f (j : Int))))) ox ob ha ((oK.2 0 _ rfl).1 z (fun j => .int (Int32.ofInt (f (j : Int))))) (fun q => by cases q) (by rw [arrV_size]; exact i32_in hi.1 hi.2 hz) rfl rfl hd fun H1 e1 e2 e3 => ?_
  have hat : va_at D vwCl (bs.1 + a, zz_ce cI cJ bs (cA z (zz_up f i x))) H1 := by
    show H1[bs.1 + a]? = some (vp_cell _ _)
    rw [e1, arrV_store, i32_cl hi.1 hi.2 hz, vp_cell_i]
    congr 2
    funext q
    have e5 : Int32.ofInt (zz_up f i x (q : Int)) = upd (fun j : Nat => Int32.ofInt (f (j : Int))) i.toNat (Int32.ofInt x) q := congrFun (zz_upm hi.1) q
    rw [e5]
    simp only [updV, upd]
    split <;> rfl
  exact k H1 _ ls (zz_wd_put h1 hk hat e2 e3) (h2.put e2 e3 (Nat.le_add_right _ _)) h3 h5
theorem aw_lastore {X : CT} {cc : ByteArray} {own mn : String} {nL : Nat} (C : zz_C X cc own mn nL) {pc : Nat} {L : List (Option AV)} {st : List AV} {h : AH} (n : Nat) {a z : Nat} {i x : Int} {f : Int → Int} (hd : decode cc pc = .ok (.lastore, 1)) (hn : pc + 1 = n) (hg : zz_get h a = cL z f) (hi : 0 ≤ i ∧ i < z) (hz : z < 2147483648) (k : AW X n L st (zz_put h a (cL z (zz_up f i x)))) : AW X pc L (vJ x :: vI i :: vR a :: st) h := by
  subst hn
  obtain ⟨p, l, e, R, s, m, args, below, meth, c, nL, D, cI, cJ, bs, NS, Q, RET, SC⟩ := X
  obtain ⟨⟨ox, ob, oml, oown, ots, osz, oK, omn⟩, oR, oL⟩ := C
  intro H locs ls h1 h2 h3 h5
  simp only [List.map_cons, zz_cv]
  obtain ⟨hk, ha⟩ := zz_at h1 hg zz_ndL
  refine W.last (cell := arrV cJ z (fun j => .long (Int64.ofInt (f (j : Int))))) ox ob ha ((oK.2 1 _ rfl).1 z (fun j => .long (Int64.ofInt (f (j : Int))))) (fun q => by cases q) (by rw [arrV_size]; exact i32_in hi.1 hi.2 hz) rfl rfl hd fun H1 e1 e2 e3 => ?_
  have hat : va_at D vwCl (bs.1 + a, zz_ce cI cJ bs (cL z (zz_up f i x))) H1 := by
    show H1[bs.1 + a]? = some (vp_cell _ _)
    rw [e1, arrV_store, i32_cl hi.1 hi.2 hz, vp_cell_l]
    congr 2
    funext q
    have e5 : Int64.ofInt (zz_up f i x (q : Int)) = vp_updL (fun j : Nat => Int64.ofInt (f (j : Int))) i.toNat (Int64.ofInt x) q := congrFun (zz_upmL hi.1) q
    rw [e5]
    simp only [updV, vp_updL]
    split <;> rfl
  exact k H1 _ ls (zz_wd_put h1 hk hat e2 e3) (h2.put e2 e3 (Nat.le_add_right _ _)) h3 h5
/-! making -/
abbrev zz_rm (X : CT) (h : AH) (k n : Nat) : Prop := h.1.1 + k ≤ (zz_NS X).1 + (zz_R X).cells ∧ h.1.2 + n ≤ (zz_NS X).2 + (zz_R X).slots
theorem aw_newI {X : CT} {cc : ByteArray} {own mn : String} {nL : Nat} (C : zz_C X cc own mn nL) {pc : Nat} {L : List (Option AV)} {st : List AV} {h : AH} (n : Nat) {sz : Nat} {z : Int} (hd : decode cc pc = .ok (.newarray .int, 2)) (hn : pc + 2 = n) (hz : z = (sz : Int)) (hs : sz < 100000) (hr : zz_rm X h 1 sz) (k : AW X n L (vR h.1.1 :: st) (zz_new h sz (cA sz (fun _ => 0)))) : AW X pc L (vI z :: st) h := by
  subst hz
  subst hn
  obtain ⟨p, l, e, R, s, m, args, below, meth, c, nL, D, cI, cJ, bs, NS, Q, RET, SC⟩ := X
  obtain ⟨⟨ox, ob, oml, oown, ots, osz, oK, omn⟩, oR, oL⟩ := C
  intro H locs ls h1 h2 h3 h5
  simp only [List.map_cons, zz_cv] at k ⊢
  simp only [zz_rm, zz_NS, zz_R] at hr
  have e0 : (Int32.ofInt (sz : Int)).toNatClampNeg = sz := by rw [Int32.toNatClampNeg_ofInt_of_le (by omega) (by omega)]; rfl
  refine va_newaK ox ob (atype := .int) (ots _ (by decide +kernel)) rfl hd rfl (by rw [i32_0, i32_lt ⟨by omega, by omega⟩ r32_0]; omega) e0 (by show sz * 4 ≤ _; omega) (by omega) (by omega) rfl fun H1 cA1 e1 z1 o1 hAr hNm => ?_
  have hc : cA1 = cI := by
    have h7 := (oK.2 0 _ rfl).2
    have h8 : s.vm.findClass ("[" ++ FieldType.int.toString) = some cI := h7
    exact Option.some.inj (hNm.symm.trans h8)
  subst hc
  have hat : va_at D vwCl (bs.1 + h.1.1, zz_ce cA1 cJ bs (cA sz (fun _ => 0))) H1 := by
    show H1[bs.1 + h.1.1]? = some (vp_cell _ _)
    rw [← h1.1, e1]
    rfl
  have k := k H1 locs ls (zz_wd_new h1 hat z1 o1) ⟨Nat.le_trans h2.1 (by omega), fun x x1 x2 => (o1 x (Nat.lt_of_lt_of_le x1 h2.1)).trans (h2.2.1 x x1 x2), h2.2.2⟩ ⟨by show NS.1 ≤ h.1.1 + 1; omega, by show NS.2 ≤ h.1.2 + sz; omega⟩ h5
  simp only [List.map_cons, zz_cv] at k
  rw [h1.1]
  exact W.cs (by show _ = h.1.1 + 1 - NS.1; omega) (by show _ = h.1.2 + sz - NS.2; omega) k
theorem aw_newL {X : CT} {cc : ByteArray} {own mn : String} {nL : Nat} (C : zz_C X cc own mn nL) {pc : Nat} {L : List (Option AV)} {st : List AV} {h : AH} (n : Nat) {sz : Nat} {z : Int} (hd : decode cc pc = .ok (.newarray .long, 2)) (hn : pc + 2 = n) (hz : z = (sz : Int)) (hs : sz < 100000) (hr : zz_rm X h 1 sz) (k : AW X n L (vR h.1.1 :: st) (zz_new h sz (cL sz (fun _ => 0)))) : AW X pc L (vI z :: st) h := by
  subst hz
  subst hn
  obtain ⟨p, l, e, R, s, m, args, below, meth, c, nL, D, cI, cJ, bs, NS, Q, RET, SC⟩ := X
  obtain ⟨⟨ox, ob, oml, oown, ots, osz, oK, omn⟩, oR, oL⟩ := C
  intro H locs ls h1 h2 h3 h5
  simp only [List.map_cons, zz_cv] at k ⊢
  simp only [zz_rm, zz_NS, zz_R] at hr
  have e0 : (Int32.ofInt (sz : Int)).toNatClampNeg = sz := by rw [Int32.toNatClampNeg_ofInt_of_le (by omega) (by omega)]; rfl
  refine va_newaK ox ob (atype := .long) (ots _ (by decide +kernel)) rfl hd rfl (by rw [i32_0, i32_lt ⟨by omega, by omega⟩ r32_0]; omega) e0 (by show sz * 8 ≤ _; omega) (by omega) (by omega) rfl fun H1 cA1 e1 z1 o1 hAr hNm => ?_
  have hc : cA1 = cJ := by
    have h7 := (oK.2 1 _ rfl).2
    have h8 : s.vm.findClass ("[" ++ FieldType.long.toString) = some cJ := h7
    exact Option.some.inj (hNm.symm.trans h8)
  subst hc
  have hat : va_at D vwCl (bs.1 + h.1.1, zz_ce cI cA1 bs (cL sz (fun _ => 0))) H1 := by
    show H1[bs.1 + h.1.1]? = some (vp_cell _ _)
    rw [← h1.1, e1]
    rfl
  have k := k H1 locs ls (zz_wd_new h1 hat z1 o1) ⟨Nat.le_trans h2.1 (by omega), fun x x1 x2 => (o1 x (Nat.lt_of_lt_of_le x1 h2.1)).trans (h2.2.1 x x1 x2), h2.2.2⟩ ⟨by show NS.1 ≤ h.1.1 + 1; omega, by show NS.2 ≤ h.1.2 + sz; omega⟩ h5
  simp only [List.map_cons, zz_cv] at k
  rw [h1.1]
  exact W.cs (by show _ = h.1.1 + 1 - NS.1; omega) (by show _ = h.1.2 + sz - NS.2; omega) k
def zz_nw (own : String) (idx ci N : Nat) (fs : List AV) : Prop :=
  ∃ (Cn : String) (T : u_T) (tys : Nat → FieldType), vwCl[ci]? = some (Cn, T, N) ∧ (∀ w ∈ u_ws Cn T N, w ∈ zz_tbl) ∧ (∀ k, k < N → parseFieldDescriptor (T k).2.2.1 = some (tys k)) ∧
    Cond.classLink own idx Cn ∈ zz_tbl ∧ Cond.instantiable Cn N ∈ zz_tbl ∧ Cond.initialized Cn ∈ zz_tbl ∧ (∀ j, j < N → defaultValue (tys j) = vp_V (fs.map (zz_cv (0, 0))) j) ∧ (∀ bs : Nat × Nat, fs.map (zz_cv bs) = fs.map (zz_cv (0, 0)))
theorem aw_new {X : CT} {cc : ByteArray} {own mn : String} {nL : Nat} (C : zz_C X cc own mn nL) {pc : Nat} {L : List (Option AV)} {st : List AV} {h : AH} (n : Nat) {idx ci N : Nat} {fs : List AV} (hd : decode cc pc = .ok (.new idx, 3)) (hn : pc + 3 = n) (hw : zz_nw own idx ci N fs) (hr : zz_rm X h 1 N) (k : AW X n L (vR h.1.1 :: st) (zz_new h N (cO ci fs))) : AW X pc L st h := by
  subst hn
  obtain ⟨p, l, e, R, s, m, args, below, meth, c, nL, D, cI, cJ, bs, NS, Q, RET, SC⟩ := X
  obtain ⟨⟨ox, ob, oml, oown, ots, osz, oK, omn⟩, oR, oL⟩ := C
  intro H locs ls h1 h2 h3 h5
  obtain ⟨Cn, T, tys, g1, g2, g3, g4, g5, g6, g7, g8⟩ := hw
  simp only [zz_rm, zz_NS, zz_R] at hr
  have hKn := oK.1 ci _ g1
  refine W.newcK ox ob oown (ots _ g4) (ots _ g5) (ots _ g6) rfl hd (by omega) (by omega) hKn.2.1 rfl fun H1 kC hkC e1 z1 o1 => ?_
  have hat : va_at D vwCl (bs.1 + h.1.1, zz_ce cI cJ bs (cO ci fs)) H1 := by
    refine ⟨_, g1, (u_born tys ots g2 hKn hkC (by rw [← h1.1]; exact e1) g3).to (fun j hj => ?_)⟩
    show defaultValue (tys j) = vp_V (fs.map (zz_cv bs)) j
    rw [g7 j hj, g8 bs]
  have k := k H1 locs ls (zz_wd_new h1 hat z1 o1) ⟨Nat.le_trans h2.1 (by omega), fun x x1 x2 => (o1 x (Nat.lt_of_lt_of_le x1 h2.1)).trans (h2.2.1 x x1 x2), h2.2.2⟩ ⟨by show NS.1 ≤ h.1.1 + 1; omega, by show NS.2 ≤ h.1.2 + N; omega⟩ h5
  simp only [List.map_cons, zz_cv] at k
  rw [h1.1]
  exact W.cs (by show _ = h.1.1 + 1 - NS.1; omega) (by show _ = h.1.2 + N - NS.2; omega) k
/-! the script -/
theorem aw_slen {X : CT} {cc : ByteArray} {own mn : String} {nL : Nat} (C : zz_C X cc own mn nL) {pc : Nat} {L : List (Option AV)} {st : List AV} {h : AH} (n : Nat) (hd : decode cc pc = .ok (.arraylength, 1)) (hn : pc + 1 = n) (hs : zz_sc X) (k : AW X n L (vI ((zz_scr X).1 : Int) :: st) h) : AW X pc L (vS :: st) h := by
  subst hn
  obtain ⟨p, l, e, R, s, m, args, below, meth, c, nL, D, cI, cJ, bs, NS, Q, RET, SC⟩ := X
  obtain ⟨⟨ox, ob, oml, oown, ots, osz, oK, omn⟩, oR, oL⟩ := C
  intro H locs ls h1 h2 h3 h5
  have k := k H locs ls h1 h2 h3 h5
  simp only [List.map_cons, zz_cv, zz_scr] at k ⊢
  obtain ⟨s1, s2, s3⟩ := hs
  exact va_slen ox ob s1 s2 (Nat.not_le.mpr s3) h2 hd k
theorem aw_sld {X : CT} {cc : ByteArray} {own mn : String} {nL : Nat} (C : zz_C X cc own mn nL) {pc : Nat} {L : List (Option AV)} {st : List AV} {h : AH} (n : Nat) {i : Int} (hd : decode cc pc = .ok (.iaload, 1)) (hn : pc + 1 = n) (hs : zz_sc X) (hi : 0 ≤ i ∧ i < ((zz_scr X).1 : Int)) (hz : (zz_scr X).1 < 2147483648) (k : AW X n L (vI ((zz_scr X).2 i.toNat).toInt :: st) h) : AW X pc L (vI i :: vS :: st) h := by
  subst hn
  obtain ⟨p, l, e, R, s, m, args, below, meth, c, nL, D, cI, cJ, bs, NS, Q, RET, SC⟩ := X
  obtain ⟨⟨ox, ob, oml, oown, ots, osz, oK, omn⟩, oR, oL⟩ := C
  intro H locs ls h1 h2 h3 h5
  have k := k H locs ls h1 h2 h3 h5
  simp only [List.map_cons, zz_cv, zz_scr, Int32.ofInt_toInt] at k hi hz ⊢
  obtain ⟨s1, s2, s3⟩ := hs
  refine va_sld ox ob s1 s2 (Nat.not_le.mpr s3) h2 (i32_in hi.1 hi.2 hz) hd ?_
  rw [i32_cl hi.1 hi.2 hz]
  exact k
/-! contracts and calls -/
/-- a method: its name, code, locals, what it returns; frames and locals' words below it; cells and slots that it makes -/
abbrev MD : Type := MethodName × ByteArray × Nat × Option FieldType × (Nat × Nat) × (Nat × Nat)
def zz_room (d : MD) : Room := { frames := d.2.2.2.2.1.1, cells := d.2.2.2.2.2.1, slots := d.2.2.2.2.2.2, locals := d.2.2.2.2.1.2 }
def zz_wsd (d : MD) : List Cond := .code d.1 d.2.1 d.2.2.1 d.2.2.2.1 :: zz_tbl
def MC (d : MD) (args : List AV) (h : AH) (Q : Option AV → AH → Prop) : Prop :=
  ∀ (l : Launch) (D : va_G) (cI cJ : ClassId) (bs : Nat × Nat), Met l d.1 (zz_wsd d) (zz_room d)
    (va_Pc (args.map (zz_cv bs)) (fun U => U.heap.size = bs.1 + h.1.1 ∧ zz_wd D cI cJ bs h U.heap ∧ va_K D vwCl [(cI, .int), (cJ, .long)] U))
    (fun _ st oc t => (∃ (r : Option AV) (h' : AH), oc = .returned (r.map (zz_cv bs)) ∧ Q r h' ∧ h'.1 = (h.1.1 + d.2.2.2.2.2.1, h.1.2 + d.2.2.2.2.2.2) ∧ zz_wd D cI cJ bs h' t.heap) ∧ va_F (fun q => bs.1 ≤ q) st t)
    d.2.2.2.2.2.1 d.2.2.2.2.2.2 (fun q => bs.1 ≤ q)
def zz_okr : Option FieldType → Option AV → Prop
  | none, v => v = none
  | some .int, some (.inl _) => True
  | some .boolean, some (.inl x) => x = 0 ∨ x = 1
  | some .long, some (.inr (.inl _)) => True
  | _, _ => False
def zz_ent : List AV → List (Option AV)
  | [] => []
  | .inr (.inl x) :: r => some (vJ x) :: none :: zz_ent r
  | .inl x :: r => some (vI x) :: zz_ent r
  | .inr (.inr x) :: r => some (.inr (.inr x)) :: zz_ent r
theorem zz_lc_app (bs : Nat × Nat) : ∀ (L : List (Option AV)) (i k : Nat), zz_lc bs i (L ++ List.replicate k none) = zz_lc bs i L := by
  intro L
  induction L with
  | nil =>
    intro i k
    induction k generalizing i with
    | zero => rfl
    | succ k ih =>
      rw [List.nil_append, List.replicate_succ]
      simp only [zz_lc]
      exact ih (i + 1)
  | cons a r ih =>
    intro i k
    cases a with
    | none => simp only [List.cons_append, zz_lc]; exact ih (i + 1) k
    | some v => simp only [List.cons_append, zz_lc]; rw [ih (i + 1) k]
theorem zz_lc_ent (bs : Nat × Nat) : ∀ (vs : List AV) (i : Nat), zz_lc bs i (zz_ent vs) = lv_args i (vs.map (zz_cv bs)) := by
  intro vs
  induction vs with
  | nil => intro i; rfl
  | cons a r ih =>
    intro i
    rcases a with x | x | x
    · simp only [zz_ent, zz_lc, List.map_cons, lv_args]
      rw [ih, if_neg (by rw [zz_cat]; simp)]
    · simp only [zz_ent, zz_lc, List.map_cons, lv_args]
      rw [ih, if_pos (by rw [zz_cat])]
    · simp only [zz_ent, zz_lc, List.map_cons, lv_args]
      rw [ih, if_neg (by rw [zz_cat]; simp)]
theorem zz_sl_len (bs : Nat × Nat) : ∀ (vs : List AV), (lg_sl (vs.map (zz_cv bs))).length = (zz_ent vs).length := by
  intro vs
  induction vs with
  | nil => rfl
  | cons a r ih =>
    have e : lg_sl (((a :: r)).map (zz_cv bs)) = lg_sl [zz_cv bs a] ++ lg_sl (r.map (zz_cv bs)) := by simp [lg_sl]
    rw [e, List.length_append, ih]
    rcases a with x | x | k | b
    · simp [zz_ent, zz_cv, lg_sl, Value.category]; omega
    · simp [zz_ent, zz_cv, lg_sl, Value.category]; omega
    · simp [zz_ent, zz_cv, lg_sl, Value.category]; omega
    · cases b <;> simp [zz_ent, zz_cv, lg_sl, Value.category] <;> omega
theorem mc_start (d : MD) {args : List AV} {h : AH} {Q : Option AV → AH → Prop} (own mn : String) (hnm : d.1.cls = own ∧ d.1.name = mn ∧ plainName d.1.cls = true) (L0 : List (Option AV)) (hL0 : ∃ k, zz_ent args ++ List.replicate k none = L0) (hlen : L0.length = d.2.2.1)
    (body : ∀ X : CT, zz_C X d.2.1 own mn d.2.2.1 → zz_R X = zz_room d → zz_NS X = h.1 → (∀ v h', zz_okr d.2.2.2.1 v → h'.1 = (h.1.1 + d.2.2.2.2.2.1, h.1.2 + d.2.2.2.2.2.2) → Q v h' → zz_ret X v h') → AW X 0 L0 [] h) : MC d args h Q := by
  obtain ⟨y, b, nL, rt, ⟨fr, lo⟩, mc, ms⟩ := d
  intro l D cI cJ bs
  refine Met.ofW (cc := b) (maxL := nL) (ret := rt) hnm.2.2 rfl ?_
  intro p e s m args' below meth c s₁ B hml hv
  obtain ⟨rfl, hsz, hw, hK⟩ := hv
  have hts := atoms_spec (ws := zz_wsd (y, b, nL, rt, (fr, lo), mc, ms)) B.pre
  have hown : s.vm.findClass own = some m.cls := by
    have := findClass_of_methodNamed B.named
    rw [← hnm.1]
    exact this
  have hmn : meth.name = mn := by
    rw [← hnm.2.1]
    exact (name_of_methodNamed B.named B.method).1
  obtain ⟨k0, hk0⟩ := hL0
  have hl := lv_entry (args.map (zz_cv bs)) (n := nL) (by
    rw [zz_sl_len]
    have := hlen
    rw [← hk0, List.length_append] at this
    have h9 : (zz_ent args).length + (List.replicate k0 (none : Option AV)).length = nL := this
    omega)
  rw [← zz_lc_ent bs args 0, ← zz_lc_app bs (zz_ent args) 0 k0, hk0] at hl
  rw [lg_entry_eq]
  have hS : va_S (fun q => bs.1 ≤ q) s.heap s.heap [] := va_S.rf
  have W0 := body (p, l, e, (headSpec (zz_wsd (y, b, nL, rt, (fr, lo), mc, ms)) (zz_room (y, b, nL, rt, (fr, lo), mc, ms))).room, s, m, (args.map (zz_cv bs)).toArray, below, meth, c, nL, D, cI, cJ, bs, h.1, MQ below (fun _ st oc t => (∃ (r : Option AV) (h' : AH), oc = .returned (r.map (zz_cv bs)) ∧ Q r h' ∧ h'.1 = (h.1.1 + mc, h.1.2 + ms) ∧ zz_wd D cI cJ bs h' t.heap) ∧ va_F (fun q => bs.1 ≤ q) st t) (args.map (zz_cv bs)).toArray s mc ms (fun q => bs.1 ≤ q), (fun v h' => zz_okr rt v ∧ h'.1 = (h.1.1 + mc, h.1.2 + ms) ∧ Q v h'), (0, fun _ => 0))
    ⟨⟨B.exec, B.bytes, hml, hown, fun w hw9 => hts w (List.mem_cons_of_mem _ hw9), hsz, hK, hmn⟩, ?_, rfl⟩ rfl rfl (fun v h' a1 a2 a3 => ⟨a1, a2, a3⟩)
  · have W1 := W0 s.heap [] _ hw hS ⟨Nat.le_refl _, Nat.le_refl _⟩ hl
    exact W.cs (Nat.sub_self _).symm (Nat.sub_self _).symm W1
  · intro v h' pc L hret hdec H locs ls h1 h2 h3 h5
    obtain ⟨a1, a2, a3⟩ := hret
    have ec : h'.1.1 - h.1.1 = mc := by rw [a2]; show h.1.1 + mc - h.1.1 = mc; omega
    have es : h'.1.2 - h.1.2 = ms := by rw [a2]; show h.1.2 + ms - h.1.2 = ms; omega
    refine W.cs ec es ?_
    have hq : ∀ t : State, t.heap = H → (∃ (r : Option AV) (h' : AH), (Outcome.returned (v.map (zz_cv bs))) = .returned (r.map (zz_cv bs)) ∧ Q r h' ∧ h'.1 = (h.1.1 + mc, h.1.2 + ms) ∧ zz_wd D cI cJ bs h' t.heap) ∧ va_F (fun q => bs.1 ≤ q) s t := fun t ht => ⟨⟨v, h', rfl, a3, a2, by rw [ht]; exact h1⟩, h2.F ht⟩
    have hlocks := B.notSynchronized
    have hr := B.returns
    rcases v with _ | x | x | x
    · have e1 : rt = none := by
        cases rt with
        | none => rfl
        | some t => cases t <;> exact absurd a1 (by simp [zz_okr])
      subst e1
      exact W.vret B.exec B.bytes hr (fun t ht _ => hq t ht) h2.2.2 hdec
    · have e1 : rt = some .int ∨ (rt = some .boolean ∧ (x = 0 ∨ x = 1)) := by
        cases rt with
        | none => exact absurd a1 (by simp [zz_okr])
        | some t => cases t <;> first | exact Or.inl rfl | exact Or.inr ⟨rfl, a1⟩ | exact absurd a1 (by simp [zz_okr])
      rcases e1 with e1 | ⟨e1, e2⟩
      · subst e1
        exact W.iret B.exec B.bytes hr (fun t ht _ => hq t ht) h2.2.2 hdec
      · subst e1
        refine W.zret B.exec B.bytes hr ?_ (fun t ht _ => hq t ht) h2.2.2 hdec
        rcases e2 with e2 | e2 <;> subst e2 <;> decide
    · have e1 : rt = some .long := by
        cases rt with
        | none => exact absurd a1 (by simp [zz_okr])
        | some t => cases t <;> first | rfl | exact absurd a1 (by simp [zz_okr])
      subst e1
      exact W.lret B.exec B.bytes hr (fun t ht _ => hq t ht) h2.2.2 hdec
    · exact absurd hdec (by simp)
theorem aw_ireturn {X : CT} {cc : ByteArray} {own mn : String} {nL : Nat} (C : zz_C X cc own mn nL) {pc : Nat} {L : List (Option AV)} {h : AH} {x : Int} (hd : decode cc pc = .ok (.ireturn, 1)) (k : zz_ret X (some (vI x)) h) : AW X pc L [vI x] h := C.2.1 (some (vI x)) h pc L k hd
theorem aw_lreturn {X : CT} {cc : ByteArray} {own mn : String} {nL : Nat} (C : zz_C X cc own mn nL) {pc : Nat} {L : List (Option AV)} {h : AH} {x : Int} (hd : decode cc pc = .ok (.lreturn, 1)) (k : zz_ret X (some (vJ x)) h) : AW X pc L [vJ x] h := C.2.1 (some (vJ x)) h pc L k hd
theorem aw_return {X : CT} {cc : ByteArray} {own mn : String} {nL : Nat} (C : zz_C X cc own mn nL) {pc : Nat} {L : List (Option AV)} {h : AH} (hd : decode cc pc = .ok (.return_, 1)) (k : zz_ret X none h) : AW X pc L [] h := C.2.1 none h pc L k hd
/-- what the tables say of a method: it is there (kind: 0 an object's, 1 static, 2 a constructor), and how many arguments it takes -/
def zz_mok (d : MD) (kind n : Nat) : Prop := (kind = 1 ∨ Cond.instanceMethod d.1 ∈ zz_tbl) ∧ (kind ≠ 0 ∨ Cond.selects d.1.cls d.1 d.1 ∈ zz_tbl) ∧ (kind ≠ 1 ∨ Cond.static d.1 ∈ zz_tbl) ∧ (kind ≠ 2 ∨ (d.1.name = "<init>" ∧ d.2.2.2.1 = none)) ∧ Cond.initialized d.1.cls ∈ zz_tbl ∧ Cond.code d.1 d.2.1 d.2.2.1 d.2.2.2.1 ∈ zz_tbl ∧
  (d.1.cls ≠ "java/lang/invoke/MethodHandle" ∧ d.1.cls ≠ "java/lang/invoke/VarHandle") ∧ (parseMethodDescriptor d.1.desc).map (fun q => q.parameters.length) = some n
def zz_wt : List AV → Nat
  | [] => 0
  | .inr (.inl _) :: r => zz_wt r + 2
  | .inl _ :: r => zz_wt r + 1
  | .inr (.inr _) :: r => zz_wt r + 1
theorem zz_wt_ok (bs : Nat × Nat) : ∀ st : List AV, ((st.map (zz_cv bs)).map fun v => v.category).sum = zz_wt st := by
  intro st
  induction st with
  | nil => rfl
  | cons a r ih =>
    rw [List.map_cons, List.map_cons, List.sum_cons, ih, zz_cat]
    rcases a with x | x | x <;> simp only [zz_wt] <;> omega
/-- room for a callee -/
abbrev zz_rc (X : CT) (d : MD) (h : AH) : Prop := d.2.2.2.2.1.1 + 1 ≤ (zz_R X).frames ∧ d.2.2.1 + 19 + d.2.2.2.2.1.2 ≤ (zz_R X).locals ∧ zz_rm X h d.2.2.2.2.2.1 d.2.2.2.2.2.2
theorem zz_blind {D : va_G} {cI cJ : ClassId} {bs : Nat × Nat} {av : List Value} {h : AH} : FrameBlind (va_Pc av (fun U => U.heap.size = bs.1 + h.1.1 ∧ zz_wd D cI cJ bs h U.heap ∧ va_K D vwCl [(cI, .int), (cJ, .long)] U)) :=
  fun a U g mk q => by
    obtain ⟨q0, q1, qP, qK⟩ := q
    exact ⟨q0, q1, qP, va_K.moved (u := U) (U := U.calling g mk a) (Vm.Alike.refl U.vm) qK⟩
theorem zz_go {p : Program} {l : Launch} {e : Env} {R : Room} {s : State} {m : MethodId} {args : Array Value} {below : List Frame} {meth : Method} {c : Code} {H : Heap} {locs : List Loc} {cells slots mc ms : Nat} {Q : State → Prop} {pc : Nat} {ls : Array Slot} {st0 rest : List Value} {D : va_G} {cI cJ : ClassId} {bs : Nat × Nat} {h : AH} {Q' : Option AV → AH → Prop}
    (hr : va_Run p l e R s m args below meth c H locs cells slots mc ms (F0 m pc ls st0) rest (fun st oc t => (∃ (r : Option AV) (h' : AH), oc = .returned (r.map (zz_cv bs)) ∧ Q' r h' ∧ h'.1 = (h.1.1 + mc, h.1.2 + ms) ∧ zz_wd D cI cJ bs h' t.heap) ∧ va_F (fun q => bs.1 ≤ q) st t) (fun q => bs.1 ≤ q)) (hS : va_S (fun q => bs.1 ≤ q) s.heap H locs)
    (kk : ∀ (r : Option AV) (h' : AH) (H1 : Heap) (locs1 : List Loc), Q' r h' → h'.1 = (h.1.1 + mc, h.1.2 + ms) → zz_wd D cI cJ bs h' H1 → va_S (fun q => bs.1 ≤ q) s.heap H1 locs1 → W p l e R s m args below meth c H1 locs1 (cells + mc) (slots + ms) Q (F0 m (pc + 3) ls ((r.map (zz_cv bs)).toList ++ rest))) : W p l e R s m args below meth c H locs cells slots Q (F0 m pc ls st0) := by
  intro T hT X
  obtain ⟨v, st₀, t, T', L, h0, X', hL, e1, e2, ⟨⟨r, h', hv, hq, hn, hw⟩, hz, hk⟩, st⟩ := hr T hT X
  cases hv
  rw [h0] at hz hk
  obtain ⟨t2, a1, b1⟩ := kk r h' T'.heap (locs ++ L) hq hn (by rw [e1]; exact hw)
    ⟨Nat.le_trans hS.1 (by rw [e1]; exact hz), fun q g1 g2 => by rw [e1, hk q (Nat.lt_of_lt_of_le g1 hS.1) g2]; exact hS.2.1 q g1 g2, fun q hq => by
      rcases List.mem_append.mp hq with h | h
      · exact hS.2.2 q h
      · exact hL q h⟩ T' rfl X'
  exact ⟨t2, st t2 a1, b1⟩
theorem zz_sub3 {a b m : Nat} (h : b ≤ a) : a - b + m = a + m - b := by omega
theorem aw_callV {X : CT} {cc : ByteArray} {own mn : String} {nL : Nat} (C : zz_C X cc own mn nL) {pc : Nat} {L : List (Option AV)} {st : List AV} {h : AH} (n : Nat) (d : MD) {a idx ci na : Nat} {as : List AV} {fs : List AV} {S0 : List AV} {Q' : Option AV → AH → Prop} (hd : decode cc pc = .ok (.invokevirtual idx, 3)) (hn : pc + 3 = n) (hm : zz_mok d 0 na) (hlk : Cond.methodLink own idx d.1 ∈ zz_tbl) (hg : zz_get h a = cO ci fs) (hci : (vwCl[ci]?).map (fun q => q.1) = some d.1.cls ∧ ci < 5) (hS : S0 = as.reverse ++ vR a :: st) (hna : as.length = na) (hrm : zz_rc X d h) (hwt : zz_wt st ≤ 8)
    (k : MC d (vR a :: as) h Q') (kk : ∀ r h', Q' r h' → AW X n L (r.toList ++ st) h') : AW X pc L S0 h := by
  subst hS
  subst hn
  obtain ⟨p, l, e, R, s, m, args, below, meth, c, nL, D, cI, cJ, bs, NS, Q, RET, SC⟩ := X
  obtain ⟨⟨ox, ob, oml, oown, ots, osz, oK, omn⟩, oR, oL⟩ := C
  intro H locs ls h1 h2 h3 h5
  obtain ⟨y, b, nM, rt, ⟨fr, lo⟩, mc, ms⟩ := d
  simp only [zz_rc, zz_rm, zz_NS, zz_R] at hrm
  obtain ⟨m1, m2, -, -, m5, m6, m7, m8⟩ := hm
  have hci5 : ci < 5 := hci.2
  obtain ⟨hk, ha⟩ := zz_at h1 hg (zz_ndO hci5)
  obtain ⟨q, hq⟩ : ∃ q, vwCl[ci]? = some q := by
    cases hv : vwCl[ci]? with
    | none => rw [hv] at hci; exact absurd hci.1 (by simp)
    | some q => exact ⟨q, rfl⟩
  have hq1 : q.1 = y.cls := by have := hci.1; rw [hq] at this; exact Option.some.inj this
  have hM := k l D cI cJ bs
  have hrecv := va_recv oK (zz_P1 ha) hq (q0 := 0) rfl
  rw [hq1] at hrecv
  have hG : GoodIn zz_tbl (wsV own idx y.cls y (zz_wsd (y, b, nM, rt, (fr, lo), mc, ms))) := by
    refine zz_goodIn fun w hw => ?_
    rcases List.mem_append.mp hw with hw | hw
    · simp only [List.mem_cons, List.not_mem_nil, or_false] at hw
      rcases hw with rfl | rfl | rfl | rfl
      · exact hlk
      · exact m1.resolve_left (by decide)
      · exact m2.resolve_left (by decide)
      · exact m5
    · rcases List.mem_cons.mp hw with rfl | hw
      · exact m6
      · exact hw
  have hmap : ((as.reverse ++ vR a :: st).map (zz_cv bs)) = (as.map (zz_cv bs)).reverse ++ .ref (bs.1 + a) :: st.map (zz_cv bs) := by
    rw [List.map_append, List.map_reverse, List.map_cons]
    rfl
  rw [hmap]
  refine zz_go (h := h) (va_runV (As := as.map (zz_cv bs)) (rest := st.map (zz_cv bs)) ⟨ox, ob, by rw [oml, show nL = nL from rfl], oown, ots⟩ hM (cwV na ots hG rfl rfl rfl ⟨rfl, m7.1, m7.2, m8⟩ ⟨hrm.1, by have := hrm.2.1; show 8 + (nM + 11) + lo ≤ R.locals; omega⟩) ⟨zz_blind, hrecv, fun U hU hW => ⟨rfl, by rw [hU]; exact h1.1, by rw [hU]; exact h1, va_K.moved hW.alike oK⟩⟩ rfl (by rw [List.length_map]; exact hna) h5.1 rfl (lv_room (by rw [zz_wt_ok]; exact hwt)) hd ⟨by have := hrm.2.2.1; show h.1.1 - NS.1 + mc ≤ R.cells; omega, by have := hrm.2.2.2; show h.1.2 - NS.2 + ms ≤ R.slots; omega⟩) h2 (fun r h' H1 locs1 z1 z2 z3 z4 => ?_)
  have W1 := kk r h' z1 H1 locs1 ls z3 z4 ⟨by rw [z2]; show NS.1 ≤ h.1.1 + mc; omega, by rw [z2]; show NS.2 ≤ h.1.2 + ms; omega⟩ h5
  rw [List.map_append] at W1
  refine W.cs ?_ ?_ (by cases r <;> exact W1)
  · rw [z2]; show h.1.1 - NS.1 + mc = h.1.1 + mc - NS.1; omega
  · rw [z2]; show h.1.2 - NS.2 + ms = h.1.2 + ms - NS.2; omega
theorem aw_callS {X : CT} {cc : ByteArray} {own mn : String} {nL : Nat} (C : zz_C X cc own mn nL) {pc : Nat} {L : List (Option AV)} {st : List AV} {h : AH} (n : Nat) (d : MD) {idx na : Nat} {as : List AV} {S0 : List AV} {Q' : Option AV → AH → Prop} (hd : decode cc pc = .ok (.invokestatic idx, 3)) (hn : pc + 3 = n) (hm : zz_mok d 1 na) (hlk : Cond.methodLink own idx d.1 ∈ zz_tbl) (hS : S0 = as.reverse ++ st) (hna : as.length = na) (hrm : zz_rc X d h) (hwt : zz_wt st ≤ 8)
    (k : MC d as h Q') (kk : ∀ r h', Q' r h' → AW X n L (r.toList ++ st) h') : AW X pc L S0 h := by
  subst hS
  subst hn
  obtain ⟨p, l, e, R, s, m, args, below, meth, c, nL, D, cI, cJ, bs, NS, Q, RET, SC⟩ := X
  obtain ⟨⟨ox, ob, oml, oown, ots, osz, oK, omn⟩, oR, oL⟩ := C
  intro H locs ls h1 h2 h3 h5
  obtain ⟨y, b, nM, rt, ⟨fr, lo⟩, mc, ms⟩ := d
  simp only [zz_rc, zz_rm, zz_NS, zz_R] at hrm
  obtain ⟨-, -, m3, -, m5, m6, m7, m8⟩ := hm
  have hM := k l D cI cJ bs
  have hG : GoodIn zz_tbl (zz_wsd (y, b, nM, rt, (fr, lo), mc, ms)) := by
    refine zz_goodIn fun w hw => ?_
    rcases List.mem_cons.mp hw with rfl | hw
    · exact m6
    · exact hw
  have hmap : ((as.reverse ++ st).map (zz_cv bs)) = (as.map (zz_cv bs)).reverse ++ st.map (zz_cv bs) := by
    rw [List.map_append, List.map_reverse]
  rw [hmap]
  refine zz_go (h := h) (va_runS (As := as.map (zz_cv bs)) (rest := st.map (zz_cv bs)) ⟨ox, ob, by rw [oml, show nL = nL from rfl], oown, ots⟩ hM ⟨callB_of na ots hG rfl rfl rfl (ots _ m5) (ots _ hlk) ⟨m7.1, m7.2, m8⟩ ⟨hrm.1, by have := hrm.2.1; show 8 + (nM + 11) + lo ≤ R.locals; omega⟩, ots _ (m3.resolve_left (by decide))⟩ ⟨zz_blind, fun U hU hW => ⟨rfl, by rw [hU]; exact h1.1, by rw [hU]; exact h1, va_K.moved hW.alike oK⟩⟩ rfl (by rw [List.length_map]; exact hna) h5.1 rfl (lv_room (by rw [zz_wt_ok]; exact hwt)) hd ⟨by have := hrm.2.2.1; show h.1.1 - NS.1 + mc ≤ R.cells; omega, by have := hrm.2.2.2; show h.1.2 - NS.2 + ms ≤ R.slots; omega⟩) h2 (fun r h' H1 locs1 z1 z2 z3 z4 => ?_)
  have W1 := kk r h' z1 H1 locs1 ls z3 z4 ⟨by rw [z2]; show NS.1 ≤ h.1.1 + mc; omega, by rw [z2]; show NS.2 ≤ h.1.2 + ms; omega⟩ h5
  rw [List.map_append] at W1
  refine W.cs ?_ ?_ (by cases r <;> exact W1)
  · rw [z2]; show h.1.1 - NS.1 + mc = h.1.1 + mc - NS.1; omega
  · rw [z2]; show h.1.2 - NS.2 + ms = h.1.2 + ms - NS.2; omega
theorem aw_callI {X : CT} {cc : ByteArray} {own mn : String} {nL : Nat} (C : zz_C X cc own mn nL) {pc : Nat} {L : List (Option AV)} {st : List AV} {h : AH} (n : Nat) (d : MD) {a idx na : Nat} {as : List AV} {S0 : List AV} {Q' : Option AV → AH → Prop} (hd : decode cc pc = .ok (.invokespecial idx, 3)) (hn : pc + 3 = n) (hm : zz_mok d 2 na) (hlk : Cond.methodLink own idx d.1 ∈ zz_tbl) (hS : S0 = as.reverse ++ vR a :: st) (hna : as.length = na) (hrm : zz_rc X d h) (hwt : zz_wt st ≤ 8)
    (k : MC d (vR a :: as) h Q') (kk : ∀ r h', Q' r h' → AW X n L (r.toList ++ st) h') : AW X pc L S0 h := by
  subst hS
  subst hn
  obtain ⟨p, l, e, R, s, m, args, below, meth, c, nL, D, cI, cJ, bs, NS, Q, RET, SC⟩ := X
  obtain ⟨⟨ox, ob, oml, oown, ots, osz, oK, omn⟩, oR, oL⟩ := C
  intro H locs ls h1 h2 h3 h5
  obtain ⟨y, b, nM, rt, ⟨fr, lo⟩, mc, ms⟩ := d
  simp only [zz_rc, zz_rm, zz_NS, zz_R] at hrm
  obtain ⟨m1, -, -, m4, m5, m6, m7, m8⟩ := hm
  have hM := k l D cI cJ bs
  obtain ⟨m41, m42⟩ := m4.resolve_left (by decide)
  have m42' : rt = none := m42
  subst m42'
  have hG : GoodIn zz_tbl (zz_wsd (y, b, nM, none, (fr, lo), mc, ms)) := by
    refine zz_goodIn fun w hw => ?_
    rcases List.mem_cons.mp hw with rfl | hw
    · exact m6
    · exact hw
  have hmap : ((as.reverse ++ vR a :: st).map (zz_cv bs)) = (as.map (zz_cv bs)).reverse ++ .ref (bs.1 + a) :: st.map (zz_cv bs) := by
    rw [List.map_append, List.map_reverse, List.map_cons]
    rfl
  rw [hmap]
  refine zz_go (h := h) (va_runI (As := as.map (zz_cv bs)) (rest := st.map (zz_cv bs)) ⟨ox, ob, by rw [oml, show nL = nL from rfl], oown, ots⟩ hM ⟨callB_of na ots hG rfl rfl rfl (ots _ m5) (ots _ hlk) ⟨m7.1, m7.2, m8⟩ ⟨hrm.1, by have := hrm.2.1; show 8 + (nM + 11) + lo ≤ R.locals; omega⟩, m41, ots _ (m1.resolve_left (by decide))⟩ ⟨zz_blind, fun U hU hW => ⟨rfl, by rw [hU]; exact h1.1, by rw [hU]; exact h1, va_K.moved hW.alike oK⟩⟩ rfl (by rw [List.length_map]; exact hna) h5.1 rfl (lv_room (by rw [zz_wt_ok]; exact hwt)) hd ⟨by have := hrm.2.2.1; show h.1.1 - NS.1 + mc ≤ R.cells; omega, by have := hrm.2.2.2; show h.1.2 - NS.2 + ms ≤ R.slots; omega⟩) h2 (fun r h' H1 locs1 z1 z2 z3 z4 => ?_)
  have W1 := kk r h' z1 H1 locs1 ls z3 z4 ⟨by rw [z2]; show NS.1 ≤ h.1.1 + mc; omega, by rw [z2]; show NS.2 ≤ h.1.2 + ms; omega⟩ h5
  rw [List.map_append] at W1
  refine W.cs ?_ ?_ (by cases r <;> exact W1)
  · rw [z2]; show h.1.1 - NS.1 + mc = h.1.1 + mc - NS.1; omega
  · rw [z2]; show h.1.2 - NS.2 + ms = h.1.2 + ms - NS.2; omega
theorem aw_objInit {X : CT} {cc : ByteArray} {own mn : String} {nL : Nat} (C : zz_C X cc own mn nL) {pc : Nat} {L : List (Option AV)} {st : List AV} {h : AH} (n : Nat) {a idx : Nat} (hd : decode cc pc = .ok (.invokespecial idx, 3)) (hn : pc + 3 = n) (hlk : Cond.methodLink own idx objectInit ∈ zz_tbl) (hin : Cond.instanceMethod objectInit ∈ zz_tbl) (hco : Cond.code objectInit ⟨#[0xb1]⟩ 1 none ∈ zz_tbl) (hrm : 1 ≤ (zz_R X).frames ∧ zz_wt st + 12 ≤ (zz_R X).locals) (k : AW X n L st h) : AW X pc L (vR a :: st) h := by
  subst hn
  obtain ⟨p, l, e, R, s, m, args, below, meth, c, nL, D, cI, cJ, bs, NS, Q, RET, SC⟩ := X
  obtain ⟨⟨ox, ob, oml, oown, ots, osz, oK, omn⟩, oR, oL⟩ := C
  intro H locs ls h1 h2 h3 h5
  have k := k H locs ls h1 h2 h3 h5
  simp only [List.map_cons, zz_cv, zz_R] at k hrm ⊢
  refine W.objInit ox ob oown (ots _ hlk) (ots _ hin) (ots _ hco) rfl (by rw [oml]; exact h5.1) rfl hd hrm.1 ?_ k
  rw [zz_wt_ok]
  show 2 * 0 + zz_wt st + 12 ≤ R.locals
  omega
theorem zz_gs (h : AH) (k : Nat) (x : AC) : zz_get (zz_put h k x) k = x := by rw [zz_get_put, if_pos rfl]
theorem zz_gn {h : AH} {k j : Nat} {x : AC} (hn : j ≠ k) : zz_get (zz_put h k x) j = zz_get h j := by rw [zz_get_put, if_neg hn]
theorem zz_rc0 {X : CT} {d : MD} {h h0 : AH} (m : MD) (hRm : zz_R X = zz_room m) (hNS : zz_NS X = h0.1) (hh : h.1 = h0.1) (e : (Nat.ble (d.2.2.2.2.1.1 + 1) m.2.2.2.2.1.1 && (Nat.ble (d.2.2.1 + 19 + d.2.2.2.2.1.2) m.2.2.2.2.1.2 && (Nat.ble d.2.2.2.2.2.1 0 && Nat.ble d.2.2.2.2.2.2 0))) = true) : zz_rc X d h := by
  simp only [Bool.and_eq_true] at e
  have e1 := Nat.le_of_ble_eq_true e.1
  have e2 := Nat.le_of_ble_eq_true e.2.1
  have e3 := Nat.le_of_ble_eq_true e.2.2.1
  have e4 := Nat.le_of_ble_eq_true e.2.2.2
  refine ⟨?_, ?_, ?_, ?_⟩
  · rw [hRm]; exact e1
  · rw [hRm]; exact e2
  · rw [hNS, hh]; omega
  · rw [hNS, hh]; omega
/-! calls by the number of arguments; an int comes back, or nothing -/
theorem aw_V0v {X : CT} {cc : ByteArray} {own mn : String} {nL : Nat} (C : zz_C X cc own mn nL) {pc : Nat} {L : List (Option AV)} {st : List AV} {h : AH} (n : Nat) (d : MD) {a idx ci : Nat} {fs : List AV} (hd : decode cc pc = .ok (.invokevirtual idx, 3)) (hn : pc + 3 = n) (hm : zz_mok d 0 0) (hlk : Cond.methodLink own idx d.1 ∈ zz_tbl) (hg : zz_get h a = cO ci fs) (hci : (vwCl[ci]?).map (fun q => q.1) = some d.1.cls ∧ ci < 5) (hrm : zz_rc X d h) (hwt : zz_wt st ≤ 8) (k : MC d [vR a] h (fun r h' => ∃ v, r = some v ∧ AW X n L (v :: st) h')) : AW X pc L (vR a :: st) h :=
  aw_callV C n d (as := []) (st := st) hd hn hm hlk hg hci rfl rfl hrm hwt k (fun r h' hQ => by obtain ⟨v, rfl, hA⟩ := hQ; exact hA)
theorem aw_V0n {X : CT} {cc : ByteArray} {own mn : String} {nL : Nat} (C : zz_C X cc own mn nL) {pc : Nat} {L : List (Option AV)} {st : List AV} {h : AH} (n : Nat) (d : MD) {a idx ci : Nat} {fs : List AV} (hd : decode cc pc = .ok (.invokevirtual idx, 3)) (hn : pc + 3 = n) (hm : zz_mok d 0 0) (hlk : Cond.methodLink own idx d.1 ∈ zz_tbl) (hg : zz_get h a = cO ci fs) (hci : (vwCl[ci]?).map (fun q => q.1) = some d.1.cls ∧ ci < 5) (hrm : zz_rc X d h) (hwt : zz_wt st ≤ 8) (k : MC d [vR a] h (fun r h' => r = none ∧ AW X n L st h')) : AW X pc L (vR a :: st) h :=
  aw_callV C n d (as := []) (st := st) hd hn hm hlk hg hci rfl rfl hrm hwt k (fun r h' hQ => by obtain ⟨rfl, hA⟩ := hQ; exact hA)
theorem aw_V1v {X : CT} {cc : ByteArray} {own mn : String} {nL : Nat} (C : zz_C X cc own mn nL) {pc : Nat} {L : List (Option AV)} {st : List AV} {h : AH} (n : Nat) (d : MD) {a idx ci : Nat} {fs : List AV} {x1 : AV} (hd : decode cc pc = .ok (.invokevirtual idx, 3)) (hn : pc + 3 = n) (hm : zz_mok d 0 1) (hlk : Cond.methodLink own idx d.1 ∈ zz_tbl) (hg : zz_get h a = cO ci fs) (hci : (vwCl[ci]?).map (fun q => q.1) = some d.1.cls ∧ ci < 5) (hrm : zz_rc X d h) (hwt : zz_wt st ≤ 8) (k : MC d [vR a, x1] h (fun r h' => ∃ v, r = some v ∧ AW X n L (v :: st) h')) : AW X pc L (x1 :: vR a :: st) h :=
  aw_callV C n d (as := [x1]) (st := st) hd hn hm hlk hg hci rfl rfl hrm hwt k (fun r h' hQ => by obtain ⟨v, rfl, hA⟩ := hQ; exact hA)
theorem aw_V1n {X : CT} {cc : ByteArray} {own mn : String} {nL : Nat} (C : zz_C X cc own mn nL) {pc : Nat} {L : List (Option AV)} {st : List AV} {h : AH} (n : Nat) (d : MD) {a idx ci : Nat} {fs : List AV} {x1 : AV} (hd : decode cc pc = .ok (.invokevirtual idx, 3)) (hn : pc + 3 = n) (hm : zz_mok d 0 1) (hlk : Cond.methodLink own idx d.1 ∈ zz_tbl) (hg : zz_get h a = cO ci fs) (hci : (vwCl[ci]?).map (fun q => q.1) = some d.1.cls ∧ ci < 5) (hrm : zz_rc X d h) (hwt : zz_wt st ≤ 8) (k : MC d [vR a, x1] h (fun r h' => r = none ∧ AW X n L st h')) : AW X pc L (x1 :: vR a :: st) h :=
  aw_callV C n d (as := [x1]) (st := st) hd hn hm hlk hg hci rfl rfl hrm hwt k (fun r h' hQ => by obtain ⟨rfl, hA⟩ := hQ; exact hA)
theorem aw_V2v {X : CT} {cc : ByteArray} {own mn : String} {nL : Nat} (C : zz_C X cc own mn nL) {pc : Nat} {L : List (Option AV)} {st : List AV} {h : AH} (n : Nat) (d : MD) {a idx ci : Nat} {fs : List AV} {x1 x2 : AV} (hd : decode cc pc = .ok (.invokevirtual idx, 3)) (hn : pc + 3 = n) (hm : zz_mok d 0 2) (hlk : Cond.methodLink own idx d.1 ∈ zz_tbl) (hg : zz_get h a = cO ci fs) (hci : (vwCl[ci]?).map (fun q => q.1) = some d.1.cls ∧ ci < 5) (hrm : zz_rc X d h) (hwt : zz_wt st ≤ 8) (k : MC d [vR a, x1, x2] h (fun r h' => ∃ v, r = some v ∧ AW X n L (v :: st) h')) : AW X pc L (x2 :: x1 :: vR a :: st) h :=
  aw_callV C n d (as := [x1, x2]) (st := st) hd hn hm hlk hg hci rfl rfl hrm hwt k (fun r h' hQ => by obtain ⟨v, rfl, hA⟩ := hQ; exact hA)
theorem aw_V2n {X : CT} {cc : ByteArray} {own mn : String} {nL : Nat} (C : zz_C X cc own mn nL) {pc : Nat} {L : List (Option AV)} {st : List AV} {h : AH} (n : Nat) (d : MD) {a idx ci : Nat} {fs : List AV} {x1 x2 : AV} (hd : decode cc pc = .ok (.invokevirtual idx, 3)) (hn : pc + 3 = n) (hm : zz_mok d 0 2) (hlk : Cond.methodLink own idx d.1 ∈ zz_tbl) (hg : zz_get h a = cO ci fs) (hci : (vwCl[ci]?).map (fun q => q.1) = some d.1.cls ∧ ci < 5) (hrm : zz_rc X d h) (hwt : zz_wt st ≤ 8) (k : MC d [vR a, x1, x2] h (fun r h' => r = none ∧ AW X n L st h')) : AW X pc L (x2 :: x1 :: vR a :: st) h :=
  aw_callV C n d (as := [x1, x2]) (st := st) hd hn hm hlk hg hci rfl rfl hrm hwt k (fun r h' hQ => by obtain ⟨rfl, hA⟩ := hQ; exact hA)
theorem aw_V3v {X : CT} {cc : ByteArray} {own mn : String} {nL : Nat} (C : zz_C X cc own mn nL) {pc : Nat} {L : List (Option AV)} {st : List AV} {h : AH} (n : Nat) (d : MD) {a idx ci : Nat} {fs : List AV} {x1 x2 x3 : AV} (hd : decode cc pc = .ok (.invokevirtual idx, 3)) (hn : pc + 3 = n) (hm : zz_mok d 0 3) (hlk : Cond.methodLink own idx d.1 ∈ zz_tbl) (hg : zz_get h a = cO ci fs) (hci : (vwCl[ci]?).map (fun q => q.1) = some d.1.cls ∧ ci < 5) (hrm : zz_rc X d h) (hwt : zz_wt st ≤ 8) (k : MC d [vR a, x1, x2, x3] h (fun r h' => ∃ v, r = some v ∧ AW X n L (v :: st) h')) : AW X pc L (x3 :: x2 :: x1 :: vR a :: st) h :=
  aw_callV C n d (as := [x1, x2, x3]) (st := st) hd hn hm hlk hg hci rfl rfl hrm hwt k (fun r h' hQ => by obtain ⟨v, rfl, hA⟩ := hQ; exact hA)
theorem aw_V3n {X : CT} {cc : ByteArray} {own mn : String} {nL : Nat} (C : zz_C X cc own mn nL) {pc : Nat} {L : List (Option AV)} {st : List AV} {h : AH} (n : Nat) (d : MD) {a idx ci : Nat} {fs : List AV} {x1 x2 x3 : AV} (hd : decode cc pc = .ok (.invokevirtual idx, 3)) (hn : pc + 3 = n) (hm : zz_mok d 0 3) (hlk : Cond.methodLink own idx d.1 ∈ zz_tbl) (hg : zz_get h a = cO ci fs) (hci : (vwCl[ci]?).map (fun q => q.1) = some d.1.cls ∧ ci < 5) (hrm : zz_rc X d h) (hwt : zz_wt st ≤ 8) (k : MC d [vR a, x1, x2, x3] h (fun r h' => r = none ∧ AW X n L st h')) : AW X pc L (x3 :: x2 :: x1 :: vR a :: st) h :=
  aw_callV C n d (as := [x1, x2, x3]) (st := st) hd hn hm hlk hg hci rfl rfl hrm hwt k (fun r h' hQ => by obtain ⟨rfl, hA⟩ := hQ; exact hA)
theorem aw_V4v {X : CT} {cc : ByteArray} {own mn : String} {nL : Nat} (C : zz_C X cc own mn nL) {pc : Nat} {L : List (Option AV)} {st : List AV} {h : AH} (n : Nat) (d : MD) {a idx ci : Nat} {fs : List AV} {x1 x2 x3 x4 : AV} (hd : decode cc pc = .ok (.invokevirtual idx, 3)) (hn : pc + 3 = n) (hm : zz_mok d 0 4) (hlk : Cond.methodLink own idx d.1 ∈ zz_tbl) (hg : zz_get h a = cO ci fs) (hci : (vwCl[ci]?).map (fun q => q.1) = some d.1.cls ∧ ci < 5) (hrm : zz_rc X d h) (hwt : zz_wt st ≤ 8) (k : MC d [vR a, x1, x2, x3, x4] h (fun r h' => ∃ v, r = some v ∧ AW X n L (v :: st) h')) : AW X pc L (x4 :: x3 :: x2 :: x1 :: vR a :: st) h :=
  aw_callV C n d (as := [x1, x2, x3, x4]) (st := st) hd hn hm hlk hg hci rfl rfl hrm hwt k (fun r h' hQ => by obtain ⟨v, rfl, hA⟩ := hQ; exact hA)
theorem aw_V4n {X : CT} {cc : ByteArray} {own mn : String} {nL : Nat} (C : zz_C X cc own mn nL) {pc : Nat} {L : List (Option AV)} {st : List AV} {h : AH} (n : Nat) (d : MD) {a idx ci : Nat} {fs : List AV} {x1 x2 x3 x4 : AV} (hd : decode cc pc = .ok (.invokevirtual idx, 3)) (hn : pc + 3 = n) (hm : zz_mok d 0 4) (hlk : Cond.methodLink own idx d.1 ∈ zz_tbl) (hg : zz_get h a = cO ci fs) (hci : (vwCl[ci]?).map (fun q => q.1) = some d.1.cls ∧ ci < 5) (hrm : zz_rc X d h) (hwt : zz_wt st ≤ 8) (k : MC d [vR a, x1, x2, x3, x4] h (fun r h' => r = none ∧ AW X n L st h')) : AW X pc L (x4 :: x3 :: x2 :: x1 :: vR a :: st) h :=
  aw_callV C n d (as := [x1, x2, x3, x4]) (st := st) hd hn hm hlk hg hci rfl rfl hrm hwt k (fun r h' hQ => by obtain ⟨rfl, hA⟩ := hQ; exact hA)
theorem aw_S1v {X : CT} {cc : ByteArray} {own mn : String} {nL : Nat} (C : zz_C X cc own mn nL) {pc : Nat} {L : List (Option AV)} {st : List AV} {h : AH} (n : Nat) (d : MD) {idx : Nat} {x1 : AV} (hd : decode cc pc = .ok (.invokestatic idx, 3)) (hn : pc + 3 = n) (hm : zz_mok d 1 1) (hlk : Cond.methodLink own idx d.1 ∈ zz_tbl) (hrm : zz_rc X d h) (hwt : zz_wt st ≤ 8) (k : MC d [x1] h (fun r h' => ∃ v, r = some v ∧ AW X n L (v :: st) h')) : AW X pc L (x1 :: st) h :=
  aw_callS C n d (as := [x1]) (st := st) hd hn hm hlk rfl rfl hrm hwt k (fun r h' hQ => by obtain ⟨v, rfl, hA⟩ := hQ; exact hA)
theorem aw_S1n {X : CT} {cc : ByteArray} {own mn : String} {nL : Nat} (C : zz_C X cc own mn nL) {pc : Nat} {L : List (Option AV)} {st : List AV} {h : AH} (n : Nat) (d : MD) {idx : Nat} {x1 : AV} (hd : decode cc pc = .ok (.invokestatic idx, 3)) (hn : pc + 3 = n) (hm : zz_mok d 1 1) (hlk : Cond.methodLink own idx d.1 ∈ zz_tbl) (hrm : zz_rc X d h) (hwt : zz_wt st ≤ 8) (k : MC d [x1] h (fun r h' => r = none ∧ AW X n L st h')) : AW X pc L (x1 :: st) h :=
  aw_callS C n d (as := [x1]) (st := st) hd hn hm hlk rfl rfl hrm hwt k (fun r h' hQ => by obtain ⟨rfl, hA⟩ := hQ; exact hA)
theorem aw_S2v {X : CT} {cc : ByteArray} {own mn : String} {nL : Nat} (C : zz_C X cc own mn nL) {pc : Nat} {L : List (Option AV)} {st : List AV} {h : AH} (n : Nat) (d : MD) {idx : Nat} {x1 x2 : AV} (hd : decode cc pc = .ok (.invokestatic idx, 3)) (hn : pc + 3 = n) (hm : zz_mok d 1 2) (hlk : Cond.methodLink own idx d.1 ∈ zz_tbl) (hrm : zz_rc X d h) (hwt : zz_wt st ≤ 8) (k : MC d [x1, x2] h (fun r h' => ∃ v, r = some v ∧ AW X n L (v :: st) h')) : AW X pc L (x2 :: x1 :: st) h :=
  aw_callS C n d (as := [x1, x2]) (st := st) hd hn hm hlk rfl rfl hrm hwt k (fun r h' hQ => by obtain ⟨v, rfl, hA⟩ := hQ; exact hA)
theorem aw_S2n {X : CT} {cc : ByteArray} {own mn : String} {nL : Nat} (C : zz_C X cc own mn nL) {pc : Nat} {L : List (Option AV)} {st : List AV} {h : AH} (n : Nat) (d : MD) {idx : Nat} {x1 x2 : AV} (hd : decode cc pc = .ok (.invokestatic idx, 3)) (hn : pc + 3 = n) (hm : zz_mok d 1 2) (hlk : Cond.methodLink own idx d.1 ∈ zz_tbl) (hrm : zz_rc X d h) (hwt : zz_wt st ≤ 8) (k : MC d [x1, x2] h (fun r h' => r = none ∧ AW X n L st h')) : AW X pc L (x2 :: x1 :: st) h :=
  aw_callS C n d (as := [x1, x2]) (st := st) hd hn hm hlk rfl rfl hrm hwt k (fun r h' hQ => by obtain ⟨rfl, hA⟩ := hQ; exact hA)
theorem aw_S3v {X : CT} {cc : ByteArray} {own mn : String} {nL : Nat} (C : zz_C X cc own mn nL) {pc : Nat} {L : List (Option AV)} {st : List AV} {h : AH} (n : Nat) (d : MD) {idx : Nat} {x1 x2 x3 : AV} (hd : decode cc pc = .ok (.invokestatic idx, 3)) (hn : pc + 3 = n) (hm : zz_mok d 1 3) (hlk : Cond.methodLink own idx d.1 ∈ zz_tbl) (hrm : zz_rc X d h) (hwt : zz_wt st ≤ 8) (k : MC d [x1, x2, x3] h (fun r h' => ∃ v, r = some v ∧ AW X n L (v :: st) h')) : AW X pc L (x3 :: x2 :: x1 :: st) h :=
  aw_callS C n d (as := [x1, x2, x3]) (st := st) hd hn hm hlk rfl rfl hrm hwt k (fun r h' hQ => by obtain ⟨v, rfl, hA⟩ := hQ; exact hA)
theorem aw_S3n {X : CT} {cc : ByteArray} {own mn : String} {nL : Nat} (C : zz_C X cc own mn nL) {pc : Nat} {L : List (Option AV)} {st : List AV} {h : AH} (n : Nat) (d : MD) {idx : Nat} {x1 x2 x3 : AV} (hd : decode cc pc = .ok (.invokestatic idx, 3)) (hn : pc + 3 = n) (hm : zz_mok d 1 3) (hlk : Cond.methodLink own idx d.1 ∈ zz_tbl) (hrm : zz_rc X d h) (hwt : zz_wt st ≤ 8) (k : MC d [x1, x2, x3] h (fun r h' => r = none ∧ AW X n L st h')) : AW X pc L (x3 :: x2 :: x1 :: st) h :=
  aw_callS C n d (as := [x1, x2, x3]) (st := st) hd hn hm hlk rfl rfl hrm hwt k (fun r h' hQ => by obtain ⟨rfl, hA⟩ := hQ; exact hA)
theorem aw_S4v {X : CT} {cc : ByteArray} {own mn : String} {nL : Nat} (C : zz_C X cc own mn nL) {pc : Nat} {L : List (Option AV)} {st : List AV} {h : AH} (n : Nat) (d : MD) {idx : Nat} {x1 x2 x3 x4 : AV} (hd : decode cc pc = .ok (.invokestatic idx, 3)) (hn : pc + 3 = n) (hm : zz_mok d 1 4) (hlk : Cond.methodLink own idx d.1 ∈ zz_tbl) (hrm : zz_rc X d h) (hwt : zz_wt st ≤ 8) (k : MC d [x1, x2, x3, x4] h (fun r h' => ∃ v, r = some v ∧ AW X n L (v :: st) h')) : AW X pc L (x4 :: x3 :: x2 :: x1 :: st) h :=
  aw_callS C n d (as := [x1, x2, x3, x4]) (st := st) hd hn hm hlk rfl rfl hrm hwt k (fun r h' hQ => by obtain ⟨v, rfl, hA⟩ := hQ; exact hA)
theorem aw_S4n {X : CT} {cc : ByteArray} {own mn : String} {nL : Nat} (C : zz_C X cc own mn nL) {pc : Nat} {L : List (Option AV)} {st : List AV} {h : AH} (n : Nat) (d : MD) {idx : Nat} {x1 x2 x3 x4 : AV} (hd : decode cc pc = .ok (.invokestatic idx, 3)) (hn : pc + 3 = n) (hm : zz_mok d 1 4) (hlk : Cond.methodLink own idx d.1 ∈ zz_tbl) (hrm : zz_rc X d h) (hwt : zz_wt st ≤ 8) (k : MC d [x1, x2, x3, x4] h (fun r h' => r = none ∧ AW X n L st h')) : AW X pc L (x4 :: x3 :: x2 :: x1 :: st) h :=
  aw_callS C n d (as := [x1, x2, x3, x4]) (st := st) hd hn hm hlk rfl rfl hrm hwt k (fun r h' hQ => by obtain ⟨rfl, hA⟩ := hQ; exact hA)
theorem aw_I0n {X : CT} {cc : ByteArray} {own mn : String} {nL : Nat} (C : zz_C X cc own mn nL) {pc : Nat} {L : List (Option AV)} {st : List AV} {h : AH} (n : Nat) (d : MD) {a idx : Nat} (hd : decode cc pc = .ok (.invokespecial idx, 3)) (hn : pc + 3 = n) (hm : zz_mok d 2 0) (hlk : Cond.methodLink own idx d.1 ∈ zz_tbl) (hrm : zz_rc X d h) (hwt : zz_wt st ≤ 8) (k : MC d [vR a] h (fun r h' => r = none ∧ AW X n L st h')) : AW X pc L (vR a :: st) h :=
  aw_callI C n d (as := []) (st := st) hd hn hm hlk rfl rfl hrm hwt k (fun r h' hQ => by obtain ⟨rfl, hA⟩ := hQ; exact hA)
end
section
/-! methods, links, fields (by wip/whole/gen/sites.py) -/
def yJ_max : MethodName := ⟨"java/lang/Math", "max", "(II)I"⟩
def yJ_min : MethodName := ⟨"java/lang/Math", "min", "(II)I"⟩
abbrev cJ_max : ByteArray := prog_8_method_65_code
abbrev cJ_min : ByteArray := prog_8_method_69_code
theorem dJ_max_0 : decode cJ_max 0 = .ok (.iload_n 0, 1) := by decide +kernel
theorem dJ_max_1 : decode cJ_max 1 = .ok (.iload_n 1, 1) := by decide +kernel
theorem dJ_max_2 : decode cJ_max 2 = .ok (.if_icmp .lt 7, 3) := by decide +kernel
theorem dJ_max_5 : decode cJ_max 5 = .ok (.iload_n 0, 1) := by decide +kernel
theorem dJ_max_6 : decode cJ_max 6 = .ok (.goto 4, 3) := by decide +kernel
theorem dJ_max_9 : decode cJ_max 9 = .ok (.iload_n 1, 1) := by decide +kernel
theorem dJ_max_10 : decode cJ_max 10 = .ok (.ireturn, 1) := by decide +kernel
theorem dJ_min_0 : decode cJ_min 0 = .ok (.iload_n 0, 1) := by decide +kernel
theorem dJ_min_1 : decode cJ_min 1 = .ok (.iload_n 1, 1) := by decide +kernel
theorem dJ_min_2 : decode cJ_min 2 = .ok (.if_icmp .gt 7, 3) := by decide +kernel
theorem dJ_min_5 : decode cJ_min 5 = .ok (.iload_n 0, 1) := by decide +kernel
theorem dJ_min_6 : decode cJ_min 6 = .ok (.goto 4, 3) := by decide +kernel
theorem dJ_min_9 : decode cJ_min 9 = .ok (.iload_n 1, 1) := by decide +kernel
theorem dJ_min_10 : decode cJ_min 10 = .ok (.ireturn, 1) := by decide +kernel
theorem uiX0 : ∀ w ∈ u_ws RX0 TX0 7, w ∈ zz_tbl := by decide +kernel
theorem uiX1 : ∀ w ∈ u_ws RX1 TX1 4, w ∈ zz_tbl := by decide +kernel
theorem uiX3 : ∀ w ∈ u_ws RX3 TX3 4, w ∈ zz_tbl := by decide +kernel
theorem uiX4 : ∀ w ∈ u_ws RX4 TX4 6, w ∈ zz_tbl := by decide +kernel
theorem uiX5 : ∀ w ∈ u_ws RX5 TX5 12, w ∈ zz_tbl := by decide +kernel
abbrev mX4_init : MD := (yX4_init, cX4_init, 2, none, (6, 132), (19, 563))
theorem okmX4_init : zz_mok mX4_init 2 0 := ⟨Or.inr (zz_in 36 (by decide +kernel) (by decide +kernel)), Or.inl (by decide), Or.inl (by decide), Or.inr ⟨rfl, rfl⟩, zz_in 26 (by decide +kernel) (by decide +kernel), zz_in 37 (by decide +kernel) (by decide +kernel), ⟨by decide +kernel, by decide +kernel⟩, by decide +kernel⟩
abbrev mX3_init : MD := (yX3_init, cX3_init, 1, none, (1, 12), (3, 21))
theorem okmX3_init : zz_mok mX3_init 2 0 := ⟨Or.inr (zz_in 44 (by decide +kernel) (by decide +kernel)), Or.inl (by decide), Or.inl (by decide), Or.inr ⟨rfl, rfl⟩, zz_in 27 (by decide +kernel) (by decide +kernel), zz_in 45 (by decide +kernel) (by decide +kernel), ⟨by decide +kernel, by decide +kernel⟩, by decide +kernel⟩
abbrev mX1_init : MD := (yX1_init, cX1_init, 1, none, (1, 12), (3, 77))
theorem okmX1_init : zz_mok mX1_init 2 0 := ⟨Or.inr (zz_in 66 (by decide +kernel) (by decide +kernel)), Or.inl (by decide), Or.inl (by decide), Or.inr ⟨rfl, rfl⟩, zz_in 28 (by decide +kernel) (by decide +kernel), zz_in 67 (by decide +kernel) (by decide +kernel), ⟨by decide +kernel, by decide +kernel⟩, by decide +kernel⟩
abbrev mX0_init : MD := (yX0_init, cX0_init, 1, none, (1, 12), (4, 219))
theorem okmX0_init : zz_mok mX0_init 2 0 := ⟨Or.inr (zz_in 85 (by decide +kernel) (by decide +kernel)), Or.inl (by decide), Or.inl (by decide), Or.inr ⟨rfl, rfl⟩, zz_in 29 (by decide +kernel) (by decide +kernel), zz_in 86 (by decide +kernel) (by decide +kernel), ⟨by decide +kernel, by decide +kernel⟩, by decide +kernel⟩
abbrev mX0_begin : MD := (yX0_begin, cX0_begin, 4, none, (5, 109), (0, 0))
theorem okmX0_begin : zz_mok mX0_begin 0 1 := ⟨Or.inr (zz_in 117 (by decide +kernel) (by decide +kernel)), Or.inr (zz_in 118 (by decide +kernel) (by decide +kernel)), Or.inl (by decide), Or.inl (by decide), zz_in 29 (by decide +kernel) (by decide +kernel), zz_in 119 (by decide +kernel) (by decide +kernel), ⟨by decide +kernel, by decide +kernel⟩, by decide +kernel⟩
abbrev mX0_paint : MD := (yX0_paint, cX0_paint, 4, none, (0, 0), (0, 0))
theorem okmX0_paint : zz_mok mX0_paint 0 3 := ⟨Or.inr (zz_in 121 (by decide +kernel) (by decide +kernel)), Or.inr (zz_in 122 (by decide +kernel) (by decide +kernel)), Or.inl (by decide), Or.inl (by decide), zz_in 29 (by decide +kernel) (by decide +kernel), zz_in 123 (by decide +kernel) (by decide +kernel), ⟨by decide +kernel, by decide +kernel⟩, by decide +kernel⟩
abbrev mX0_measure : MD := (yX0_measure, cX0_measure, 1, none, (4, 89), (0, 0))
theorem okmX0_measure : zz_mok mX0_measure 0 0 := ⟨Or.inr (zz_in 125 (by decide +kernel) (by decide +kernel)), Or.inr (zz_in 126 (by decide +kernel) (by decide +kernel)), Or.inl (by decide), Or.inl (by decide), zz_in 29 (by decide +kernel) (by decide +kernel), zz_in 127 (by decide +kernel) (by decide +kernel), ⟨by decide +kernel, by decide +kernel⟩, by decide +kernel⟩
abbrev mX0_findFirsts : MD := (yX0_findFirsts, cX0_findFirsts, 4, none, (1, 22), (0, 0))
theorem okmX0_findFirsts : zz_mok mX0_findFirsts 0 0 := ⟨Or.inr (zz_in 129 (by decide +kernel) (by decide +kernel)), Or.inr (zz_in 130 (by decide +kernel) (by decide +kernel)), Or.inl (by decide), Or.inl (by decide), zz_in 29 (by decide +kernel) (by decide +kernel), zz_in 131 (by decide +kernel) (by decide +kernel), ⟨by decide +kernel, by decide +kernel⟩, by decide +kernel⟩
abbrev mX0_colourOf : MD := (yX0_colourOf, cX0_colourOf, 3, (some .int), (0, 0), (0, 0))
theorem okmX0_colourOf : zz_mok mX0_colourOf 0 2 := ⟨Or.inr (zz_in 133 (by decide +kernel) (by decide +kernel)), Or.inr (zz_in 134 (by decide +kernel) (by decide +kernel)), Or.inl (by decide), Or.inl (by decide), zz_in 29 (by decide +kernel) (by decide +kernel), zz_in 135 (by decide +kernel) (by decide +kernel), ⟨by decide +kernel, by decide +kernel⟩, by decide +kernel⟩
abbrev mJ_max : MD := (yJ_max, cJ_max, 2, (some .int), (0, 0), (0, 0))
theorem okmJ_max : zz_mok mJ_max 1 2 := ⟨Or.inl rfl, Or.inl (by decide), Or.inr (zz_in 137 (by decide +kernel) (by decide +kernel)), Or.inl (by decide), zz_in 30 (by decide +kernel) (by decide +kernel), zz_in 138 (by decide +kernel) (by decide +kernel), ⟨by decide +kernel, by decide +kernel⟩, by decide +kernel⟩
abbrev mX0_firstFailure : MD := (yX0_firstFailure, cX0_firstFailure, 2, (some .int), (3, 68), (0, 0))
theorem okmX0_firstFailure : zz_mok mX0_firstFailure 0 0 := ⟨Or.inr (zz_in 140 (by decide +kernel) (by decide +kernel)), Or.inr (zz_in 141 (by decide +kernel) (by decide +kernel)), Or.inl (by decide), Or.inl (by decide), zz_in 29 (by decide +kernel) (by decide +kernel), zz_in 142 (by decide +kernel) (by decide +kernel), ⟨by decide +kernel, by decide +kernel⟩, by decide +kernel⟩
abbrev mX0_misplacedZero : MD := (yX0_misplacedZero, cX0_misplacedZero, 3, (some .int), (1, 22), (0, 0))
theorem okmX0_misplacedZero : zz_mok mX0_misplacedZero 0 0 := ⟨Or.inr (zz_in 144 (by decide +kernel) (by decide +kernel)), Or.inr (zz_in 145 (by decide +kernel) (by decide +kernel)), Or.inl (by decide), Or.inl (by decide), zz_in 29 (by decide +kernel) (by decide +kernel), zz_in 146 (by decide +kernel) (by decide +kernel), ⟨by decide +kernel, by decide +kernel⟩, by decide +kernel⟩
abbrev mX0_failureAt : MD := (yX0_failureAt, cX0_failureAt, 3, (some .int), (0, 0), (0, 0))
theorem okmX0_failureAt : zz_mok mX0_failureAt 1 3 := ⟨Or.inl rfl, Or.inl (by decide), Or.inr (zz_in 148 (by decide +kernel) (by decide +kernel)), Or.inl (by decide), zz_in 29 (by decide +kernel) (by decide +kernel), zz_in 149 (by decide +kernel) (by decide +kernel), ⟨by decide +kernel, by decide +kernel⟩, by decide +kernel⟩
abbrev mX0_missingColour : MD := (yX0_missingColour, cX0_missingColour, 2, (some .int), (1, 22), (0, 0))
theorem okmX0_missingColour : zz_mok mX0_missingColour 0 0 := ⟨Or.inr (zz_in 151 (by decide +kernel) (by decide +kernel)), Or.inr (zz_in 152 (by decide +kernel) (by decide +kernel)), Or.inl (by decide), Or.inl (by decide), zz_in 29 (by decide +kernel) (by decide +kernel), zz_in 153 (by decide +kernel) (by decide +kernel), ⟨by decide +kernel, by decide +kernel⟩, by decide +kernel⟩
abbrev mX0_wrongReversal : MD := (yX0_wrongReversal, cX0_wrongReversal, 3, (some .int), (2, 44), (0, 0))
theorem okmX0_wrongReversal : zz_mok mX0_wrongReversal 0 0 := ⟨Or.inr (zz_in 155 (by decide +kernel) (by decide +kernel)), Or.inr (zz_in 156 (by decide +kernel) (by decide +kernel)), Or.inl (by decide), Or.inl (by decide), zz_in 29 (by decide +kernel) (by decide +kernel), zz_in 157 (by decide +kernel) (by decide +kernel), ⟨by decide +kernel, by decide +kernel⟩, by decide +kernel⟩
abbrev mX0_reverseOf : MD := (yX0_reverseOf, cX0_reverseOf, 3, (some .int), (1, 22), (0, 0))
theorem okmX0_reverseOf : zz_mok mX0_reverseOf 0 1 := ⟨Or.inr (zz_in 159 (by decide +kernel) (by decide +kernel)), Or.inr (zz_in 160 (by decide +kernel) (by decide +kernel)), Or.inl (by decide), Or.inl (by decide), zz_in 29 (by decide +kernel) (by decide +kernel), zz_in 161 (by decide +kernel) (by decide +kernel), ⟨by decide +kernel, by decide +kernel⟩, by decide +kernel⟩
abbrev mX0_wrongCounts : MD := (yX0_wrongCounts, cX0_wrongCounts, 4, (some .int), (2, 45), (0, 0))
theorem okmX0_wrongCounts : zz_mok mX0_wrongCounts 0 0 := ⟨Or.inr (zz_in 163 (by decide +kernel) (by decide +kernel)), Or.inr (zz_in 164 (by decide +kernel) (by decide +kernel)), Or.inl (by decide), Or.inl (by decide), zz_in 29 (by decide +kernel) (by decide +kernel), zz_in 165 (by decide +kernel) (by decide +kernel), ⟨by decide +kernel, by decide +kernel⟩, by decide +kernel⟩
abbrev mX0_countBetween : MD := (yX0_countBetween, cX0_countBetween, 4, none, (1, 22), (0, 0))
theorem okmX0_countBetween : zz_mok mX0_countBetween 0 2 := ⟨Or.inr (zz_in 167 (by decide +kernel) (by decide +kernel)), Or.inr (zz_in 168 (by decide +kernel) (by decide +kernel)), Or.inl (by decide), Or.inl (by decide), zz_in 29 (by decide +kernel) (by decide +kernel), zz_in 169 (by decide +kernel) (by decide +kernel), ⟨by decide +kernel, by decide +kernel⟩, by decide +kernel⟩
abbrev mX0_keepCounts : MD := (yX0_keepCounts, cX0_keepCounts, 3, none, (0, 0), (0, 0))
theorem okmX0_keepCounts : zz_mok mX0_keepCounts 0 1 := ⟨Or.inr (zz_in 171 (by decide +kernel) (by decide +kernel)), Or.inr (zz_in 172 (by decide +kernel) (by decide +kernel)), Or.inl (by decide), Or.inl (by decide), zz_in 29 (by decide +kernel) (by decide +kernel), zz_in 173 (by decide +kernel) (by decide +kernel), ⟨by decide +kernel, by decide +kernel⟩, by decide +kernel⟩
abbrev mX0_countsAreKept : MD := (yX0_countsAreKept, cX0_countsAreKept, 3, (some .boolean), (0, 0), (0, 0))
theorem okmX0_countsAreKept : zz_mok mX0_countsAreKept 0 1 := ⟨Or.inr (zz_in 175 (by decide +kernel) (by decide +kernel)), Or.inr (zz_in 176 (by decide +kernel) (by decide +kernel)), Or.inl (by decide), Or.inl (by decide), zz_in 29 (by decide +kernel) (by decide +kernel), zz_in 177 (by decide +kernel) (by decide +kernel), ⟨by decide +kernel, by decide +kernel⟩, by decide +kernel⟩
abbrev mX4_points : MD := (yX4_points, cX4_points, 3, (some .int), (6, 132), (0, 0))
theorem okmX4_points : zz_mok mX4_points 0 1 := ⟨Or.inr (zz_in 198 (by decide +kernel) (by decide +kernel)), Or.inr (zz_in 199 (by decide +kernel) (by decide +kernel)), Or.inl (by decide), Or.inl (by decide), zz_in 26 (by decide +kernel) (by decide +kernel), zz_in 200 (by decide +kernel) (by decide +kernel), ⟨by decide +kernel, by decide +kernel⟩, by decide +kernel⟩
abbrev mX4_colour : MD := (yX4_colour, cX4_colour, 5, (some .int), (5, 109), (0, 0))
theorem okmX4_colour : zz_mok mX4_colour 0 3 := ⟨Or.inr (zz_in 202 (by decide +kernel) (by decide +kernel)), Or.inr (zz_in 203 (by decide +kernel) (by decide +kernel)), Or.inl (by decide), Or.inl (by decide), zz_in 26 (by decide +kernel) (by decide +kernel), zz_in 204 (by decide +kernel) (by decide +kernel), ⟨by decide +kernel, by decide +kernel⟩, by decide +kernel⟩
abbrev mX4_isPoint : MD := (yX4_isPoint, cX4_isPoint, 2, (some .boolean), (0, 0), (0, 0))
theorem okmX4_isPoint : zz_mok mX4_isPoint 0 1 := ⟨Or.inr (zz_in 207 (by decide +kernel) (by decide +kernel)), Or.inr (zz_in 0 (by decide +kernel) (by decide +kernel)), Or.inl (by decide), Or.inl (by decide), zz_in 26 (by decide +kernel) (by decide +kernel), zz_in 208 (by decide +kernel) (by decide +kernel), ⟨by decide +kernel, by decide +kernel⟩, by decide +kernel⟩
abbrev mX4_at : MD := (yX4_at, cX4_at, 3, (some .int), (1, 22), (0, 0))
theorem okmX4_at : zz_mok mX4_at 0 2 := ⟨Or.inr (zz_in 213 (by decide +kernel) (by decide +kernel)), Or.inr (zz_in 214 (by decide +kernel) (by decide +kernel)), Or.inl (by decide), Or.inl (by decide), zz_in 26 (by decide +kernel) (by decide +kernel), zz_in 215 (by decide +kernel) (by decide +kernel), ⟨by decide +kernel, by decide +kernel⟩, by decide +kernel⟩
abbrev mX4_ring : MD := (yX4_ring, cX4_ring, 4, (some .int), (6, 135), (0, 0))
theorem okmX4_ring : zz_mok mX4_ring 0 1 := ⟨Or.inr (zz_in 217 (by decide +kernel) (by decide +kernel)), Or.inr (zz_in 218 (by decide +kernel) (by decide +kernel)), Or.inl (by decide), Or.inl (by decide), zz_in 26 (by decide +kernel) (by decide +kernel), zz_in 219 (by decide +kernel) (by decide +kernel), ⟨by decide +kernel, by decide +kernel⟩, by decide +kernel⟩
abbrev mX0_paintRing : MD := (yX0_paintRing, cX0_paintRing, 7, none, (5, 109), (0, 0))
theorem okmX0_paintRing : zz_mok mX0_paintRing 0 1 := ⟨Or.inr (zz_in 221 (by decide +kernel) (by decide +kernel)), Or.inr (zz_in 222 (by decide +kernel) (by decide +kernel)), Or.inl (by decide), Or.inl (by decide), zz_in 29 (by decide +kernel) (by decide +kernel), zz_in 223 (by decide +kernel) (by decide +kernel), ⟨by decide +kernel, by decide +kernel⟩, by decide +kernel⟩
abbrev mX4_isEven : MD := (yX4_isEven, cX4_isEven, 1, (some .boolean), (0, 0), (0, 0))
theorem okmX4_isEven : zz_mok mX4_isEven 0 0 := ⟨Or.inr (zz_in 226 (by decide +kernel) (by decide +kernel)), Or.inr (zz_in 1 (by decide +kernel) (by decide +kernel)), Or.inl (by decide), Or.inl (by decide), zz_in 26 (by decide +kernel) (by decide +kernel), zz_in 227 (by decide +kernel) (by decide +kernel), ⟨by decide +kernel, by decide +kernel⟩, by decide +kernel⟩
abbrev mX4_fails : MD := (yX4_fails, cX4_fails, 1, (some .int), (0, 0), (0, 0))
theorem okmX4_fails : zz_mok mX4_fails 0 0 := ⟨Or.inr (zz_in 229 (by decide +kernel) (by decide +kernel)), Or.inr (zz_in 230 (by decide +kernel) (by decide +kernel)), Or.inl (by decide), Or.inl (by decide), zz_in 26 (by decide +kernel) (by decide +kernel), zz_in 231 (by decide +kernel) (by decide +kernel), ⟨by decide +kernel, by decide +kernel⟩, by decide +kernel⟩
abbrev mX4_number : MD := (yX4_number, cX4_number, 4, (some .int), (1, 23), (0, 0))
theorem okmX4_number : zz_mok mX4_number 0 3 := ⟨Or.inr (zz_in 233 (by decide +kernel) (by decide +kernel)), Or.inr (zz_in 234 (by decide +kernel) (by decide +kernel)), Or.inl (by decide), Or.inl (by decide), zz_in 26 (by decide +kernel) (by decide +kernel), zz_in 235 (by decide +kernel) (by decide +kernel), ⟨by decide +kernel, by decide +kernel⟩, by decide +kernel⟩
abbrev mX4_isColour : MD := (yX4_isColour, cX4_isColour, 2, (some .boolean), (0, 0), (0, 0))
theorem okmX4_isColour : zz_mok mX4_isColour 0 1 := ⟨Or.inr (zz_in 238 (by decide +kernel) (by decide +kernel)), Or.inr (zz_in 2 (by decide +kernel) (by decide +kernel)), Or.inl (by decide), Or.inl (by decide), zz_in 26 (by decide +kernel) (by decide +kernel), zz_in 239 (by decide +kernel) (by decide +kernel), ⟨by decide +kernel, by decide +kernel⟩, by decide +kernel⟩
abbrev mX0_numberOf : MD := (yX0_numberOf, cX0_numberOf, 4, (some .int), (0, 0), (0, 0))
theorem okmX0_numberOf : zz_mok mX0_numberOf 0 3 := ⟨Or.inr (zz_in 241 (by decide +kernel) (by decide +kernel)), Or.inr (zz_in 242 (by decide +kernel) (by decide +kernel)), Or.inl (by decide), Or.inl (by decide), zz_in 29 (by decide +kernel) (by decide +kernel), zz_in 243 (by decide +kernel) (by decide +kernel), ⟨by decide +kernel, by decide +kernel⟩, by decide +kernel⟩
abbrev mX4_of : MD := (yX4_of, cX4_of, 3, (some .int), (2, 45), (0, 0))
theorem okmX4_of : zz_mok mX4_of 0 2 := ⟨Or.inr (zz_in 245 (by decide +kernel) (by decide +kernel)), Or.inr (zz_in 246 (by decide +kernel) (by decide +kernel)), Or.inl (by decide), Or.inl (by decide), zz_in 26 (by decide +kernel) (by decide +kernel), zz_in 247 (by decide +kernel) (by decide +kernel), ⟨by decide +kernel, by decide +kernel⟩, by decide +kernel⟩
abbrev mX0_degreeOf : MD := (yX0_degreeOf, cX0_degreeOf, 4, (some .int), (1, 22), (0, 0))
theorem okmX0_degreeOf : zz_mok mX0_degreeOf 0 1 := ⟨Or.inr (zz_in 250 (by decide +kernel) (by decide +kernel)), Or.inr (zz_in 251 (by decide +kernel) (by decide +kernel)), Or.inl (by decide), Or.inl (by decide), zz_in 29 (by decide +kernel) (by decide +kernel), zz_in 252 (by decide +kernel) (by decide +kernel), ⟨by decide +kernel, by decide +kernel⟩, by decide +kernel⟩
abbrev mX4_turns : MD := (yX4_turns, cX4_turns, 1, (some .int), (2, 46), (0, 0))
theorem okmX4_turns : zz_mok mX4_turns 0 0 := ⟨Or.inr (zz_in 254 (by decide +kernel) (by decide +kernel)), Or.inr (zz_in 255 (by decide +kernel) (by decide +kernel)), Or.inl (by decide), Or.inl (by decide), zz_in 26 (by decide +kernel) (by decide +kernel), zz_in 256 (by decide +kernel) (by decide +kernel), ⟨by decide +kernel, by decide +kernel⟩, by decide +kernel⟩
abbrev mX0_multipliesEitherWay : MD := (yX0_multipliesEitherWay, cX0_multipliesEitherWay, 4, (some .boolean), (1, 23), (0, 0))
theorem okmX0_multipliesEitherWay : zz_mok mX0_multipliesEitherWay 0 0 := ⟨Or.inr (zz_in 258 (by decide +kernel) (by decide +kernel)), Or.inr (zz_in 259 (by decide +kernel) (by decide +kernel)), Or.inl (by decide), Or.inl (by decide), zz_in 29 (by decide +kernel) (by decide +kernel), zz_in 260 (by decide +kernel) (by decide +kernel), ⟨by decide +kernel, by decide +kernel⟩, by decide +kernel⟩
abbrev mX4_closed : MD := (yX4_closed, cX4_closed, 3, (some .int), (5, 114), (0, 0))
theorem okmX4_closed : zz_mok mX4_closed 0 2 := ⟨Or.inr (zz_in 263 (by decide +kernel) (by decide +kernel)), Or.inr (zz_in 264 (by decide +kernel) (by decide +kernel)), Or.inl (by decide), Or.inl (by decide), zz_in 26 (by decide +kernel) (by decide +kernel), zz_in 265 (by decide +kernel) (by decide +kernel), ⟨by decide +kernel, by decide +kernel⟩, by decide +kernel⟩
abbrev mX4_isSet : MD := (yX4_isSet, cX4_isSet, 2, (some .boolean), (0, 0), (0, 0))
theorem okmX4_isSet : zz_mok mX4_isSet 0 1 := ⟨Or.inr (zz_in 268 (by decide +kernel) (by decide +kernel)), Or.inr (zz_in 3 (by decide +kernel) (by decide +kernel)), Or.inl (by decide), Or.inl (by decide), zz_in 26 (by decide +kernel) (by decide +kernel), zz_in 269 (by decide +kernel) (by decide +kernel), ⟨by decide +kernel, by decide +kernel⟩, by decide +kernel⟩
abbrev mX0_isClosed : MD := (yX0_isClosed, cX0_isClosed, 2, (some .boolean), (3, 71), (0, 0))
theorem okmX0_isClosed : zz_mok mX0_isClosed 0 1 := ⟨Or.inr (zz_in 271 (by decide +kernel) (by decide +kernel)), Or.inr (zz_in 272 (by decide +kernel) (by decide +kernel)), Or.inl (by decide), Or.inl (by decide), zz_in 29 (by decide +kernel) (by decide +kernel), zz_in 273 (by decide +kernel) (by decide +kernel), ⟨by decide +kernel, by decide +kernel⟩, by decide +kernel⟩
abbrev mX0_has : MD := (yX0_has, cX0_has, 2, (some .boolean), (0, 0), (0, 0))
theorem okmX0_has : zz_mok mX0_has 1 2 := ⟨Or.inl rfl, Or.inl (by decide), Or.inr (zz_in 275 (by decide +kernel) (by decide +kernel)), Or.inl (by decide), zz_in 29 (by decide +kernel) (by decide +kernel), zz_in 276 (by decide +kernel) (by decide +kernel), ⟨by decide +kernel, by decide +kernel⟩, by decide +kernel⟩
abbrev mX0_productsOf : MD := (yX0_productsOf, cX0_productsOf, 5, (some .int), (2, 47), (0, 0))
theorem okmX0_productsOf : zz_mok mX0_productsOf 0 1 := ⟨Or.inr (zz_in 278 (by decide +kernel) (by decide +kernel)), Or.inr (zz_in 279 (by decide +kernel) (by decide +kernel)), Or.inl (by decide), Or.inl (by decide), zz_in 29 (by decide +kernel) (by decide +kernel), zz_in 280 (by decide +kernel) (by decide +kernel), ⟨by decide +kernel, by decide +kernel⟩, by decide +kernel⟩
abbrev mX0_productsOfTwo : MD := (yX0_productsOfTwo, cX0_productsOfTwo, 5, (some .int), (1, 23), (0, 0))
theorem okmX0_productsOfTwo : zz_mok mX0_productsOfTwo 0 2 := ⟨Or.inr (zz_in 282 (by decide +kernel) (by decide +kernel)), Or.inr (zz_in 283 (by decide +kernel) (by decide +kernel)), Or.inl (by decide), Or.inl (by decide), zz_in 29 (by decide +kernel) (by decide +kernel), zz_in 284 (by decide +kernel) (by decide +kernel), ⟨by decide +kernel, by decide +kernel⟩, by decide +kernel⟩
abbrev mX0_hullOf : MD := (yX0_hullOf, cX0_hullOf, 4, (some .int), (3, 71), (0, 0))
theorem okmX0_hullOf : zz_mok mX0_hullOf 0 1 := ⟨Or.inr (zz_in 286 (by decide +kernel) (by decide +kernel)), Or.inr (zz_in 287 (by decide +kernel) (by decide +kernel)), Or.inl (by decide), Or.inl (by decide), zz_in 29 (by decide +kernel) (by decide +kernel), zz_in 288 (by decide +kernel) (by decide +kernel), ⟨by decide +kernel, by decide +kernel⟩, by decide +kernel⟩
abbrev mX0_closedSets : MD := (yX0_closedSets, cX0_closedSets, 3, (some .int), (4, 92), (0, 0))
theorem okmX0_closedSets : zz_mok mX0_closedSets 0 0 := ⟨Or.inr (zz_in 290 (by decide +kernel) (by decide +kernel)), Or.inr (zz_in 291 (by decide +kernel) (by decide +kernel)), Or.inl (by decide), Or.inl (by decide), zz_in 29 (by decide +kernel) (by decide +kernel), zz_in 292 (by decide +kernel) (by decide +kernel), ⟨by decide +kernel, by decide +kernel⟩, by decide +kernel⟩
abbrev mX4_order : MD := (yX4_order, cX4_order, 2, (some .int), (4, 94), (0, 0))
theorem okmX4_order : zz_mok mX4_order 0 1 := ⟨Or.inr (zz_in 295 (by decide +kernel) (by decide +kernel)), Or.inr (zz_in 296 (by decide +kernel) (by decide +kernel)), Or.inl (by decide), Or.inl (by decide), zz_in 26 (by decide +kernel) (by decide +kernel), zz_in 297 (by decide +kernel) (by decide +kernel), ⟨by decide +kernel, by decide +kernel⟩, by decide +kernel⟩
abbrev mX0_orderOf : MD := (yX0_orderOf, cX0_orderOf, 4, (some .int), (2, 45), (0, 0))
theorem okmX0_orderOf : zz_mok mX0_orderOf 0 1 := ⟨Or.inr (zz_in 299 (by decide +kernel) (by decide +kernel)), Or.inr (zz_in 300 (by decide +kernel) (by decide +kernel)), Or.inl (by decide), Or.inl (by decide), zz_in 29 (by decide +kernel) (by decide +kernel), zz_in 301 (by decide +kernel) (by decide +kernel), ⟨by decide +kernel, by decide +kernel⟩, by decide +kernel⟩
abbrev mX4_worth : MD := (yX4_worth, cX4_worth, 3, (some .int), (6, 136), (0, 0))
theorem okmX4_worth : zz_mok mX4_worth 0 2 := ⟨Or.inr (zz_in 304 (by decide +kernel) (by decide +kernel)), Or.inr (zz_in 305 (by decide +kernel) (by decide +kernel)), Or.inl (by decide), Or.inl (by decide), zz_in 26 (by decide +kernel) (by decide +kernel), zz_in 306 (by decide +kernel) (by decide +kernel), ⟨by decide +kernel, by decide +kernel⟩, by decide +kernel⟩
abbrev mX4_worthByDegrees : MD := (yX4_worthByDegrees, cX4_worthByDegrees, 2, (some .int), (2, 45), (0, 0))
theorem okmX4_worthByDegrees : zz_mok mX4_worthByDegrees 0 1 := ⟨Or.inr (zz_in 309 (by decide +kernel) (by decide +kernel)), Or.inr (zz_in 4 (by decide +kernel) (by decide +kernel)), Or.inl (by decide), Or.inl (by decide), zz_in 26 (by decide +kernel) (by decide +kernel), zz_in 310 (by decide +kernel) (by decide +kernel), ⟨by decide +kernel, by decide +kernel⟩, by decide +kernel⟩
abbrev mX4_worthByHulls : MD := (yX4_worthByHulls, cX4_worthByHulls, 2, (some .int), (4, 94), (0, 0))
theorem okmX4_worthByHulls : zz_mok mX4_worthByHulls 0 1 := ⟨Or.inr (zz_in 313 (by decide +kernel) (by decide +kernel)), Or.inr (zz_in 5 (by decide +kernel) (by decide +kernel)), Or.inl (by decide), Or.inl (by decide), zz_in 26 (by decide +kernel) (by decide +kernel), zz_in 314 (by decide +kernel) (by decide +kernel), ⟨by decide +kernel, by decide +kernel⟩, by decide +kernel⟩
abbrev mX4_worthByTriples : MD := (yX4_worthByTriples, cX4_worthByTriples, 2, (some .int), (5, 115), (0, 0))
theorem okmX4_worthByTriples : zz_mok mX4_worthByTriples 0 1 := ⟨Or.inr (zz_in 318 (by decide +kernel) (by decide +kernel)), Or.inr (zz_in 6 (by decide +kernel) (by decide +kernel)), Or.inl (by decide), Or.inl (by decide), zz_in 26 (by decide +kernel) (by decide +kernel), zz_in 319 (by decide +kernel) (by decide +kernel), ⟨by decide +kernel, by decide +kernel⟩, by decide +kernel⟩
abbrev mX4_fuse : MD := (yX4_fuse, cX4_fuse, 2, (some .int), (6, 133), (0, 0))
theorem okmX4_fuse : zz_mok mX4_fuse 0 1 := ⟨Or.inr (zz_in 322 (by decide +kernel) (by decide +kernel)), Or.inr (zz_in 323 (by decide +kernel) (by decide +kernel)), Or.inl (by decide), Or.inl (by decide), zz_in 26 (by decide +kernel) (by decide +kernel), zz_in 324 (by decide +kernel) (by decide +kernel), ⟨by decide +kernel, by decide +kernel⟩, by decide +kernel⟩
abbrev mX4_mapsEveryColour : MD := (yX4_mapsEveryColour, cX4_mapsEveryColour, 3, (some .boolean), (1, 23), (0, 0))
theorem okmX4_mapsEveryColour : zz_mok mX4_mapsEveryColour 0 1 := ⟨Or.inr (zz_in 327 (by decide +kernel) (by decide +kernel)), Or.inr (zz_in 7 (by decide +kernel) (by decide +kernel)), Or.inl (by decide), Or.inl (by decide), zz_in 26 (by decide +kernel) (by decide +kernel), zz_in 328 (by decide +kernel) (by decide +kernel), ⟨by decide +kernel, by decide +kernel⟩, by decide +kernel⟩
abbrev mX0_fusedColour : MD := (yX0_fusedColour, cX0_fusedColour, 4, (some .int), (0, 0), (0, 0))
theorem okmX0_fusedColour : zz_mok mX0_fusedColour 1 2 := ⟨Or.inl rfl, Or.inl (by decide), Or.inr (zz_in 330 (by decide +kernel) (by decide +kernel)), Or.inl (by decide), zz_in 29 (by decide +kernel) (by decide +kernel), zz_in 331 (by decide +kernel) (by decide +kernel), ⟨by decide +kernel, by decide +kernel⟩, by decide +kernel⟩
abbrev mX0_paintFused : MD := (yX0_paintFused, cX0_paintFused, 5, none, (5, 109), (0, 0))
theorem okmX0_paintFused : zz_mok mX0_paintFused 0 2 := ⟨Or.inr (zz_in 333 (by decide +kernel) (by decide +kernel)), Or.inr (zz_in 334 (by decide +kernel) (by decide +kernel)), Or.inl (by decide), Or.inl (by decide), zz_in 29 (by decide +kernel) (by decide +kernel), zz_in 335 (by decide +kernel) (by decide +kernel), ⟨by decide +kernel, by decide +kernel⟩, by decide +kernel⟩
abbrev mX4_takeSpare : MD := (yX4_takeSpare, cX4_takeSpare, 2, none, (0, 0), (0, 0))
theorem okmX4_takeSpare : zz_mok mX4_takeSpare 0 0 := ⟨Or.inr (zz_in 339 (by decide +kernel) (by decide +kernel)), Or.inr (zz_in 8 (by decide +kernel) (by decide +kernel)), Or.inl (by decide), Or.inl (by decide), zz_in 26 (by decide +kernel) (by decide +kernel), zz_in 340 (by decide +kernel) (by decide +kernel), ⟨by decide +kernel, by decide +kernel⟩, by decide +kernel⟩
abbrev mX4_quotient : MD := (yX4_quotient, cX4_quotient, 2, (some .int), (6, 134), (0, 0))
theorem okmX4_quotient : zz_mok mX4_quotient 0 1 := ⟨Or.inr (zz_in 342 (by decide +kernel) (by decide +kernel)), Or.inr (zz_in 343 (by decide +kernel) (by decide +kernel)), Or.inl (by decide), Or.inl (by decide), zz_in 26 (by decide +kernel) (by decide +kernel), zz_in 344 (by decide +kernel) (by decide +kernel), ⟨by decide +kernel, by decide +kernel⟩, by decide +kernel⟩
abbrev mX1_divide : MD := (yX1_divide, cX1_divide, 6, none, (5, 109), (0, 0))
theorem okmX1_divide : zz_mok mX1_divide 0 3 := ⟨Or.inr (zz_in 346 (by decide +kernel) (by decide +kernel)), Or.inr (zz_in 347 (by decide +kernel) (by decide +kernel)), Or.inl (by decide), Or.inl (by decide), zz_in 28 (by decide +kernel) (by decide +kernel), zz_in 348 (by decide +kernel) (by decide +kernel), ⟨by decide +kernel, by decide +kernel⟩, by decide +kernel⟩
abbrev mX1_findBlocks : MD := (yX1_findBlocks, cX1_findBlocks, 5, none, (1, 22), (0, 0))
theorem okmX1_findBlocks : zz_mok mX1_findBlocks 0 2 := ⟨Or.inr (zz_in 350 (by decide +kernel) (by decide +kernel)), Or.inr (zz_in 351 (by decide +kernel) (by decide +kernel)), Or.inl (by decide), Or.inl (by decide), zz_in 28 (by decide +kernel) (by decide +kernel), zz_in 352 (by decide +kernel) (by decide +kernel), ⟨by decide +kernel, by decide +kernel⟩, by decide +kernel⟩
abbrev mX1_joinColours : MD := (yX1_joinColours, cX1_joinColours, 5, none, (2, 45), (0, 0))
theorem okmX1_joinColours : zz_mok mX1_joinColours 0 1 := ⟨Or.inr (zz_in 356 (by decide +kernel) (by decide +kernel)), Or.inr (zz_in 357 (by decide +kernel) (by decide +kernel)), Or.inl (by decide), Or.inl (by decide), zz_in 28 (by decide +kernel) (by decide +kernel), zz_in 358 (by decide +kernel) (by decide +kernel), ⟨by decide +kernel, by decide +kernel⟩, by decide +kernel⟩
abbrev mX1_join : MD := (yX1_join, cX1_join, 5, none, (1, 21), (0, 0))
theorem okmX1_join : zz_mok mX1_join 0 2 := ⟨Or.inr (zz_in 360 (by decide +kernel) (by decide +kernel)), Or.inr (zz_in 361 (by decide +kernel) (by decide +kernel)), Or.inl (by decide), Or.inl (by decide), zz_in 28 (by decide +kernel) (by decide +kernel), zz_in 362 (by decide +kernel) (by decide +kernel), ⟨by decide +kernel, by decide +kernel⟩, by decide +kernel⟩
abbrev mJ_min : MD := (yJ_min, cJ_min, 2, (some .int), (0, 0), (0, 0))
theorem okmJ_min : zz_mok mJ_min 1 2 := ⟨Or.inl rfl, Or.inl (by decide), Or.inr (zz_in 364 (by decide +kernel) (by decide +kernel)), Or.inl (by decide), zz_in 30 (by decide +kernel) (by decide +kernel), zz_in 365 (by decide +kernel) (by decide +kernel), ⟨by decide +kernel, by decide +kernel⟩, by decide +kernel⟩
abbrev mX1_kindOf : MD := (yX1_kindOf, cX1_kindOf, 4, (some .int), (0, 0), (0, 0))
theorem okmX1_kindOf : zz_mok mX1_kindOf 0 1 := ⟨Or.inr (zz_in 367 (by decide +kernel) (by decide +kernel)), Or.inr (zz_in 368 (by decide +kernel) (by decide +kernel)), Or.inl (by decide), Or.inl (by decide), zz_in 28 (by decide +kernel) (by decide +kernel), zz_in 369 (by decide +kernel) (by decide +kernel), ⟨by decide +kernel, by decide +kernel⟩, by decide +kernel⟩
abbrev mX4_weight : MD := (yX4_weight, cX4_weight, 4, (some .int), (0, 0), (0, 0))
theorem okmX4_weight : zz_mok mX4_weight 0 2 := ⟨Or.inr (zz_in 373 (by decide +kernel) (by decide +kernel)), Or.inr (zz_in 374 (by decide +kernel) (by decide +kernel)), Or.inl (by decide), Or.inl (by decide), zz_in 26 (by decide +kernel) (by decide +kernel), zz_in 375 (by decide +kernel) (by decide +kernel), ⟨by decide +kernel, by decide +kernel⟩, by decide +kernel⟩
abbrev mX4_chance : MD := (yX4_chance, cX4_chance, 10, (some .long), (4, 109), (0, 0))
theorem okmX4_chance : zz_mok mX4_chance 0 3 := ⟨Or.inr (zz_in 377 (by decide +kernel) (by decide +kernel)), Or.inr (zz_in 378 (by decide +kernel) (by decide +kernel)), Or.inl (by decide), Or.inl (by decide), zz_in 26 (by decide +kernel) (by decide +kernel), zz_in 379 (by decide +kernel) (by decide +kernel), ⟨by decide +kernel, by decide +kernel⟩, by decide +kernel⟩
abbrev mX4_weightBelowRank : MD := (yX4_weightBelowRank, cX4_weightBelowRank, 3, (some .int), (0, 0), (0, 0))
theorem okmX4_weightBelowRank : zz_mok mX4_weightBelowRank 0 0 := ⟨Or.inr (zz_in 383 (by decide +kernel) (by decide +kernel)), Or.inr (zz_in 9 (by decide +kernel) (by decide +kernel)), Or.inl (by decide), Or.inl (by decide), zz_in 26 (by decide +kernel) (by decide +kernel), zz_in 384 (by decide +kernel) (by decide +kernel), ⟨by decide +kernel, by decide +kernel⟩, by decide +kernel⟩
abbrev mX3_go : MD := (yX3_go, cX3_go, 7, none, (3, 83), (0, 0))
theorem okmX3_go : zz_mok mX3_go 0 3 := ⟨Or.inr (zz_in 387 (by decide +kernel) (by decide +kernel)), Or.inr (zz_in 388 (by decide +kernel) (by decide +kernel)), Or.inl (by decide), Or.inl (by decide), zz_in 27 (by decide +kernel) (by decide +kernel), zz_in 389 (by decide +kernel) (by decide +kernel), ⟨by decide +kernel, by decide +kernel⟩, by decide +kernel⟩
abbrev mX3_share : MD := (yX3_share, cX3_share, 9, (some .long), (2, 55), (0, 0))
theorem okmX3_share : zz_mok mX3_share 0 2 := ⟨Or.inr (zz_in 391 (by decide +kernel) (by decide +kernel)), Or.inr (zz_in 392 (by decide +kernel) (by decide +kernel)), Or.inl (by decide), Or.inl (by decide), zz_in 27 (by decide +kernel) (by decide +kernel), zz_in 393 (by decide +kernel) (by decide +kernel), ⟨by decide +kernel, by decide +kernel⟩, by decide +kernel⟩
abbrev mX3_commonMultiple : MD := (yX3_commonMultiple, cX3_commonMultiple, 6, (some .long), (1, 30), (0, 0))
theorem okmX3_commonMultiple : zz_mok mX3_commonMultiple 1 2 := ⟨Or.inl rfl, Or.inl (by decide), Or.inr (zz_in 396 (by decide +kernel) (by decide +kernel)), Or.inl (by decide), zz_in 27 (by decide +kernel) (by decide +kernel), zz_in 397 (by decide +kernel) (by decide +kernel), ⟨by decide +kernel, by decide +kernel⟩, by decide +kernel⟩
abbrev mX3_commonDivisor : MD := (yX3_commonDivisor, cX3_commonDivisor, 11, (some .long), (0, 0), (0, 0))
theorem okmX3_commonDivisor : zz_mok mX3_commonDivisor 1 2 := ⟨Or.inl rfl, Or.inl (by decide), Or.inr (zz_in 399 (by decide +kernel) (by decide +kernel)), Or.inl (by decide), zz_in 27 (by decide +kernel) (by decide +kernel), zz_in 400 (by decide +kernel) (by decide +kernel), ⟨by decide +kernel, by decide +kernel⟩, by decide +kernel⟩
abbrev mX3_step : MD := (yX3_step, cX3_step, 4, none, (1, 22), (0, 0))
theorem okmX3_step : zz_mok mX3_step 0 1 := ⟨Or.inr (zz_in 402 (by decide +kernel) (by decide +kernel)), Or.inr (zz_in 403 (by decide +kernel) (by decide +kernel)), Or.inl (by decide), Or.inl (by decide), zz_in 27 (by decide +kernel) (by decide +kernel), zz_in 404 (by decide +kernel) (by decide +kernel), ⟨by decide +kernel, by decide +kernel⟩, by decide +kernel⟩
abbrev mX3_waysTo : MD := (yX3_waysTo, cX3_waysTo, 6, (some .long), (1, 22), (0, 0))
theorem okmX3_waysTo : zz_mok mX3_waysTo 0 2 := ⟨Or.inr (zz_in 407 (by decide +kernel) (by decide +kernel)), Or.inr (zz_in 408 (by decide +kernel) (by decide +kernel)), Or.inl (by decide), Or.inl (by decide), zz_in 27 (by decide +kernel) (by decide +kernel), zz_in 409 (by decide +kernel) (by decide +kernel), ⟨by decide +kernel, by decide +kernel⟩, by decide +kernel⟩
abbrev mX4_sieve : MD := (yX4_sieve, cX4_sieve, 5, (some .int), (2, 53), (0, 0))
theorem okmX4_sieve : zz_mok mX4_sieve 0 4 := ⟨Or.inr (zz_in 412 (by decide +kernel) (by decide +kernel)), Or.inr (zz_in 413 (by decide +kernel) (by decide +kernel)), Or.inl (by decide), Or.inl (by decide), zz_in 26 (by decide +kernel) (by decide +kernel), zz_in 414 (by decide +kernel) (by decide +kernel), ⟨by decide +kernel, by decide +kernel⟩, by decide +kernel⟩
abbrev mX2_firstFailure : MD := (yX2_firstFailure, cX2_firstFailure, 12, (some .int), (1, 22), (0, 0))
theorem okmX2_firstFailure : zz_mok mX2_firstFailure 1 4 := ⟨Or.inl rfl, Or.inl (by decide), Or.inr (zz_in 416 (by decide +kernel) (by decide +kernel)), Or.inl (by decide), zz_in 32 (by decide +kernel) (by decide +kernel), zz_in 417 (by decide +kernel) (by decide +kernel), ⟨by decide +kernel, by decide +kernel⟩, by decide +kernel⟩
abbrev mX2_wholeRoot : MD := (yX2_wholeRoot, cX2_wholeRoot, 2, (some .int), (0, 0), (0, 0))
theorem okmX2_wholeRoot : zz_mok mX2_wholeRoot 1 1 := ⟨Or.inl rfl, Or.inl (by decide), Or.inr (zz_in 419 (by decide +kernel) (by decide +kernel)), Or.inl (by decide), zz_in 32 (by decide +kernel) (by decide +kernel), zz_in 420 (by decide +kernel) (by decide +kernel), ⟨by decide +kernel, by decide +kernel⟩, by decide +kernel⟩
abbrev mX2_breaksBound : MD := (yX2_breaksBound, cX2_breaksBound, 3, (some .boolean), (0, 0), (0, 0))
theorem okmX2_breaksBound : zz_mok mX2_breaksBound 1 3 := ⟨Or.inl rfl, Or.inl (by decide), Or.inr (zz_in 422 (by decide +kernel) (by decide +kernel)), Or.inl (by decide), zz_in 32 (by decide +kernel) (by decide +kernel), zz_in 423 (by decide +kernel) (by decide +kernel), ⟨by decide +kernel, by decide +kernel⟩, by decide +kernel⟩
abbrev mX4_many : MD := (yX4_many, cX4_many, 6, (some .int), (2, 53), (0, 0))
theorem okmX4_many : zz_mok mX4_many 0 1 := ⟨Or.inr (zz_in 425 (by decide +kernel) (by decide +kernel)), Or.inr (zz_in 426 (by decide +kernel) (by decide +kernel)), Or.inl (by decide), Or.inl (by decide), zz_in 26 (by decide +kernel) (by decide +kernel), zz_in 427 (by decide +kernel) (by decide +kernel), ⟨by decide +kernel, by decide +kernel⟩, by decide +kernel⟩
abbrev mX4_count : MD := (yX4_count, cX4_count, 2, (some .int), (1, 22), (0, 0))
theorem okmX4_count : zz_mok mX4_count 0 1 := ⟨Or.inr (zz_in 429 (by decide +kernel) (by decide +kernel)), Or.inr (zz_in 430 (by decide +kernel) (by decide +kernel)), Or.inl (by decide), Or.inl (by decide), zz_in 26 (by decide +kernel) (by decide +kernel), zz_in 431 (by decide +kernel) (by decide +kernel), ⟨by decide +kernel, by decide +kernel⟩, by decide +kernel⟩
abbrev mX4_trace : MD := (yX4_trace, cX4_trace, 1, (some .long), (0, 0), (0, 0))
theorem okmX4_trace : zz_mok mX4_trace 0 0 := ⟨Or.inr (zz_in 433 (by decide +kernel) (by decide +kernel)), Or.inr (zz_in 434 (by decide +kernel) (by decide +kernel)), Or.inl (by decide), Or.inl (by decide), zz_in 26 (by decide +kernel) (by decide +kernel), zz_in 435 (by decide +kernel) (by decide +kernel), ⟨by decide +kernel, by decide +kernel⟩, by decide +kernel⟩
abbrev mX5_init : MD := (yX5_init, cX5_init, 2, none, (1, 12), (9, 172))
theorem okmX5_init : zz_mok mX5_init 2 0 := ⟨Or.inr (zz_in 439 (by decide +kernel) (by decide +kernel)), Or.inl (by decide), Or.inl (by decide), Or.inr ⟨rfl, rfl⟩, zz_in 31 (by decide +kernel) (by decide +kernel), zz_in 440 (by decide +kernel) (by decide +kernel), ⟨by decide +kernel, by decide +kernel⟩, by decide +kernel⟩
abbrev mX5_points : MD := (yX5_points, cX5_points, 5, (some .int), (1, 22), (0, 0))
theorem okmX5_points : zz_mok mX5_points 0 1 := ⟨Or.inr (zz_in 480 (by decide +kernel) (by decide +kernel)), Or.inr (zz_in 481 (by decide +kernel) (by decide +kernel)), Or.inl (by decide), Or.inl (by decide), zz_in 31 (by decide +kernel) (by decide +kernel), zz_in 482 (by decide +kernel) (by decide +kernel), ⟨by decide +kernel, by decide +kernel⟩, by decide +kernel⟩
abbrev mX5_in : MD := (yX5_in, cX5_in, 3, (some .boolean), (0, 0), (0, 0))
theorem okmX5_in : zz_mok mX5_in 1 3 := ⟨Or.inl rfl, Or.inl (by decide), Or.inr (zz_in 484 (by decide +kernel) (by decide +kernel)), Or.inl (by decide), zz_in 31 (by decide +kernel) (by decide +kernel), zz_in 485 (by decide +kernel) (by decide +kernel), ⟨by decide +kernel, by decide +kernel⟩, by decide +kernel⟩
abbrev mX5_colour : MD := (yX5_colour, cX5_colour, 5, (some .int), (2, 43), (0, 0))
theorem okmX5_colour : zz_mok mX5_colour 0 3 := ⟨Or.inr (zz_in 487 (by decide +kernel) (by decide +kernel)), Or.inr (zz_in 488 (by decide +kernel) (by decide +kernel)), Or.inl (by decide), Or.inl (by decide), zz_in 31 (by decide +kernel) (by decide +kernel), zz_in 489 (by decide +kernel) (by decide +kernel), ⟨by decide +kernel, by decide +kernel⟩, by decide +kernel⟩
abbrev mX5_isPoint : MD := (yX5_isPoint, cX5_isPoint, 2, (some .boolean), (1, 22), (0, 0))
theorem okmX5_isPoint : zz_mok mX5_isPoint 0 1 := ⟨Or.inr (zz_in 492 (by decide +kernel) (by decide +kernel)), Or.inr (zz_in 10 (by decide +kernel) (by decide +kernel)), Or.inl (by decide), Or.inl (by decide), zz_in 31 (by decide +kernel) (by decide +kernel), zz_in 493 (by decide +kernel) (by decide +kernel), ⟨by decide +kernel, by decide +kernel⟩, by decide +kernel⟩
abbrev mX5_hue : MD := (yX5_hue, cX5_hue, 3, (some .int), (0, 0), (0, 0))
theorem okmX5_hue : zz_mok mX5_hue 0 2 := ⟨Or.inr (zz_in 496 (by decide +kernel) (by decide +kernel)), Or.inr (zz_in 11 (by decide +kernel) (by decide +kernel)), Or.inl (by decide), Or.inl (by decide), zz_in 31 (by decide +kernel) (by decide +kernel), zz_in 497 (by decide +kernel) (by decide +kernel), ⟨by decide +kernel, by decide +kernel⟩, by decide +kernel⟩
abbrev mX5_at : MD := (yX5_at, cX5_at, 3, (some .int), (2, 43), (0, 0))
theorem okmX5_at : zz_mok mX5_at 0 2 := ⟨Or.inr (zz_in 499 (by decide +kernel) (by decide +kernel)), Or.inr (zz_in 500 (by decide +kernel) (by decide +kernel)), Or.inl (by decide), Or.inl (by decide), zz_in 31 (by decide +kernel) (by decide +kernel), zz_in 501 (by decide +kernel) (by decide +kernel), ⟨by decide +kernel, by decide +kernel⟩, by decide +kernel⟩
abbrev mX5_ring : MD := (yX5_ring, cX5_ring, 6, (some .int), (4, 95), (0, 0))
theorem okmX5_ring : zz_mok mX5_ring 0 1 := ⟨Or.inr (zz_in 503 (by decide +kernel) (by decide +kernel)), Or.inr (zz_in 504 (by decide +kernel) (by decide +kernel)), Or.inl (by decide), Or.inl (by decide), zz_in 31 (by decide +kernel) (by decide +kernel), zz_in 505 (by decide +kernel) (by decide +kernel), ⟨by decide +kernel, by decide +kernel⟩, by decide +kernel⟩
abbrev mX5_failsBy : MD := (yX5_failsBy, cX5_failsBy, 7, (some .int), (3, 69), (0, 0))
theorem okmX5_failsBy : zz_mok mX5_failsBy 0 0 := ⟨Or.inr (zz_in 508 (by decide +kernel) (by decide +kernel)), Or.inr (zz_in 12 (by decide +kernel) (by decide +kernel)), Or.inl (by decide), Or.inl (by decide), zz_in 31 (by decide +kernel) (by decide +kernel), zz_in 509 (by decide +kernel) (by decide +kernel), ⟨by decide +kernel, by decide +kernel⟩, by decide +kernel⟩
abbrev mX5_firsts : MD := (yX5_firsts, cX5_firsts, 5, (some .boolean), (2, 45), (0, 0))
theorem okmX5_firsts : zz_mok mX5_firsts 0 0 := ⟨Or.inr (zz_in 512 (by decide +kernel) (by decide +kernel)), Or.inr (zz_in 13 (by decide +kernel) (by decide +kernel)), Or.inl (by decide), Or.inl (by decide), zz_in 31 (by decide +kernel) (by decide +kernel), zz_in 513 (by decide +kernel) (by decide +kernel), ⟨by decide +kernel, by decide +kernel⟩, by decide +kernel⟩
abbrev mX5_rank : MD := (yX5_rank, cX5_rank, 4, (some .int), (1, 22), (0, 0))
theorem okmX5_rank : zz_mok mX5_rank 0 0 := ⟨Or.inr (zz_in 516 (by decide +kernel) (by decide +kernel)), Or.inr (zz_in 14 (by decide +kernel) (by decide +kernel)), Or.inl (by decide), Or.inl (by decide), zz_in 31 (by decide +kernel) (by decide +kernel), zz_in 517 (by decide +kernel) (by decide +kernel), ⟨by decide +kernel, by decide +kernel⟩, by decide +kernel⟩
abbrev mX5_between : MD := (yX5_between, cX5_between, 7, (some .int), (1, 22), (0, 0))
theorem okmX5_between : zz_mok mX5_between 0 4 := ⟨Or.inr (zz_in 520 (by decide +kernel) (by decide +kernel)), Or.inr (zz_in 15 (by decide +kernel) (by decide +kernel)), Or.inl (by decide), Or.inl (by decide), zz_in 31 (by decide +kernel) (by decide +kernel), zz_in 521 (by decide +kernel) (by decide +kernel), ⟨by decide +kernel, by decide +kernel⟩, by decide +kernel⟩
abbrev mX5_fails : MD := (yX5_fails, cX5_fails, 1, (some .int), (4, 95), (0, 0))
theorem okmX5_fails : zz_mok mX5_fails 0 0 := ⟨Or.inr (zz_in 523 (by decide +kernel) (by decide +kernel)), Or.inr (zz_in 524 (by decide +kernel) (by decide +kernel)), Or.inl (by decide), Or.inl (by decide), zz_in 31 (by decide +kernel) (by decide +kernel), zz_in 525 (by decide +kernel) (by decide +kernel), ⟨by decide +kernel, by decide +kernel⟩, by decide +kernel⟩
abbrev mX5_number : MD := (yX5_number, cX5_number, 4, (some .int), (5, 115), (0, 0))
theorem okmX5_number : zz_mok mX5_number 0 3 := ⟨Or.inr (zz_in 527 (by decide +kernel) (by decide +kernel)), Or.inr (zz_in 528 (by decide +kernel) (by decide +kernel)), Or.inl (by decide), Or.inl (by decide), zz_in 31 (by decide +kernel) (by decide +kernel), zz_in 529 (by decide +kernel) (by decide +kernel), ⟨by decide +kernel, by decide +kernel⟩, by decide +kernel⟩
abbrev mX5_isColour : MD := (yX5_isColour, cX5_isColour, 2, (some .boolean), (2, 45), (0, 0))
theorem okmX5_isColour : zz_mok mX5_isColour 0 1 := ⟨Or.inr (zz_in 532 (by decide +kernel) (by decide +kernel)), Or.inr (zz_in 16 (by decide +kernel) (by decide +kernel)), Or.inl (by decide), Or.inl (by decide), zz_in 31 (by decide +kernel) (by decide +kernel), zz_in 533 (by decide +kernel) (by decide +kernel), ⟨by decide +kernel, by decide +kernel⟩, by decide +kernel⟩
abbrev mX5_isEven : MD := (yX5_isEven, cX5_isEven, 1, (some .boolean), (4, 95), (0, 0))
theorem okmX5_isEven : zz_mok mX5_isEven 0 0 := ⟨Or.inr (zz_in 536 (by decide +kernel) (by decide +kernel)), Or.inr (zz_in 17 (by decide +kernel) (by decide +kernel)), Or.inl (by decide), Or.inl (by decide), zz_in 31 (by decide +kernel) (by decide +kernel), zz_in 537 (by decide +kernel) (by decide +kernel), ⟨by decide +kernel, by decide +kernel⟩, by decide +kernel⟩
abbrev mX5_numberOf : MD := (yX5_numberOf, cX5_numberOf, 4, (some .int), (2, 48), (0, 0))
theorem okmX5_numberOf : zz_mok mX5_numberOf 0 3 := ⟨Or.inr (zz_in 540 (by decide +kernel) (by decide +kernel)), Or.inr (zz_in 18 (by decide +kernel) (by decide +kernel)), Or.inl (by decide), Or.inl (by decide), zz_in 31 (by decide +kernel) (by decide +kernel), zz_in 541 (by decide +kernel) (by decide +kernel), ⟨by decide +kernel, by decide +kernel⟩, by decide +kernel⟩
abbrev mX5_of : MD := (yX5_of, cX5_of, 3, (some .int), (5, 115), (0, 0))
theorem okmX5_of : zz_mok mX5_of 0 2 := ⟨Or.inr (zz_in 543 (by decide +kernel) (by decide +kernel)), Or.inr (zz_in 544 (by decide +kernel) (by decide +kernel)), Or.inl (by decide), Or.inl (by decide), zz_in 31 (by decide +kernel) (by decide +kernel), zz_in 545 (by decide +kernel) (by decide +kernel), ⟨by decide +kernel, by decide +kernel⟩, by decide +kernel⟩
abbrev mX5_degree : MD := (yX5_degree, cX5_degree, 4, (some .int), (1, 22), (0, 0))
theorem okmX5_degree : zz_mok mX5_degree 0 1 := ⟨Or.inr (zz_in 548 (by decide +kernel) (by decide +kernel)), Or.inr (zz_in 19 (by decide +kernel) (by decide +kernel)), Or.inl (by decide), Or.inl (by decide), zz_in 31 (by decide +kernel) (by decide +kernel), zz_in 549 (by decide +kernel) (by decide +kernel), ⟨by decide +kernel, by decide +kernel⟩, by decide +kernel⟩
abbrev mX5_turns : MD := (yX5_turns, cX5_turns, 6, (some .int), (5, 115), (0, 0))
theorem okmX5_turns : zz_mok mX5_turns 0 0 := ⟨Or.inr (zz_in 551 (by decide +kernel) (by decide +kernel)), Or.inr (zz_in 552 (by decide +kernel) (by decide +kernel)), Or.inl (by decide), Or.inl (by decide), zz_in 31 (by decide +kernel) (by decide +kernel), zz_in 553 (by decide +kernel) (by decide +kernel), ⟨by decide +kernel, by decide +kernel⟩, by decide +kernel⟩
abbrev mX5_closed : MD := (yX5_closed, cX5_closed, 5, (some .int), (5, 120), (0, 0))
theorem okmX5_closed : zz_mok mX5_closed 0 2 := ⟨Or.inr (zz_in 555 (by decide +kernel) (by decide +kernel)), Or.inr (zz_in 556 (by decide +kernel) (by decide +kernel)), Or.inl (by decide), Or.inl (by decide), zz_in 31 (by decide +kernel) (by decide +kernel), zz_in 557 (by decide +kernel) (by decide +kernel), ⟨by decide +kernel, by decide +kernel⟩, by decide +kernel⟩
abbrev mX5_isSet : MD := (yX5_isSet, cX5_isSet, 2, (some .boolean), (2, 45), (0, 0))
theorem okmX5_isSet : zz_mok mX5_isSet 0 1 := ⟨Or.inr (zz_in 560 (by decide +kernel) (by decide +kernel)), Or.inr (zz_in 20 (by decide +kernel) (by decide +kernel)), Or.inl (by decide), Or.inl (by decide), zz_in 31 (by decide +kernel) (by decide +kernel), zz_in 561 (by decide +kernel) (by decide +kernel), ⟨by decide +kernel, by decide +kernel⟩, by decide +kernel⟩
abbrev mX5_hull : MD := (yX5_hull, cX5_hull, 3, (some .int), (4, 98), (0, 0))
theorem okmX5_hull : zz_mok mX5_hull 0 1 := ⟨Or.inr (zz_in 564 (by decide +kernel) (by decide +kernel)), Or.inr (zz_in 21 (by decide +kernel) (by decide +kernel)), Or.inl (by decide), Or.inl (by decide), zz_in 31 (by decide +kernel) (by decide +kernel), zz_in 565 (by decide +kernel) (by decide +kernel), ⟨by decide +kernel, by decide +kernel⟩, by decide +kernel⟩
abbrev mX5_grown : MD := (yX5_grown, cX5_grown, 8, (some .int), (3, 71), (0, 0))
theorem okmX5_grown : zz_mok mX5_grown 0 1 := ⟨Or.inr (zz_in 568 (by decide +kernel) (by decide +kernel)), Or.inr (zz_in 22 (by decide +kernel) (by decide +kernel)), Or.inl (by decide), Or.inl (by decide), zz_in 31 (by decide +kernel) (by decide +kernel), zz_in 569 (by decide +kernel) (by decide +kernel), ⟨by decide +kernel, by decide +kernel⟩, by decide +kernel⟩
abbrev mX5_order : MD := (yX5_order, cX5_order, 2, (some .int), (5, 120), (0, 0))
theorem okmX5_order : zz_mok mX5_order 0 1 := ⟨Or.inr (zz_in 571 (by decide +kernel) (by decide +kernel)), Or.inr (zz_in 572 (by decide +kernel) (by decide +kernel)), Or.inl (by decide), Or.inl (by decide), zz_in 31 (by decide +kernel) (by decide +kernel), zz_in 573 (by decide +kernel) (by decide +kernel), ⟨by decide +kernel, by decide +kernel⟩, by decide +kernel⟩
abbrev mX5_orderOf : MD := (yX5_orderOf, cX5_orderOf, 4, (some .int), (2, 45), (0, 0))
theorem okmX5_orderOf : zz_mok mX5_orderOf 0 1 := ⟨Or.inr (zz_in 576 (by decide +kernel) (by decide +kernel)), Or.inr (zz_in 23 (by decide +kernel) (by decide +kernel)), Or.inl (by decide), Or.inl (by decide), zz_in 31 (by decide +kernel) (by decide +kernel), zz_in 577 (by decide +kernel) (by decide +kernel), ⟨by decide +kernel, by decide +kernel⟩, by decide +kernel⟩
abbrev mX5_worth : MD := (yX5_worth, cX5_worth, 4, (some .int), (5, 120), (0, 0))
theorem okmX5_worth : zz_mok mX5_worth 0 2 := ⟨Or.inr (zz_in 579 (by decide +kernel) (by decide +kernel)), Or.inr (zz_in 580 (by decide +kernel) (by decide +kernel)), Or.inl (by decide), Or.inl (by decide), zz_in 31 (by decide +kernel) (by decide +kernel), zz_in 581 (by decide +kernel) (by decide +kernel), ⟨by decide +kernel, by decide +kernel⟩, by decide +kernel⟩
abbrev mX5_fuse : MD := (yX5_fuse, cX5_fuse, 7, (some .int), (5, 115), (0, 0))
theorem okmX5_fuse : zz_mok mX5_fuse 0 1 := ⟨Or.inr (zz_in 585 (by decide +kernel) (by decide +kernel)), Or.inr (zz_in 586 (by decide +kernel) (by decide +kernel)), Or.inl (by decide), Or.inl (by decide), zz_in 31 (by decide +kernel) (by decide +kernel), zz_in 587 (by decide +kernel) (by decide +kernel), ⟨by decide +kernel, by decide +kernel⟩, by decide +kernel⟩
abbrev mX5_quotient : MD := (yX5_quotient, cX5_quotient, 11, (some .int), (5, 120), (0, 0))
theorem okmX5_quotient : zz_mok mX5_quotient 0 1 := ⟨Or.inr (zz_in 589 (by decide +kernel) (by decide +kernel)), Or.inr (zz_in 590 (by decide +kernel) (by decide +kernel)), Or.inl (by decide), Or.inl (by decide), zz_in 31 (by decide +kernel) (by decide +kernel), zz_in 591 (by decide +kernel) (by decide +kernel), ⟨by decide +kernel, by decide +kernel⟩, by decide +kernel⟩
abbrev mX5_weight : MD := (yX5_weight, cX5_weight, 4, (some .int), (1, 22), (0, 0))
theorem okmX5_weight : zz_mok mX5_weight 0 2 := ⟨Or.inr (zz_in 593 (by decide +kernel) (by decide +kernel)), Or.inr (zz_in 594 (by decide +kernel) (by decide +kernel)), Or.inl (by decide), Or.inl (by decide), zz_in 31 (by decide +kernel) (by decide +kernel), zz_in 595 (by decide +kernel) (by decide +kernel), ⟨by decide +kernel, by decide +kernel⟩, by decide +kernel⟩
abbrev mX5_chance : MD := (yX5_chance, cX5_chance, 12, (some .long), (5, 115), (0, 0))
theorem okmX5_chance : zz_mok mX5_chance 0 3 := ⟨Or.inr (zz_in 597 (by decide +kernel) (by decide +kernel)), Or.inr (zz_in 598 (by decide +kernel) (by decide +kernel)), Or.inl (by decide), Or.inl (by decide), zz_in 31 (by decide +kernel) (by decide +kernel), zz_in 599 (by decide +kernel) (by decide +kernel), ⟨by decide +kernel, by decide +kernel⟩, by decide +kernel⟩
abbrev mX5_weights : MD := (yX5_weights, cX5_weights, 3, (some .int), (2, 45), (0, 0))
theorem okmX5_weights : zz_mok mX5_weights 0 0 := ⟨Or.inr (zz_in 603 (by decide +kernel) (by decide +kernel)), Or.inr (zz_in 24 (by decide +kernel) (by decide +kernel)), Or.inl (by decide), Or.inl (by decide), zz_in 31 (by decide +kernel) (by decide +kernel), zz_in 604 (by decide +kernel) (by decide +kernel), ⟨by decide +kernel, by decide +kernel⟩, by decide +kernel⟩
abbrev mX5_common : MD := (yX5_common, cX5_common, 10, (some .long), (0, 0), (0, 0))
theorem okmX5_common : zz_mok mX5_common 1 2 := ⟨Or.inl rfl, Or.inl (by decide), Or.inr (zz_in 607 (by decide +kernel) (by decide +kernel)), Or.inl (by decide), zz_in 31 (by decide +kernel) (by decide +kernel), zz_in 608 (by decide +kernel) (by decide +kernel), ⟨by decide +kernel, by decide +kernel⟩, by decide +kernel⟩
abbrev mX5_sieve : MD := (yX5_sieve, cX5_sieve, 5, (some .int), (2, 53), (0, 0))
theorem okmX5_sieve : zz_mok mX5_sieve 0 4 := ⟨Or.inr (zz_in 610 (by decide +kernel) (by decide +kernel)), Or.inr (zz_in 611 (by decide +kernel) (by decide +kernel)), Or.inl (by decide), Or.inl (by decide), zz_in 31 (by decide +kernel) (by decide +kernel), zz_in 612 (by decide +kernel) (by decide +kernel), ⟨by decide +kernel, by decide +kernel⟩, by decide +kernel⟩
abbrev mX5_sieved : MD := (yX5_sieved, cX5_sieved, 13, (some .int), (1, 21), (0, 0))
theorem okmX5_sieved : zz_mok mX5_sieved 1 4 := ⟨Or.inl rfl, Or.inl (by decide), Or.inr (zz_in 614 (by decide +kernel) (by decide +kernel)), Or.inl (by decide), zz_in 31 (by decide +kernel) (by decide +kernel), zz_in 615 (by decide +kernel) (by decide +kernel), ⟨by decide +kernel, by decide +kernel⟩, by decide +kernel⟩
abbrev mX5_root : MD := (yX5_root, cX5_root, 2, (some .int), (0, 0), (0, 0))
theorem okmX5_root : zz_mok mX5_root 1 1 := ⟨Or.inl rfl, Or.inl (by decide), Or.inr (zz_in 617 (by decide +kernel) (by decide +kernel)), Or.inl (by decide), zz_in 31 (by decide +kernel) (by decide +kernel), zz_in 618 (by decide +kernel) (by decide +kernel), ⟨by decide +kernel, by decide +kernel⟩, by decide +kernel⟩
abbrev mX5_many : MD := (yX5_many, cX5_many, 6, (some .int), (2, 53), (0, 0))
theorem okmX5_many : zz_mok mX5_many 0 1 := ⟨Or.inr (zz_in 621 (by decide +kernel) (by decide +kernel)), Or.inr (zz_in 622 (by decide +kernel) (by decide +kernel)), Or.inl (by decide), Or.inl (by decide), zz_in 31 (by decide +kernel) (by decide +kernel), zz_in 623 (by decide +kernel) (by decide +kernel), ⟨by decide +kernel, by decide +kernel⟩, by decide +kernel⟩
abbrev mX5_count : MD := (yX5_count, cX5_count, 2, (some .int), (5, 115), (0, 0))
theorem okmX5_count : zz_mok mX5_count 0 1 := ⟨Or.inr (zz_in 625 (by decide +kernel) (by decide +kernel)), Or.inr (zz_in 626 (by decide +kernel) (by decide +kernel)), Or.inl (by decide), Or.inl (by decide), zz_in 31 (by decide +kernel) (by decide +kernel), zz_in 627 (by decide +kernel) (by decide +kernel), ⟨by decide +kernel, by decide +kernel⟩, by decide +kernel⟩
abbrev mX5_trace : MD := (yX5_trace, cX5_trace, 1, (some .long), (0, 0), (0, 0))
theorem okmX5_trace : zz_mok mX5_trace 0 0 := ⟨Or.inr (zz_in 629 (by decide +kernel) (by decide +kernel)), Or.inr (zz_in 630 (by decide +kernel) (by decide +kernel)), Or.inl (by decide), Or.inl (by decide), zz_in 31 (by decide +kernel) (by decide +kernel), zz_in 631 (by decide +kernel) (by decide +kernel), ⟨by decide +kernel, by decide +kernel⟩, by decide +kernel⟩
theorem nwL_7 : zz_nw RL 7 3 6 [vN, vN, vN, vN, vN, vJ 0] := ⟨RX4, TX4, tyX4, rfl, uiX4, tyX4_ok, zz_in 33 (by decide +kernel) (by decide +kernel), zz_in 34 (by decide +kernel) (by decide +kernel), zz_in 26 (by decide +kernel) (by decide +kernel), fun j hj => by
  rcases (show j = 0 ∨ j = 1 ∨ j = 2 ∨ j = 3 ∨ j = 4 ∨ j = 5 by omega) with rfl | rfl | rfl | rfl | rfl | rfl <;> rfl, fun _ => rfl⟩
theorem lkL_9 : Cond.methodLink RL 9 yX4_init ∈ zz_tbl := zz_in 35 (by decide +kernel) (by decide +kernel)
theorem lkX4_1 : Cond.methodLink RX4 1 objectInit ∈ zz_tbl := zz_in 38 (by decide +kernel) (by decide +kernel)
theorem nwX4_13 : zz_nw RX4 13 2 4 [vN, vN, vN, vJ 0] := ⟨RX3, TX3, tyX3, rfl, uiX3, tyX3_ok, zz_in 41 (by decide +kernel) (by decide +kernel), zz_in 42 (by decide +kernel) (by decide +kernel), zz_in 27 (by decide +kernel) (by decide +kernel), fun j hj => by
  rcases (show j = 0 ∨ j = 1 ∨ j = 2 ∨ j = 3 by omega) with rfl | rfl | rfl | rfl <;> rfl, fun _ => rfl⟩
theorem lkX4_15 : Cond.methodLink RX4 15 yX3_init ∈ zz_tbl := zz_in 43 (by decide +kernel) (by decide +kernel)
theorem lkX3_3 : Cond.methodLink RX3 3 objectInit ∈ zz_tbl := zz_in 46 (by decide +kernel) (by decide +kernel)
theorem fdX3_9 : zz_fl RX3 9 2 0 true (.array .long) := ⟨RX3, TX3, 4, tyX3, rfl, uiX3, tyX3_ok, nmX3, by decide, zz_in 47 (by decide +kernel) (by decide +kernel), rfl, rfl, rfl, by decide⟩
theorem fdX3_15 : zz_fl RX3 15 2 1 true (.array .long) := ⟨RX3, TX3, 4, tyX3, rfl, uiX3, tyX3_ok, nmX3, by decide, zz_in 48 (by decide +kernel) (by decide +kernel), rfl, rfl, rfl, by decide⟩
theorem fdX3_18 : zz_fl RX3 18 2 2 true (.array .long) := ⟨RX3, TX3, 4, tyX3, rfl, uiX3, tyX3_ok, nmX3, by decide, zz_in 49 (by decide +kernel) (by decide +kernel), rfl, rfl, rfl, by decide⟩
theorem fdX3_21 : zz_fl RX3 21 2 3 false .long := ⟨RX3, TX3, 4, tyX3, rfl, uiX3, tyX3_ok, nmX3, by decide, zz_in 50 (by decide +kernel) (by decide +kernel), rfl, rfl, rfl, by decide⟩
theorem fdX4_145 : zz_fl RX4 145 2 3 false .long := ⟨RX3, TX3, 4, tyX3, rfl, uiX3, tyX3_ok, nmX3, by decide, zz_in 51 (by decide +kernel) (by decide +kernel), rfl, rfl, rfl, by decide⟩
theorem nwX4_20 : zz_nw RX4 20 1 4 [vN, vN, vN, vI 0] := ⟨RX1, TX1, tyX1, rfl, uiX1, tyX1_ok, zz_in 63 (by decide +kernel) (by decide +kernel), zz_in 64 (by decide +kernel) (by decide +kernel), zz_in 28 (by decide +kernel) (by decide +kernel), fun j hj => by
  rcases (show j = 0 ∨ j = 1 ∨ j = 2 ∨ j = 3 by omega) with rfl | rfl | rfl | rfl <;> rfl, fun _ => rfl⟩
theorem lkX4_22 : Cond.methodLink RX4 22 yX1_init ∈ zz_tbl := zz_in 65 (by decide +kernel) (by decide +kernel)
theorem lkX1_3 : Cond.methodLink RX1 3 objectInit ∈ zz_tbl := zz_in 68 (by decide +kernel) (by decide +kernel)
theorem fdX1_9 : zz_fl RX1 9 1 0 true (.array .int) := ⟨RX1, TX1, 4, tyX1, rfl, uiX1, tyX1_ok, nmX1, by decide, zz_in 69 (by decide +kernel) (by decide +kernel), rfl, rfl, rfl, by decide⟩
theorem fdX1_15 : zz_fl RX1 15 1 1 true (.array .int) := ⟨RX1, TX1, 4, tyX1, rfl, uiX1, tyX1_ok, nmX1, by decide, zz_in 70 (by decide +kernel) (by decide +kernel), rfl, rfl, rfl, by decide⟩
theorem fdX1_18 : zz_fl RX1 18 1 2 true (.array .int) := ⟨RX1, TX1, 4, tyX1, rfl, uiX1, tyX1_ok, nmX1, by decide, zz_in 71 (by decide +kernel) (by decide +kernel), rfl, rfl, rfl, by decide⟩
theorem fdX1_21 : zz_fl RX1 21 1 3 false .int := ⟨RX1, TX1, 4, tyX1, rfl, uiX1, tyX1_ok, nmX1, by decide, zz_in 72 (by decide +kernel) (by decide +kernel), rfl, rfl, rfl, by decide⟩
theorem nwX4_27 : zz_nw RX4 27 0 7 [vN, vN, vN, vN, vI 0, vI 0, vI 0] := ⟨RX0, TX0, tyX0, rfl, uiX0, tyX0_ok, zz_in 82 (by decide +kernel) (by decide +kernel), zz_in 83 (by decide +kernel) (by decide +kernel), zz_in 29 (by decide +kernel) (by decide +kernel), fun j hj => by
  rcases (show j = 0 ∨ j = 1 ∨ j = 2 ∨ j = 3 ∨ j = 4 ∨ j = 5 ∨ j = 6 by omega) with rfl | rfl | rfl | rfl | rfl | rfl | rfl <;> rfl, fun _ => rfl⟩
theorem lkX4_29 : Cond.methodLink RX4 29 yX0_init ∈ zz_tbl := zz_in 84 (by decide +kernel) (by decide +kernel)
theorem lkX0_3 : Cond.methodLink RX0 3 objectInit ∈ zz_tbl := zz_in 87 (by decide +kernel) (by decide +kernel)
theorem fdX0_9 : zz_fl RX0 9 0 0 true (.array .int) := ⟨RX0, TX0, 7, tyX0, rfl, uiX0, tyX0_ok, nmX0, by decide, zz_in 88 (by decide +kernel) (by decide +kernel), rfl, rfl, rfl, by decide⟩
theorem fdX0_15 : zz_fl RX0 15 0 1 true (.array .int) := ⟨RX0, TX0, 7, tyX0, rfl, uiX0, tyX0_ok, nmX0, by decide, zz_in 89 (by decide +kernel) (by decide +kernel), rfl, rfl, rfl, by decide⟩
theorem fdX0_18 : zz_fl RX0 18 0 2 true (.array .int) := ⟨RX0, TX0, 7, tyX0, rfl, uiX0, tyX0_ok, nmX0, by decide, zz_in 90 (by decide +kernel) (by decide +kernel), rfl, rfl, rfl, by decide⟩
theorem fdX0_21 : zz_fl RX0 21 0 3 true (.array .int) := ⟨RX0, TX0, 7, tyX0, rfl, uiX0, tyX0_ok, nmX0, by decide, zz_in 91 (by decide +kernel) (by decide +kernel), rfl, rfl, rfl, by decide⟩
theorem fdX0_24 : zz_fl RX0 24 0 4 false .int := ⟨RX0, TX0, 7, tyX0, rfl, uiX0, tyX0_ok, nmX0, by decide, zz_in 92 (by decide +kernel) (by decide +kernel), rfl, rfl, rfl, by decide⟩
theorem fdX1_33 : zz_fl RX1 33 0 4 false .int := ⟨RX0, TX0, 7, tyX0, rfl, uiX0, tyX0_ok, nmX0, by decide, zz_in 93 (by decide +kernel) (by decide +kernel), rfl, rfl, rfl, by decide⟩
theorem fdX4_45 : zz_fl RX4 45 0 4 false .int := ⟨RX0, TX0, 7, tyX0, rfl, uiX0, tyX0_ok, nmX0, by decide, zz_in 94 (by decide +kernel) (by decide +kernel), rfl, rfl, rfl, by decide⟩
theorem fdX3_47 : zz_fl RX3 47 0 4 false .int := ⟨RX0, TX0, 7, tyX0, rfl, uiX0, tyX0_ok, nmX0, by decide, zz_in 95 (by decide +kernel) (by decide +kernel), rfl, rfl, rfl, by decide⟩
theorem fdX0_28 : zz_fl RX0 28 0 5 false .int := ⟨RX0, TX0, 7, tyX0, rfl, uiX0, tyX0_ok, nmX0, by decide, zz_in 96 (by decide +kernel) (by decide +kernel), rfl, rfl, rfl, by decide⟩
theorem fdX3_33 : zz_fl RX3 33 0 5 false .int := ⟨RX0, TX0, 7, tyX0, rfl, uiX0, tyX0_ok, nmX0, by decide, zz_in 97 (by decide +kernel) (by decide +kernel), rfl, rfl, rfl, by decide⟩
theorem fdX4_158 : zz_fl RX4 158 0 5 false .int := ⟨RX0, TX0, 7, tyX0, rfl, uiX0, tyX0_ok, nmX0, by decide, zz_in 98 (by decide +kernel) (by decide +kernel), rfl, rfl, rfl, by decide⟩
theorem fdX0_31 : zz_fl RX0 31 0 6 false .int := ⟨RX0, TX0, 7, tyX0, rfl, uiX0, tyX0_ok, nmX0, by decide, zz_in 99 (by decide +kernel) (by decide +kernel), rfl, rfl, rfl, by decide⟩
theorem fdX4_71 : zz_fl RX4 71 0 6 false .int := ⟨RX0, TX0, 7, tyX0, rfl, uiX0, tyX0_ok, nmX0, by decide, zz_in 100 (by decide +kernel) (by decide +kernel), rfl, rfl, rfl, by decide⟩
theorem lkX4_37 : Cond.methodLink RX4 37 yX0_begin ∈ zz_tbl := zz_in 116 (by decide +kernel) (by decide +kernel)
theorem lkX0_34 : Cond.methodLink RX0 34 yX0_paint ∈ zz_tbl := zz_in 120 (by decide +kernel) (by decide +kernel)
theorem lkX0_38 : Cond.methodLink RX0 38 yX0_measure ∈ zz_tbl := zz_in 124 (by decide +kernel) (by decide +kernel)
theorem lkX0_48 : Cond.methodLink RX0 48 yX0_findFirsts ∈ zz_tbl := zz_in 128 (by decide +kernel) (by decide +kernel)
theorem lkX0_41 : Cond.methodLink RX0 41 yX0_colourOf ∈ zz_tbl := zz_in 132 (by decide +kernel) (by decide +kernel)
theorem lkX0_55 : Cond.methodLink RX0 55 yJ_max ∈ zz_tbl := zz_in 136 (by decide +kernel) (by decide +kernel)
theorem lkX0_51 : Cond.methodLink RX0 51 yX0_firstFailure ∈ zz_tbl := zz_in 139 (by decide +kernel) (by decide +kernel)
theorem lkX0_60 : Cond.methodLink RX0 60 yX0_misplacedZero ∈ zz_tbl := zz_in 143 (by decide +kernel) (by decide +kernel)
theorem lkX0_72 : Cond.methodLink RX0 72 yX0_failureAt ∈ zz_tbl := zz_in 147 (by decide +kernel) (by decide +kernel)
theorem lkX0_63 : Cond.methodLink RX0 63 yX0_missingColour ∈ zz_tbl := zz_in 150 (by decide +kernel) (by decide +kernel)
theorem lkX0_66 : Cond.methodLink RX0 66 yX0_wrongReversal ∈ zz_tbl := zz_in 154 (by decide +kernel) (by decide +kernel)
theorem lkX0_76 : Cond.methodLink RX0 76 yX0_reverseOf ∈ zz_tbl := zz_in 158 (by decide +kernel) (by decide +kernel)
theorem lkX0_69 : Cond.methodLink RX0 69 yX0_wrongCounts ∈ zz_tbl := zz_in 162 (by decide +kernel) (by decide +kernel)
theorem lkX0_80 : Cond.methodLink RX0 80 yX0_countBetween ∈ zz_tbl := zz_in 166 (by decide +kernel) (by decide +kernel)
theorem lkX0_84 : Cond.methodLink RX0 84 yX0_keepCounts ∈ zz_tbl := zz_in 170 (by decide +kernel) (by decide +kernel)
theorem lkX0_88 : Cond.methodLink RX0 88 yX0_countsAreKept ∈ zz_tbl := zz_in 174 (by decide +kernel) (by decide +kernel)
theorem fdX4_9 : zz_fl RX4 9 3 0 true (.array .int) := ⟨RX4, TX4, 6, tyX4, rfl, uiX4, tyX4_ok, nmX4, by decide, zz_in 178 (by decide +kernel) (by decide +kernel), rfl, rfl, rfl, by decide⟩
theorem fdX4_16 : zz_fl RX4 16 3 1 true (.object "ShareTables$Walk") := ⟨RX4, TX4, 6, tyX4, rfl, uiX4, tyX4_ok, nmX4, by decide, zz_in 179 (by decide +kernel) (by decide +kernel), rfl, rfl, rfl, by decide⟩
theorem fdX4_23 : zz_fl RX4 23 3 2 true (.object "ShareTables$Division") := ⟨RX4, TX4, 6, tyX4, rfl, uiX4, tyX4_ok, nmX4, by decide, zz_in 180 (by decide +kernel) (by decide +kernel), rfl, rfl, rfl, by decide⟩
theorem fdX4_30 : zz_fl RX4 30 3 3 false (.object "ShareTables$Colouring") := ⟨RX4, TX4, 6, tyX4, rfl, uiX4, tyX4_ok, nmX4, by decide, zz_in 181 (by decide +kernel) (by decide +kernel), rfl, rfl, rfl, by decide⟩
theorem fdX4_34 : zz_fl RX4 34 3 4 false (.object "ShareTables$Colouring") := ⟨RX4, TX4, 6, tyX4, rfl, uiX4, tyX4_ok, nmX4, by decide, zz_in 182 (by decide +kernel) (by decide +kernel), rfl, rfl, rfl, by decide⟩
theorem fdX4_41 : zz_fl RX4 41 3 5 false .long := ⟨RX4, TX4, 6, tyX4, rfl, uiX4, tyX4_ok, nmX4, by decide, zz_in 183 (by decide +kernel) (by decide +kernel), rfl, rfl, rfl, by decide⟩
theorem lkL_13 : Cond.methodLink RL 13 yX4_points ∈ zz_tbl := zz_in 197 (by decide +kernel) (by decide +kernel)
theorem lkL_18 : Cond.methodLink RL 18 yX4_colour ∈ zz_tbl := zz_in 201 (by decide +kernel) (by decide +kernel)
theorem lkX4_49 : Cond.methodLink RX4 49 yX4_isPoint ∈ zz_tbl := zz_in 205 (by decide +kernel) (by decide +kernel)
theorem lkX4_53 : Cond.methodLink RX4 53 yX0_colourOf ∈ zz_tbl := zz_in 209 (by decide +kernel) (by decide +kernel)
theorem lkX4_57 : Cond.methodLink RX4 57 yX0_paint ∈ zz_tbl := zz_in 210 (by decide +kernel) (by decide +kernel)
theorem lkX4_61 : Cond.methodLink RX4 61 yX0_measure ∈ zz_tbl := zz_in 211 (by decide +kernel) (by decide +kernel)
theorem lkL_23 : Cond.methodLink RL 23 yX4_at ∈ zz_tbl := zz_in 212 (by decide +kernel) (by decide +kernel)
theorem lkL_28 : Cond.methodLink RL 28 yX4_ring ∈ zz_tbl := zz_in 216 (by decide +kernel) (by decide +kernel)
theorem lkX4_64 : Cond.methodLink RX4 64 yX0_paintRing ∈ zz_tbl := zz_in 220 (by decide +kernel) (by decide +kernel)
theorem lkX4_67 : Cond.methodLink RX4 67 yX4_isEven ∈ zz_tbl := zz_in 224 (by decide +kernel) (by decide +kernel)
theorem lkL_32 : Cond.methodLink RL 32 yX4_fails ∈ zz_tbl := zz_in 228 (by decide +kernel) (by decide +kernel)
theorem lkL_37 : Cond.methodLink RL 37 yX4_number ∈ zz_tbl := zz_in 232 (by decide +kernel) (by decide +kernel)
theorem lkX4_74 : Cond.methodLink RX4 74 yX4_isColour ∈ zz_tbl := zz_in 236 (by decide +kernel) (by decide +kernel)
theorem lkX4_77 : Cond.methodLink RX4 77 yX0_numberOf ∈ zz_tbl := zz_in 240 (by decide +kernel) (by decide +kernel)
theorem lkL_41 : Cond.methodLink RL 41 yX4_of ∈ zz_tbl := zz_in 244 (by decide +kernel) (by decide +kernel)
theorem lkX4_81 : Cond.methodLink RX4 81 yX0_reverseOf ∈ zz_tbl := zz_in 248 (by decide +kernel) (by decide +kernel)
theorem lkX4_85 : Cond.methodLink RX4 85 yX0_degreeOf ∈ zz_tbl := zz_in 249 (by decide +kernel) (by decide +kernel)
theorem lkL_45 : Cond.methodLink RL 45 yX4_turns ∈ zz_tbl := zz_in 253 (by decide +kernel) (by decide +kernel)
theorem lkX4_88 : Cond.methodLink RX4 88 yX0_multipliesEitherWay ∈ zz_tbl := zz_in 257 (by decide +kernel) (by decide +kernel)
theorem lkX0_92 : Cond.methodLink RX0 92 yX0_numberOf ∈ zz_tbl := zz_in 261 (by decide +kernel) (by decide +kernel)
theorem lkL_49 : Cond.methodLink RL 49 yX4_closed ∈ zz_tbl := zz_in 262 (by decide +kernel) (by decide +kernel)
theorem lkX4_91 : Cond.methodLink RX4 91 yX4_isSet ∈ zz_tbl := zz_in 266 (by decide +kernel) (by decide +kernel)
theorem lkX4_94 : Cond.methodLink RX4 94 yX0_isClosed ∈ zz_tbl := zz_in 270 (by decide +kernel) (by decide +kernel)
theorem lkX0_95 : Cond.methodLink RX0 95 yX0_has ∈ zz_tbl := zz_in 274 (by decide +kernel) (by decide +kernel)
theorem lkX0_99 : Cond.methodLink RX0 99 yX0_productsOf ∈ zz_tbl := zz_in 277 (by decide +kernel) (by decide +kernel)
theorem lkX0_102 : Cond.methodLink RX0 102 yX0_productsOfTwo ∈ zz_tbl := zz_in 281 (by decide +kernel) (by decide +kernel)
theorem lkX4_97 : Cond.methodLink RX4 97 yX0_hullOf ∈ zz_tbl := zz_in 285 (by decide +kernel) (by decide +kernel)
theorem lkX4_100 : Cond.methodLink RX4 100 yX0_closedSets ∈ zz_tbl := zz_in 289 (by decide +kernel) (by decide +kernel)
theorem lkX0_105 : Cond.methodLink RX0 105 yX0_isClosed ∈ zz_tbl := zz_in 293 (by decide +kernel) (by decide +kernel)
theorem lkL_53 : Cond.methodLink RL 53 yX4_order ∈ zz_tbl := zz_in 294 (by decide +kernel) (by decide +kernel)
theorem lkX4_104 : Cond.methodLink RX4 104 yX0_orderOf ∈ zz_tbl := zz_in 298 (by decide +kernel) (by decide +kernel)
theorem lkX0_108 : Cond.methodLink RX0 108 yX0_degreeOf ∈ zz_tbl := zz_in 302 (by decide +kernel) (by decide +kernel)
theorem lkL_57 : Cond.methodLink RL 57 yX4_worth ∈ zz_tbl := zz_in 303 (by decide +kernel) (by decide +kernel)
theorem lkX4_107 : Cond.methodLink RX4 107 yX4_worthByDegrees ∈ zz_tbl := zz_in 307 (by decide +kernel) (by decide +kernel)
theorem lkX4_110 : Cond.methodLink RX4 110 yX4_worthByHulls ∈ zz_tbl := zz_in 311 (by decide +kernel) (by decide +kernel)
theorem klX4_164 : Cond.constantLong RX4 164 (10 : Int64) ∈ zz_tbl := zz_in 315 (by decide +kernel) (by decide +kernel)
theorem lkX4_113 : Cond.methodLink RX4 113 yX4_worthByTriples ∈ zz_tbl := zz_in 316 (by decide +kernel) (by decide +kernel)
theorem klX4_166 : Cond.constantLong RX4 166 (100 : Int64) ∈ zz_tbl := zz_in 320 (by decide +kernel) (by decide +kernel)
theorem lkL_61 : Cond.methodLink RL 61 yX4_fuse ∈ zz_tbl := zz_in 321 (by decide +kernel) (by decide +kernel)
theorem lkX4_116 : Cond.methodLink RX4 116 yX4_mapsEveryColour ∈ zz_tbl := zz_in 325 (by decide +kernel) (by decide +kernel)
theorem lkX4_161 : Cond.methodLink RX4 161 yX0_fusedColour ∈ zz_tbl := zz_in 329 (by decide +kernel) (by decide +kernel)
theorem lkX4_119 : Cond.methodLink RX4 119 yX0_paintFused ∈ zz_tbl := zz_in 332 (by decide +kernel) (by decide +kernel)
theorem lkX0_45 : Cond.methodLink RX0 45 yX0_fusedColour ∈ zz_tbl := zz_in 336 (by decide +kernel) (by decide +kernel)
theorem lkX4_123 : Cond.methodLink RX4 123 yX4_takeSpare ∈ zz_tbl := zz_in 337 (by decide +kernel) (by decide +kernel)
theorem lkL_65 : Cond.methodLink RL 65 yX4_quotient ∈ zz_tbl := zz_in 341 (by decide +kernel) (by decide +kernel)
theorem lkX4_126 : Cond.methodLink RX4 126 yX1_divide ∈ zz_tbl := zz_in 345 (by decide +kernel) (by decide +kernel)
theorem lkX1_25 : Cond.methodLink RX1 25 yX1_findBlocks ∈ zz_tbl := zz_in 349 (by decide +kernel) (by decide +kernel)
theorem lkX1_36 : Cond.methodLink RX1 36 yX0_colourOf ∈ zz_tbl := zz_in 353 (by decide +kernel) (by decide +kernel)
theorem lkX1_51 : Cond.methodLink RX1 51 yX0_has ∈ zz_tbl := zz_in 354 (by decide +kernel) (by decide +kernel)
theorem lkX1_29 : Cond.methodLink RX1 29 yX1_joinColours ∈ zz_tbl := zz_in 355 (by decide +kernel) (by decide +kernel)
theorem lkX1_55 : Cond.methodLink RX1 55 yX1_join ∈ zz_tbl := zz_in 359 (by decide +kernel) (by decide +kernel)
theorem lkX1_59 : Cond.methodLink RX1 59 yJ_min ∈ zz_tbl := zz_in 363 (by decide +kernel) (by decide +kernel)
theorem lkX1_40 : Cond.methodLink RX1 40 yX1_kindOf ∈ zz_tbl := zz_in 366 (by decide +kernel) (by decide +kernel)
theorem lkX1_44 : Cond.methodLink RX1 44 yX0_paint ∈ zz_tbl := zz_in 370 (by decide +kernel) (by decide +kernel)
theorem lkX1_48 : Cond.methodLink RX1 48 yX0_measure ∈ zz_tbl := zz_in 371 (by decide +kernel) (by decide +kernel)
theorem lkL_69 : Cond.methodLink RL 69 yX4_weight ∈ zz_tbl := zz_in 372 (by decide +kernel) (by decide +kernel)
theorem lkL_73 : Cond.methodLink RL 73 yX4_chance ∈ zz_tbl := zz_in 376 (by decide +kernel) (by decide +kernel)
theorem klX4_130 : Cond.constantLong RX4 130 (-1 : Int64) ∈ zz_tbl := zz_in 380 (by decide +kernel) (by decide +kernel)
theorem lkX4_132 : Cond.methodLink RX4 132 yX4_weightBelowRank ∈ zz_tbl := zz_in 381 (by decide +kernel) (by decide +kernel)
theorem klX4_135 : Cond.constantLong RX4 135 (-2 : Int64) ∈ zz_tbl := zz_in 385 (by decide +kernel) (by decide +kernel)
theorem lkX4_137 : Cond.methodLink RX4 137 yX3_go ∈ zz_tbl := zz_in 386 (by decide +kernel) (by decide +kernel)
theorem lkX3_25 : Cond.methodLink RX3 25 yX3_share ∈ zz_tbl := zz_in 390 (by decide +kernel) (by decide +kernel)
theorem lkX3_39 : Cond.methodLink RX3 39 yX0_degreeOf ∈ zz_tbl := zz_in 394 (by decide +kernel) (by decide +kernel)
theorem lkX3_43 : Cond.methodLink RX3 43 yX3_commonMultiple ∈ zz_tbl := zz_in 395 (by decide +kernel) (by decide +kernel)
theorem lkX3_54 : Cond.methodLink RX3 54 yX3_commonDivisor ∈ zz_tbl := zz_in 398 (by decide +kernel) (by decide +kernel)
theorem lkX3_29 : Cond.methodLink RX3 29 yX3_step ∈ zz_tbl := zz_in 401 (by decide +kernel) (by decide +kernel)
theorem lkX3_50 : Cond.methodLink RX3 50 yX0_colourOf ∈ zz_tbl := zz_in 405 (by decide +kernel) (by decide +kernel)
theorem lkX4_141 : Cond.methodLink RX4 141 yX3_waysTo ∈ zz_tbl := zz_in 406 (by decide +kernel) (by decide +kernel)
theorem lkX4_148 : Cond.methodLink RX4 148 yX3_commonDivisor ∈ zz_tbl := zz_in 410 (by decide +kernel) (by decide +kernel)
theorem lkL_78 : Cond.methodLink RL 78 yX4_sieve ∈ zz_tbl := zz_in 411 (by decide +kernel) (by decide +kernel)
theorem lkX4_152 : Cond.methodLink RX4 152 yX2_firstFailure ∈ zz_tbl := zz_in 415 (by decide +kernel) (by decide +kernel)
theorem lkX2_9 : Cond.methodLink RX2 9 yX2_wholeRoot ∈ zz_tbl := zz_in 418 (by decide +kernel) (by decide +kernel)
theorem lkX2_15 : Cond.methodLink RX2 15 yX2_breaksBound ∈ zz_tbl := zz_in 421 (by decide +kernel) (by decide +kernel)
theorem lkL_83 : Cond.methodLink RL 83 yX4_many ∈ zz_tbl := zz_in 424 (by decide +kernel) (by decide +kernel)
theorem lkL_87 : Cond.methodLink RL 87 yX4_count ∈ zz_tbl := zz_in 428 (by decide +kernel) (by decide +kernel)
theorem lkL_91 : Cond.methodLink RL 91 yX4_trace ∈ zz_tbl := zz_in 432 (by decide +kernel) (by decide +kernel)
theorem nwL_10 : zz_nw RL 10 4 12 [vI 0, vJ 0, vI 0, vN, vN, vN, vN, vN, vN, vN, vN, vN] := ⟨RX5, TX5, tyX5, rfl, uiX5, tyX5_ok, zz_in 436 (by decide +kernel) (by decide +kernel), zz_in 437 (by decide +kernel) (by decide +kernel), zz_in 31 (by decide +kernel) (by decide +kernel), fun j hj => by
  rcases (show j = 0 ∨ j = 1 ∨ j = 2 ∨ j = 3 ∨ j = 4 ∨ j = 5 ∨ j = 6 ∨ j = 7 ∨ j = 8 ∨ j = 9 ∨ j = 10 ∨ j = 11 by omega) with rfl | rfl | rfl | rfl | rfl | rfl | rfl | rfl | rfl | rfl | rfl | rfl <;> rfl, fun _ => rfl⟩
theorem lkL_12 : Cond.methodLink RL 12 yX5_init ∈ zz_tbl := zz_in 438 (by decide +kernel) (by decide +kernel)
theorem lkX5_1 : Cond.methodLink RX5 1 objectInit ∈ zz_tbl := zz_in 441 (by decide +kernel) (by decide +kernel)
theorem fdX5_42 : zz_fl RX5 42 4 0 false .int := ⟨RX5, TX5, 12, tyX5, rfl, uiX5, tyX5_ok, nmX5, by decide, zz_in 442 (by decide +kernel) (by decide +kernel), rfl, rfl, rfl, by decide⟩
theorem fdX5_98 : zz_fl RX5 98 4 1 false .long := ⟨RX5, TX5, 12, tyX5, rfl, uiX5, tyX5_ok, nmX5, by decide, zz_in 443 (by decide +kernel) (by decide +kernel), rfl, rfl, rfl, by decide⟩
theorem fdX5_7 : zz_fl RX5 7 4 2 false .int := ⟨RX5, TX5, 12, tyX5, rfl, uiX5, tyX5_ok, nmX5, by decide, zz_in 444 (by decide +kernel) (by decide +kernel), rfl, rfl, rfl, by decide⟩
theorem fdX5_13 : zz_fl RX5 13 4 3 true (.array .int) := ⟨RX5, TX5, 12, tyX5, rfl, uiX5, tyX5_ok, nmX5, by decide, zz_in 445 (by decide +kernel) (by decide +kernel), rfl, rfl, rfl, by decide⟩
theorem fdX5_17 : zz_fl RX5 17 4 4 true (.array .int) := ⟨RX5, TX5, 12, tyX5, rfl, uiX5, tyX5_ok, nmX5, by decide, zz_in 446 (by decide +kernel) (by decide +kernel), rfl, rfl, rfl, by decide⟩
theorem fdX5_20 : zz_fl RX5 20 4 5 true (.array .int) := ⟨RX5, TX5, 12, tyX5, rfl, uiX5, tyX5_ok, nmX5, by decide, zz_in 447 (by decide +kernel) (by decide +kernel), rfl, rfl, rfl, by decide⟩
theorem fdX5_23 : zz_fl RX5 23 4 6 true (.array .int) := ⟨RX5, TX5, 12, tyX5, rfl, uiX5, tyX5_ok, nmX5, by decide, zz_in 448 (by decide +kernel) (by decide +kernel), rfl, rfl, rfl, by decide⟩
theorem fdX5_26 : zz_fl RX5 26 4 7 true (.array .int) := ⟨RX5, TX5, 12, tyX5, rfl, uiX5, tyX5_ok, nmX5, by decide, zz_in 449 (by decide +kernel) (by decide +kernel), rfl, rfl, rfl, by decide⟩
theorem fdX5_29 : zz_fl RX5 29 4 8 true (.array .int) := ⟨RX5, TX5, 12, tyX5, rfl, uiX5, tyX5_ok, nmX5, by decide, zz_in 450 (by decide +kernel) (by decide +kernel), rfl, rfl, rfl, by decide⟩
theorem fdX5_32 : zz_fl RX5 32 4 9 true (.array .int) := ⟨RX5, TX5, 12, tyX5, rfl, uiX5, tyX5_ok, nmX5, by decide, zz_in 451 (by decide +kernel) (by decide +kernel), rfl, rfl, rfl, by decide⟩
theorem fdX5_35 : zz_fl RX5 35 4 10 true (.array .long) := ⟨RX5, TX5, 12, tyX5, rfl, uiX5, tyX5_ok, nmX5, by decide, zz_in 452 (by decide +kernel) (by decide +kernel), rfl, rfl, rfl, by decide⟩
theorem fdX5_39 : zz_fl RX5 39 4 11 true (.array .long) := ⟨RX5, TX5, 12, tyX5, rfl, uiX5, tyX5_ok, nmX5, by decide, zz_in 453 (by decide +kernel) (by decide +kernel), rfl, rfl, rfl, by decide⟩
theorem lkL_17 : Cond.methodLink RL 17 yX5_points ∈ zz_tbl := zz_in 479 (by decide +kernel) (by decide +kernel)
theorem lkX5_45 : Cond.methodLink RX5 45 yX5_in ∈ zz_tbl := zz_in 483 (by decide +kernel) (by decide +kernel)
theorem lkL_22 : Cond.methodLink RL 22 yX5_colour ∈ zz_tbl := zz_in 486 (by decide +kernel) (by decide +kernel)
theorem lkX5_49 : Cond.methodLink RX5 49 yX5_isPoint ∈ zz_tbl := zz_in 490 (by decide +kernel) (by decide +kernel)
theorem lkX5_53 : Cond.methodLink RX5 53 yX5_hue ∈ zz_tbl := zz_in 494 (by decide +kernel) (by decide +kernel)
theorem lkL_27 : Cond.methodLink RL 27 yX5_at ∈ zz_tbl := zz_in 498 (by decide +kernel) (by decide +kernel)
theorem lkL_31 : Cond.methodLink RL 31 yX5_ring ∈ zz_tbl := zz_in 502 (by decide +kernel) (by decide +kernel)
theorem lkX5_57 : Cond.methodLink RX5 57 yX5_failsBy ∈ zz_tbl := zz_in 506 (by decide +kernel) (by decide +kernel)
theorem lkX5_64 : Cond.methodLink RX5 64 yX5_firsts ∈ zz_tbl := zz_in 510 (by decide +kernel) (by decide +kernel)
theorem lkX5_61 : Cond.methodLink RX5 61 yX5_rank ∈ zz_tbl := zz_in 514 (by decide +kernel) (by decide +kernel)
theorem lkX5_68 : Cond.methodLink RX5 68 yX5_between ∈ zz_tbl := zz_in 518 (by decide +kernel) (by decide +kernel)
theorem lkL_36 : Cond.methodLink RL 36 yX5_fails ∈ zz_tbl := zz_in 522 (by decide +kernel) (by decide +kernel)
theorem lkL_40 : Cond.methodLink RL 40 yX5_number ∈ zz_tbl := zz_in 526 (by decide +kernel) (by decide +kernel)
theorem lkX5_72 : Cond.methodLink RX5 72 yX5_isColour ∈ zz_tbl := zz_in 530 (by decide +kernel) (by decide +kernel)
theorem lkX5_75 : Cond.methodLink RX5 75 yX5_isEven ∈ zz_tbl := zz_in 534 (by decide +kernel) (by decide +kernel)
theorem lkX5_78 : Cond.methodLink RX5 78 yX5_numberOf ∈ zz_tbl := zz_in 538 (by decide +kernel) (by decide +kernel)
theorem lkL_44 : Cond.methodLink RL 44 yX5_of ∈ zz_tbl := zz_in 542 (by decide +kernel) (by decide +kernel)
theorem lkX5_82 : Cond.methodLink RX5 82 yX5_degree ∈ zz_tbl := zz_in 546 (by decide +kernel) (by decide +kernel)
theorem lkL_48 : Cond.methodLink RL 48 yX5_turns ∈ zz_tbl := zz_in 550 (by decide +kernel) (by decide +kernel)
theorem lkL_52 : Cond.methodLink RL 52 yX5_closed ∈ zz_tbl := zz_in 554 (by decide +kernel) (by decide +kernel)
theorem lkX5_89 : Cond.methodLink RX5 89 yX5_isSet ∈ zz_tbl := zz_in 558 (by decide +kernel) (by decide +kernel)
theorem lkX5_92 : Cond.methodLink RX5 92 yX5_hull ∈ zz_tbl := zz_in 562 (by decide +kernel) (by decide +kernel)
theorem lkX5_86 : Cond.methodLink RX5 86 yX5_grown ∈ zz_tbl := zz_in 566 (by decide +kernel) (by decide +kernel)
theorem lkL_56 : Cond.methodLink RL 56 yX5_order ∈ zz_tbl := zz_in 570 (by decide +kernel) (by decide +kernel)
theorem lkX5_95 : Cond.methodLink RX5 95 yX5_orderOf ∈ zz_tbl := zz_in 574 (by decide +kernel) (by decide +kernel)
theorem lkL_60 : Cond.methodLink RL 60 yX5_worth ∈ zz_tbl := zz_in 578 (by decide +kernel) (by decide +kernel)
theorem klX5_102 : Cond.constantLong RX5 102 (11 : Int64) ∈ zz_tbl := zz_in 582 (by decide +kernel) (by decide +kernel)
theorem klX5_104 : Cond.constantLong RX5 104 (111 : Int64) ∈ zz_tbl := zz_in 583 (by decide +kernel) (by decide +kernel)
theorem lkL_64 : Cond.methodLink RL 64 yX5_fuse ∈ zz_tbl := zz_in 584 (by decide +kernel) (by decide +kernel)
theorem lkL_68 : Cond.methodLink RL 68 yX5_quotient ∈ zz_tbl := zz_in 588 (by decide +kernel) (by decide +kernel)
theorem lkL_72 : Cond.methodLink RL 72 yX5_weight ∈ zz_tbl := zz_in 592 (by decide +kernel) (by decide +kernel)
theorem lkL_77 : Cond.methodLink RL 77 yX5_chance ∈ zz_tbl := zz_in 596 (by decide +kernel) (by decide +kernel)
theorem klX5_106 : Cond.constantLong RX5 106 (-1 : Int64) ∈ zz_tbl := zz_in 600 (by decide +kernel) (by decide +kernel)
theorem lkX5_108 : Cond.methodLink RX5 108 yX5_weights ∈ zz_tbl := zz_in 601 (by decide +kernel) (by decide +kernel)
theorem klX5_111 : Cond.constantLong RX5 111 (-2 : Int64) ∈ zz_tbl := zz_in 605 (by decide +kernel) (by decide +kernel)
theorem lkX5_113 : Cond.methodLink RX5 113 yX5_common ∈ zz_tbl := zz_in 606 (by decide +kernel) (by decide +kernel)
theorem lkL_82 : Cond.methodLink RL 82 yX5_sieve ∈ zz_tbl := zz_in 609 (by decide +kernel) (by decide +kernel)
theorem lkX5_122 : Cond.methodLink RX5 122 yX5_sieved ∈ zz_tbl := zz_in 613 (by decide +kernel) (by decide +kernel)
theorem lkX5_117 : Cond.methodLink RX5 117 yX5_root ∈ zz_tbl := zz_in 616 (by decide +kernel) (by decide +kernel)
theorem klX5_120 : Cond.constantLong RX5 120 (2 : Int64) ∈ zz_tbl := zz_in 619 (by decide +kernel) (by decide +kernel)
theorem lkL_86 : Cond.methodLink RL 86 yX5_many ∈ zz_tbl := zz_in 620 (by decide +kernel) (by decide +kernel)
theorem lkL_90 : Cond.methodLink RL 90 yX5_count ∈ zz_tbl := zz_in 624 (by decide +kernel) (by decide +kernel)
theorem lkL_95 : Cond.methodLink RL 95 yX5_trace ∈ zz_tbl := zz_in 628 (by decide +kernel) (by decide +kernel)
theorem lk_oi : Cond.instanceMethod objectInit ∈ zz_tbl := zz_in 39 (by decide +kernel) (by decide +kernel)
theorem lk_oc : Cond.code objectInit ⟨#[0xb1]⟩ 1 none ∈ zz_tbl := zz_in 40 (by decide +kernel) (by decide +kernel)
end
section
/-! division of what is not negative -/
theorem aw_idivN {X : CT} {cc : ByteArray} {own mn : String} {nL : Nat} (C : zz_C X cc own mn nL) {pc : Nat} {L : List (Option AV)} {st : List AV} {h : AH} (n : Nat) {x y : Int} (hd : decode cc pc = .ok (.idiv, 1)) (hn : pc + 1 = n) (hr : 0 ≤ x ∧ x < 2147483648 ∧ 0 < y ∧ y < 2147483648) (k : AW X n L (vI (x / y) :: st) h) : AW X pc L (vI y :: vI x :: st) h := by
  rw [← Int.tdiv_eq_ediv_of_nonneg hr.1] at k
  exact aw_idiv C n hd hn ⟨⟨by omega, by omega⟩, ⟨by omega, by omega⟩, by omega⟩ k
theorem aw_iremN {X : CT} {cc : ByteArray} {own mn : String} {nL : Nat} (C : zz_C X cc own mn nL) {pc : Nat} {L : List (Option AV)} {st : List AV} {h : AH} (n : Nat) {x y : Int} (hd : decode cc pc = .ok (.irem, 1)) (hn : pc + 1 = n) (hr : 0 ≤ x ∧ x < 2147483648 ∧ 0 < y ∧ y < 2147483648) (k : AW X n L (vI (x % y) :: st) h) : AW X pc L (vI y :: vI x :: st) h := by
  rw [← Int.tmod_eq_emod_of_nonneg hr.1] at k
  exact aw_irem C n hd hn ⟨⟨by omega, by omega⟩, ⟨by omega, by omega⟩, by omega⟩ k
theorem aw_ldivN {X : CT} {cc : ByteArray} {own mn : String} {nL : Nat} (C : zz_C X cc own mn nL) {pc : Nat} {L : List (Option AV)} {st : List AV} {h : AH} (n : Nat) {x y : Int} (hd : decode cc pc = .ok (.ldiv, 1)) (hn : pc + 1 = n) (hr : 0 ≤ x ∧ x < 9223372036854775808 ∧ 0 < y ∧ y < 9223372036854775808) (k : AW X n L (vJ (x / y) :: st) h) : AW X pc L (vJ y :: vJ x :: st) h := by
  rw [← Int.tdiv_eq_ediv_of_nonneg hr.1] at k
  exact aw_ldiv C n hd hn ⟨⟨by omega, by omega⟩, ⟨by omega, by omega⟩, by omega⟩ k
theorem aw_lremN {X : CT} {cc : ByteArray} {own mn : String} {nL : Nat} (C : zz_C X cc own mn nL) {pc : Nat} {L : List (Option AV)} {st : List AV} {h : AH} (n : Nat) {x y : Int} (hd : decode cc pc = .ok (.lrem, 1)) (hn : pc + 1 = n) (hr : 0 ≤ x ∧ x < 9223372036854775808 ∧ 0 < y ∧ y < 9223372036854775808) (k : AW X n L (vJ (x % y) :: st) h) : AW X pc L (vJ y :: vJ x :: st) h := by
  rw [← Int.tmod_eq_emod_of_nonneg hr.1] at k
  exact aw_lrem C n hd hn ⟨⟨by omega, by omega⟩, ⟨by omega, by omega⟩, by omega⟩ k
theorem zz_rm0 {X : CT} {h h0 : AH} (hNS : zz_NS X = h0.1) (hh : h.1 = h0.1) : zz_rm X h 0 0 := by
  constructor
  · rw [hNS, hh]; omega
  · rw [hNS, hh]; omega
theorem lkJ_max : Cond.static yJ_max ∈ zz_tbl ∧ Cond.initialized "java/lang/Math" ∈ zz_tbl ∧ Cond.code yJ_max cJ_max 2 (some .int) ∈ zz_tbl := ⟨(okmJ_max.2.2.1).resolve_left (by decide), okmJ_max.2.2.2.2.1, okmJ_max.2.2.2.2.2.1⟩
theorem aw_mmax {X : CT} {cc : ByteArray} {own mn : String} {nL : Nat} (C : zz_C X cc own mn nL) {pc : Nat} {L : List (Option AV)} {st : List AV} {h : AH} (n : Nat) {idx : Nat} {x y : Int} (hd : decode cc pc = .ok (.invokestatic idx, 3)) (hn : pc + 3 = n) (hlk : Cond.methodLink own idx yJ_max ∈ zz_tbl) (hrm : 1 ≤ (zz_R X).frames ∧ zz_wt st + 13 ≤ (zz_R X).locals) (hm : zz_rm X h 0 0) (hr : R32 x ∧ R32 y) (k : ∀ v, ((x < y ∧ v = y) ∨ (y ≤ x ∧ v = x)) → AW X n L (vI v :: st) h) : AW X pc L (vI y :: vI x :: st) h := by
  have k := k (if x < y then (y) else (x)) (by split <;> omega)
  subst hn
  obtain ⟨p, l, e, R, s, m, args, below, meth, c, nL, D, cI, cJ, bs, NS, Q, RET, SC⟩ := X
  obtain ⟨⟨ox, ob, oml, oown, ots, osz, oK, omn⟩, oR, oL⟩ := C
  intro H locs ls h1 h2 h3 h5
  have k := k H locs ls h1 h2 h3 h5
  simp only [List.map_cons, zz_cv, zz_R, zz_rm, zz_NS] at k hrm hm ⊢
  have e1 : Lib.Math.max.name = yJ_max := rfl
  have e2 : Lib.Math.max.code = cJ_max := by decide +kernel
  refine va_mmax ox ob (by rw [oml]; exact h5.1.symm) oown (by rw [e1]; exact ots _ hlk) (by rw [e1]; exact ots _ lkJ_max.1) (ots _ lkJ_max.2.1) (by rw [e1, e2]; exact ots _ lkJ_max.2.2) hrm.1 (by rw [zz_wt_ok]; exact hrm.2) (by omega) (by omega) hd ?_
  have e3 : Int32.ofInt (if x < y then (y) else (x)) = if Int32.ofInt x < Int32.ofInt y then (Int32.ofInt y) else (Int32.ofInt x) := by
    simp only [i32_lt hr.1 hr.2]
    split <;> rfl
  rw [e3] at k
  exact k
theorem lkJ_min : Cond.static yJ_min ∈ zz_tbl ∧ Cond.initialized "java/lang/Math" ∈ zz_tbl ∧ Cond.code yJ_min cJ_min 2 (some .int) ∈ zz_tbl := ⟨(okmJ_min.2.2.1).resolve_left (by decide), okmJ_min.2.2.2.2.1, okmJ_min.2.2.2.2.2.1⟩
theorem aw_mmin {X : CT} {cc : ByteArray} {own mn : String} {nL : Nat} (C : zz_C X cc own mn nL) {pc : Nat} {L : List (Option AV)} {st : List AV} {h : AH} (n : Nat) {idx : Nat} {x y : Int} (hd : decode cc pc = .ok (.invokestatic idx, 3)) (hn : pc + 3 = n) (hlk : Cond.methodLink own idx yJ_min ∈ zz_tbl) (hrm : 1 ≤ (zz_R X).frames ∧ zz_wt st + 13 ≤ (zz_R X).locals) (hm : zz_rm X h 0 0) (hr : R32 x ∧ R32 y) (k : ∀ v, ((y < x ∧ v = y) ∨ (x ≤ y ∧ v = x)) → AW X n L (vI v :: st) h) : AW X pc L (vI y :: vI x :: st) h := by
  have k := k (if y < x then (y) else (x)) (by split <;> omega)
  subst hn
  obtain ⟨p, l, e, R, s, m, args, below, meth, c, nL, D, cI, cJ, bs, NS, Q, RET, SC⟩ := X
  obtain ⟨⟨ox, ob, oml, oown, ots, osz, oK, omn⟩, oR, oL⟩ := C
  intro H locs ls h1 h2 h3 h5
  have k := k H locs ls h1 h2 h3 h5
  simp only [List.map_cons, zz_cv, zz_R, zz_rm, zz_NS] at k hrm hm ⊢
  have e1 : Lib.Math.min.name = yJ_min := rfl
  have e2 : Lib.Math.min.code = cJ_min := by decide +kernel
  refine va_mmin ox ob (by rw [oml]; exact h5.1.symm) oown (by rw [e1]; exact ots _ hlk) (by rw [e1]; exact ots _ lkJ_min.1) (ots _ lkJ_min.2.1) (by rw [e1, e2]; exact ots _ lkJ_min.2.2) hrm.1 (by rw [zz_wt_ok]; exact hrm.2) (by omega) (by omega) hd ?_
  have e3 : Int32.ofInt (if y < x then (y) else (x)) = if Int32.ofInt y < Int32.ofInt x then (Int32.ofInt y) else (Int32.ofInt x) := by
    simp only [i32_lt hr.2 hr.1]
    split <;> rfl
  rw [e3] at k
  exact k
end
section
/-! pure words: loops, scans, colours, ranks, counts -/
def zi {α : Type} (f : Int → α → α) (s : α) (a : Int) : α := Nat.rec (motive := fun _ => α) s (fun i r => f (i : Int) r) a.toNat
theorem zi_0 {α : Type} (f : Int → α → α) (s : α) : zi f s 0 = s := rfl
theorem zi_s {α : Type} (f : Int → α → α) (s : α) {a : Int} (h : 0 ≤ a) : zi f s (a + 1) = f a (zi f s a) := by
  have e : (a + 1).toNat = a.toNat + 1 := by omega
  unfold zi
  rw [e]
  show f (a.toNat : Int) _ = f a _
  rw [Int.toNat_of_nonneg h]
theorem zi_inv {α : Type} {f : Int → α → α} {s : α} (P : Int → α → Prop) {n : Int} (hn : 0 ≤ n) (h0 : P 0 s) (hs : ∀ i r, 0 ≤ i → i < n → P i r → P (i + 1) (f i r)) : P n (zi f s n) := by
  have key : ∀ k : Nat, (k : Int) ≤ n → P (k : Int) (zi f s (k : Int)) := by
    intro k
    induction k with
    | zero => intro _; exact h0
    | succ k ih =>
      intro hk
      have h1 : ((k + 1 : Nat) : Int) = (k : Int) + 1 := by omega
      rw [h1, zi_s f s (by omega)]
      exact hs _ _ (by omega) (by omega) (ih (by omega))
  have := key n.toNat (by omega)
  rwa [Int.toNat_of_nonneg hn] at this
theorem zi_congr {α : Type} {f g : Int → α → α} {s : α} {n : Int} (h : ∀ i r, 0 ≤ i → i < n → f i r = g i r) : zi f s n = zi g s n := by
  by_cases hn : 0 ≤ n
  · refine zi_inv (P := fun i r => r = zi g s i) hn rfl (fun i r h0 h1 h2 => ?_)
    rw [zi_s g s h0, h i r h0 h1, h2]
  · have e : n.toNat = 0 := by omega
    unfold zi
    rw [e]
    rfl
/-- the first of n values that is not 0 -/
def sc1 (n : Int) (t : Int → Int) : Int := zi (fun b r => if r = 0 then t b else r) 0 n
theorem sc1_zero {n : Int} {t : Int → Int} (hn : 0 ≤ n) (h : ∀ y, 0 ≤ y → y < n → t y = 0) : sc1 n t = 0 := by
  refine zi_inv (P := fun _ r => r = 0) hn rfl (fun i r h0 h1 h2 => ?_)
  rw [if_pos h2]
  exact h i h0 h1
theorem sc1_first {n : Int} {t : Int → Int} {b : Int} (h0 : 0 ≤ b) (h1 : b < n) (hz : ∀ y, 0 ≤ y → y < b → t y = 0) (ht : t b ≠ 0) : sc1 n t = t b := by
  have := zi_inv (f := fun b r => if r = 0 then t b else r) (s := 0) (P := fun i r => (i ≤ b ∧ r = 0) ∨ (b < i ∧ r = t b)) (n := n) (by omega) (Or.inl ⟨h0, rfl⟩) (fun i r g0 g1 g2 => by
    rcases g2 with ⟨g2, g3⟩ | ⟨g2, g3⟩
    · rw [if_pos g3]
      by_cases e : i = b
      · subst e; exact Or.inr ⟨by omega, rfl⟩
      · exact Or.inl ⟨by omega, hz i g0 (by omega)⟩
    · rw [if_neg (by rw [g3]; exact ht)]
      exact Or.inr ⟨by omega, g3⟩)
  rcases this with ⟨g, _⟩ | ⟨_, g⟩
  · omega
  · exact g
theorem sc1_ex {n : Int} {t : Int → Int} (hn : 0 ≤ n) (h : sc1 n t ≠ 0) : ∃ b, 0 ≤ b ∧ b < n ∧ sc1 n t = t b ∧ ∀ y, 0 ≤ y → y < b → t y = 0 := by
  have := zi_inv (f := fun b r => if r = 0 then t b else r) (s := 0) (P := fun i r => (r = 0 ∧ ∀ y, 0 ≤ y → y < i → t y = 0) ∨ (r ≠ 0 ∧ ∃ b, 0 ≤ b ∧ b < i ∧ r = t b ∧ ∀ y, 0 ≤ y → y < b → t y = 0)) (n := n) hn (Or.inl ⟨rfl, fun y a b => by omega⟩) (fun i r g0 g1 g2 => by
    rcases g2 with ⟨g2, g3⟩ | ⟨g2, b, g3, g4, g5, g6⟩
    · simp only [g2, if_true]
      by_cases e : t i = 0
      · refine Or.inl ⟨e, fun y y0 y1 => ?_⟩
        by_cases e2 : y = i
        · rw [e2]; exact e
        · exact g3 y y0 (by omega)
      · exact Or.inr ⟨e, i, g0, by omega, rfl, g3⟩
    · simp only [if_neg g2]
      exact Or.inr ⟨g2, b, g3, by omega, g5, g6⟩)
  rcases this with ⟨g, _⟩ | ⟨_, b, g1, g2, g3, g4⟩
  · exact absurd g h
  · exact ⟨b, g1, g2, g3, g4⟩
theorem sc1_z {n : Int} {t : Int → Int} (hn : 0 ≤ n) (h : sc1 n t = 0) : ∀ y, 0 ≤ y → y < n → t y = 0 := by
  have := zi_inv (f := fun b r => if r = 0 then t b else r) (s := 0) (P := fun i r => r = 0 → ∀ y, 0 ≤ y → y < i → t y = 0) (n := n) hn (fun _ y a b => by omega) (fun i r g0 g1 g2 => by
    intro g3
    by_cases e : r = 0
    · rw [if_pos e] at g3
      intro y y0 y1
      by_cases e2 : y = i
      · rw [e2]; exact g3
      · exact g2 e y y0 (by omega)
    · rw [if_neg e] at g3
      exact absurd g3 e)
  exact this h
theorem sc1_congr {n : Int} {t u : Int → Int} (h : ∀ y, 0 ≤ y → y < n → t y = u y) : sc1 n t = sc1 n u := zi_congr fun i r h0 h1 => by rw [h i h0 h1]
/-- the first of n by n values (row by row) that is not 0 -/
def sc (n : Int) (t : Int → Int → Int) : Int := sc1 n (fun a => sc1 n (t a))
/-- (x, y) lies ahead of (a, b) -/
abbrev lx (x y a b : Int) : Prop := x < a ∨ (x = a ∧ y < b)
theorem sc_zero {n : Int} {t : Int → Int → Int} (hn : 0 ≤ n) (h : ∀ x y, 0 ≤ x → x < n → 0 ≤ y → y < n → t x y = 0) : sc n t = 0 :=
  sc1_zero hn fun x h0 h1 => sc1_zero hn fun y g0 g1 => h x y h0 h1 g0 g1
theorem sc_z {n : Int} {t : Int → Int → Int} (hn : 0 ≤ n) (h : sc n t = 0) : ∀ x y, 0 ≤ x → x < n → 0 ≤ y → y < n → t x y = 0 :=
  fun x y h0 h1 g0 g1 => sc1_z hn (sc1_z hn h x h0 h1) y g0 g1
theorem sc_first {n : Int} {t : Int → Int → Int} {a b : Int} (ha : 0 ≤ a ∧ a < n) (hb : 0 ≤ b ∧ b < n) (hz : ∀ x y, 0 ≤ x → x < n → 0 ≤ y → y < n → lx x y a b → t x y = 0) (ht : t a b ≠ 0) : sc n t = t a b := by
  have h1 : sc1 n (t a) = t a b := sc1_first hb.1 hb.2 (fun y y0 y1 => hz a y ha.1 ha.2 y0 (by omega) (Or.inr ⟨rfl, y1⟩)) ht
  have h2 : sc n t = sc1 n (t a) := sc1_first (t := fun a => sc1 n (t a)) ha.1 ha.2 (fun x x0 x1 => sc1_zero (by omega) fun y y0 y1 => hz x y x0 (by omega) y0 y1 (Or.inl x1)) (by show sc1 n (t a) ≠ 0; rw [h1]; exact ht)
  rw [h2, h1]
theorem sc_ex {n : Int} {t : Int → Int → Int} (hn : 0 ≤ n) (h : sc n t ≠ 0) : ∃ a b, (0 ≤ a ∧ a < n) ∧ (0 ≤ b ∧ b < n) ∧ sc n t = t a b ∧ ∀ x y, 0 ≤ x → x < n → 0 ≤ y → y < n → lx x y a b → t x y = 0 := by
  obtain ⟨a, a0, a1, a2, a3⟩ := sc1_ex hn h
  have h2 : sc1 n (t a) ≠ 0 := by
    have : sc n t = sc1 n (t a) := a2
    rw [← this]; exact h
  obtain ⟨b, b0, b1, b2, b3⟩ := sc1_ex hn h2
  refine ⟨a, b, ⟨a0, a1⟩, ⟨b0, b1⟩, a2.trans b2, fun x y x0 x1 y0 y1 hl => ?_⟩
  rcases hl with hl | ⟨rfl, hl⟩
  · exact sc1_z hn (a3 x x0 hl) y y0 y1
  · exact b3 y y0 hl
theorem sc_congr {n : Int} {t u : Int → Int → Int} (h : ∀ x y, 0 ≤ x → x < n → 0 ≤ y → y < n → t x y = u x y) : sc n t = sc n u :=
  sc1_congr fun x h0 h1 => sc1_congr fun y g0 g1 => h x y h0 h1 g0 g1
/-! colours: g a b is the colour of the pair (a, b) -/
abbrev Gr : Type := Int → Int → Int
/-- a row of 64 places holds the colours of n points -/
def ag (n : Int) (C : Int → Int) (g : Gr) : Prop := ∀ a b, 0 ≤ a → a < n → 0 ≤ b → b < n → C (8 * a + b) = g a b
def rgn (n : Int) (g : Gr) : Prop := ∀ a b, 0 ≤ a → a < n → 0 ≤ b → b < n → 0 ≤ g a b ∧ g a b ≤ 4
def mx1 (n : Int) (t : Int → Int) (s : Int) : Int := zi (fun b s => if s < t b then t b else s) s n
def mx2 (n : Int) (g : Gr) (a : Int) : Int := zi (fun a s => mx1 n (g a) s) 0 a
def rk (n : Int) (g : Gr) : Int := 1 + mx2 n g n
theorem mx1_s (n : Int) (t : Int → Int) (s : Int) : mx1 0 t s = s := rfl
theorem mx1_n {n : Int} (hn : 0 ≤ n) (t : Int → Int) (s : Int) : mx1 (n + 1) t s = if mx1 n t s < t n then t n else mx1 n t s := zi_s _ _ hn
theorem mx2_n {n a : Int} (ha : 0 ≤ a) (g : Gr) : mx2 n g (a + 1) = mx1 n (g a) (mx2 n g a) := zi_s _ _ ha
theorem mx1_ge {n : Int} (hn : 0 ≤ n) (t : Int → Int) (s : Int) : s ≤ mx1 n t s ∧ ∀ y, 0 ≤ y → y < n → t y ≤ mx1 n t s := by
  refine zi_inv (P := fun i r => s ≤ r ∧ ∀ y, 0 ≤ y → y < i → t y ≤ r) hn ⟨Int.le_refl _, fun y a b => by omega⟩ (fun i r h0 h1 h2 => ?_)
  by_cases e : r < t i
  · rw [if_pos e]
    refine ⟨by omega, fun y y0 y1 => ?_⟩
    by_cases e2 : y = i
    · rw [e2]; exact Int.le_refl _
    · have := h2.2 y y0 (by omega); omega
  · rw [if_neg e]
    refine ⟨h2.1, fun y y0 y1 => ?_⟩
    by_cases e2 : y = i
    · rw [e2]; omega
    · exact h2.2 y y0 (by omega)
theorem mx1_le {n : Int} (hn : 0 ≤ n) (t : Int → Int) (s B : Int) (hs : s ≤ B) (ht : ∀ y, 0 ≤ y → y < n → t y ≤ B) : mx1 n t s ≤ B := by
  refine zi_inv (P := fun i r => r ≤ B) hn hs (fun i r h0 h1 h2 => ?_)
  by_cases e : r < t i
  · rw [if_pos e]; exact ht i h0 h1
  · rw [if_neg e]; exact h2
theorem mx2_ge {n a : Int} (hn : 0 ≤ n) (ha : 0 ≤ a) (g : Gr) : 0 ≤ mx2 n g a ∧ ∀ x y, 0 ≤ x → x < a → 0 ≤ y → y < n → g x y ≤ mx2 n g a := by
  refine zi_inv (P := fun i r => 0 ≤ r ∧ ∀ x y, 0 ≤ x → x < i → 0 ≤ y → y < n → g x y ≤ r) ha ⟨Int.le_refl _, fun x y a b => by omega⟩ (fun i r h0 h1 h2 => ?_)
  have h3 := mx1_ge hn (g i) r
  refine ⟨by omega, fun x y x0 x1 y0 y1 => ?_⟩
  by_cases e2 : x = i
  · rw [e2]; exact h3.2 y y0 y1
  · have := h2.2 x y x0 (by omega) y0 y1; omega
theorem mx2_le {n a : Int} (hn : 0 ≤ n) (ha : 0 ≤ a) (han : a ≤ n) {g : Gr} (hg : rgn n g) : mx2 n g a ≤ 4 := by
  refine zi_inv (P := fun i r => r ≤ 4) ha (by decide) (fun i r h0 h1 h2 => ?_)
  exact mx1_le hn _ _ _ h2 fun y y0 y1 => (hg i y h0 (by omega) y0 y1).2
theorem rk_b {n : Int} {g : Gr} (hn : 0 ≤ n) (hg : rgn n g) : 1 ≤ rk n g ∧ rk n g ≤ 5 := by
  have h1 := (mx2_ge hn hn g).1
  have h2 := mx2_le hn hn (Int.le_refl _) hg
  unfold rk
  omega
theorem rk_gt {n : Int} {g : Gr} (hn : 0 ≤ n) {a b : Int} (ha : 0 ≤ a ∧ a < n) (hb : 0 ≤ b ∧ b < n) : g a b < rk n g := by
  have h1 := (mx2_ge hn hn g).2 a b ha.1 ha.2 hb.1 hb.2
  unfold rk
  omega
/-- the place of the first pair of the colour c, or -1 -/
def fp (n : Int) (g : Gr) (c : Int) : Int := sc n (fun a b => if g a b = c then 8 * a + b + 1 else 0) - 1
theorem fp_none {n : Int} {g : Gr} {c : Int} (hn : 0 ≤ n) (h : ∀ x y, 0 ≤ x → x < n → 0 ≤ y → y < n → g x y ≠ c) : fp n g c = -1 := by
  unfold fp
  rw [sc_zero hn fun x y x0 x1 y0 y1 => if_neg (h x y x0 x1 y0 y1)]
  rfl
theorem fp_some {n : Int} {g : Gr} {c a b : Int} (ha : 0 ≤ a ∧ a < n) (hb : 0 ≤ b ∧ b < n) (hc : g a b = c) (hz : ∀ x y, 0 ≤ x → x < n → 0 ≤ y → y < n → lx x y a b → g x y ≠ c) : fp n g c = 8 * a + b := by
  unfold fp
  rw [sc_first (a := a) (b := b) ha hb (fun x y x0 x1 y0 y1 hl => if_neg (hz x y x0 x1 y0 y1 hl)) (by rw [if_pos hc]; omega), if_pos hc]
  omega
theorem fp_ex {n : Int} {g : Gr} {c : Int} (hn : 0 ≤ n ∧ n ≤ 8) (h : fp n g c ≠ -1) : ∃ a b, (0 ≤ a ∧ a < n) ∧ (0 ≤ b ∧ b < n) ∧ g a b = c ∧ fp n g c = 8 * a + b ∧ fp n g c / 8 = a ∧ fp n g c % 8 = b ∧ ∀ x y, 0 ≤ x → x < n → 0 ≤ y → y < n → lx x y a b → g x y ≠ c := by
  unfold fp at h ⊢
  obtain ⟨a, b, ha, hb, h1, h2⟩ := sc_ex (n := n) (t := fun a b => if g a b = c then 8 * a + b + 1 else 0) hn.1 (by omega)
  have hne : sc n (fun a b => if g a b = c then 8 * a + b + 1 else 0) ≠ 0 := by omega
  by_cases e : g a b = c
  · rw [if_pos e] at h1
    refine ⟨a, b, ha, hb, e, by omega, by omega, by omega, fun x y x0 x1 y0 y1 hl e2 => ?_⟩
    have := h2 x y x0 x1 y0 y1 hl
    rw [if_pos e2] at this
    omega
  · rw [if_neg e] at h1
    exact absurd h1 hne
theorem fp_occ {n : Int} {g : Gr} {a b : Int} (hn : 0 ≤ n ∧ n ≤ 8) (ha : 0 ≤ a ∧ a < n) (hb : 0 ≤ b ∧ b < n) : fp n g (g a b) ≠ -1 := by
  intro h
  unfold fp at h
  have h1 : sc n (fun x y => if g x y = g a b then 8 * x + y + 1 else 0) = 0 := by omega
  have := sc_z hn.1 h1 a b ha.1 ha.2 hb.1 hb.2
  rw [if_pos rfl] at this
  omega
/-- how many points lie so between a and b -/
def cn (n : Int) (g : Gr) (a b i j : Int) : Int := zi (fun e s => if g a e = i ∧ g e b = j then s + 1 else s) 0 n
theorem cn_s {n : Int} (hn : 0 ≤ n) (g : Gr) (a b i j : Int) : cn (n + 1) g a b i j = if g a n = i ∧ g n b = j then cn n g a b i j + 1 else cn n g a b i j := zi_s _ _ hn
theorem cn_b {n : Int} (hn : 0 ≤ n) (g : Gr) (a b i j : Int) : 0 ≤ cn n g a b i j ∧ cn n g a b i j ≤ n := by
  refine zi_inv (P := fun i r => 0 ≤ r ∧ r ≤ i) hn ⟨Int.le_refl _, Int.le_refl _⟩ (fun i r h0 h1 h2 => ?_)
  split <;> omega
abbrev zl5 : List Int := [0, 1, 2, 3, 4]
theorem zl5_all {P : Int → Prop} : (∀ c ∈ zl5, P c) ↔ ∀ c, 0 ≤ c → c < 5 → P c := by
  constructor
  · intro h c h0 h1
    exact h c (by
      have : c = 0 ∨ c = 1 ∨ c = 2 ∨ c = 3 ∨ c = 4 := by omega
      rcases this with rfl | rfl | rfl | rfl | rfl <;> decide)
  · intro h c hc
    simp only [List.mem_cons, List.not_mem_nil, or_false] at hc
    rcases hc with rfl | rfl | rfl | rfl | rfl <;> exact h _ (by decide) (by decide)
/-- the reversal of a colour, by its first pair -/
def rv (n : Int) (g : Gr) (c : Int) : Int := if fp n g c = -1 then 0 else g (fp n g c % 8) (fp n g c / 8)
/-- N(i, j, k) by the first pair of k -/
def nu (n : Int) (g : Gr) (i j k : Int) : Int := cn n g (fp n g k / 8) (fp n g k % 8) i j
def tA (g : Gr) (a b : Int) : Int := if (g a b = 0) ↔ (a = b) then 0 else 100 + 10 * a + b
def tB (n : Int) (g : Gr) : Int := if ∀ c ∈ zl5, c < rk n g → fp n g c ≠ -1 then 0 else 200
def tC (n : Int) (g : Gr) (a b : Int) : Int := if g b a = rv n g (g a b) then 0 else 300 + 10 * a + b
def tD (n : Int) (g : Gr) (a b : Int) : Int := if ∀ i ∈ zl5, ∀ j ∈ zl5, cn n g a b i j = nu n g i j (g a b) then 0 else 400 + 10 * a + b
/-- by what a colouring fails -/
def fl (n : Int) (g : Gr) : Int := if sc n (tA g) ≠ 0 then sc n (tA g) else if tB n g ≠ 0 then tB n g else if sc n (tC n g) ≠ 0 then sc n (tC n g) else sc n (tD n g)
/-- how many pairs (0, b) have i -/
def dg (n : Int) (g : Gr) (i : Int) : Int := zi (fun b s => if g 0 b = i then s + 1 else s) 0 n
theorem dg_s {n : Int} (hn : 0 ≤ n) (g : Gr) (i : Int) : dg (n + 1) g i = if g 0 n = i then dg n g i + 1 else dg n g i := zi_s _ _ hn
theorem dg_b {n : Int} (hn : 0 ≤ n) (g : Gr) (i : Int) : 0 ≤ dg n g i ∧ dg n g i ≤ n := by
  refine zi_inv (P := fun i r => 0 ≤ r ∧ r ≤ i) hn ⟨Int.le_refl _, Int.le_refl _⟩ (fun i r h0 h1 h2 => ?_)
  split <;> omega
end
section
/-! a Colouring in the heap: the object o and its four rows o + 1 .. o + 4 -/
abbrev cCol (o : Nat) (n r f : Int) : AC := cO 0 [vR (o + 1), vR (o + 2), vR (o + 3), vR (o + 4), vI n, vI r, vI f]
def hcol (h : AH) (o : Nat) (C F Nu Co : Int → Int) (n r f : Int) : AH := zz_put (zz_put (zz_put (zz_put (zz_put h o (cCol o n r f)) (o + 1) (cA 64 C)) (o + 2) (cA 5 F)) (o + 3) (cA 125 Nu)) (o + 4) (cA 25 Co)
section
variable {h : AH} {o : Nat} {C F Nu Co C' F' Nu' Co' : Int → Int} {n r f n' r' f' : Int}
theorem hc_0 : zz_get (hcol h o C F Nu Co n r f) o = cCol o n r f := by
  unfold hcol
  rw [zz_gn (by omega), zz_gn (by omega), zz_gn (by omega), zz_gn (by omega), zz_gs]
theorem hc_1 : zz_get (hcol h o C F Nu Co n r f) (o + 1) = cA 64 C := by
  unfold hcol
  rw [zz_gn (by omega), zz_gn (by omega), zz_gn (by omega), zz_gs]
theorem hc_2 : zz_get (hcol h o C F Nu Co n r f) (o + 2) = cA 5 F := by
  unfold hcol
  rw [zz_gn (by omega), zz_gn (by omega), zz_gs]
theorem hc_3 : zz_get (hcol h o C F Nu Co n r f) (o + 3) = cA 125 Nu := by
  unfold hcol
  rw [zz_gn (by omega), zz_gs]
theorem hc_4 : zz_get (hcol h o C F Nu Co n r f) (o + 4) = cA 25 Co := by
  unfold hcol
  rw [zz_gs]
theorem hc_x {k : Nat} (hk : k < o ∨ o + 4 < k) : zz_get (hcol h o C F Nu Co n r f) k = zz_get h k := by
  unfold hcol
  rw [zz_gn (by omega), zz_gn (by omega), zz_gn (by omega), zz_gn (by omega), zz_gn (by omega)]
theorem hp_4 : zz_put (hcol h o C F Nu Co n r f) (o + 4) (cA 25 Co') = hcol h o C F Nu Co' n r f := by
  unfold hcol
  rw [zz_put_put]
theorem hp_3 : zz_put (hcol h o C F Nu Co n r f) (o + 3) (cA 125 Nu') = hcol h o C F Nu' Co n r f := by
  unfold hcol
  rw [zz_put_comm _ (o + 4) (o + 3) _ _ (by omega), zz_put_put]
theorem hp_2 : zz_put (hcol h o C F Nu Co n r f) (o + 2) (cA 5 F') = hcol h o C F' Nu Co n r f := by
  unfold hcol
  rw [zz_put_comm _ (o + 4) (o + 2) _ _ (by omega), zz_put_comm _ (o + 3) (o + 2) _ _ (by omega), zz_put_put]
theorem hp_1 : zz_put (hcol h o C F Nu Co n r f) (o + 1) (cA 64 C') = hcol h o C' F Nu Co n r f := by
  unfold hcol
  rw [zz_put_comm _ (o + 4) (o + 1) _ _ (by omega), zz_put_comm _ (o + 3) (o + 1) _ _ (by omega), zz_put_comm _ (o + 2) (o + 1) _ _ (by omega), zz_put_put]
theorem hp_0 : zz_put (hcol h o C F Nu Co n r f) o (cO 0 [vR (o + 1), vR (o + 2), vR (o + 3), vR (o + 4), vI n', vI r', vI f']) = hcol h o C F Nu Co n' r' f' := by
  unfold hcol
  rw [zz_put_comm _ (o + 4) o _ _ (by omega), zz_put_comm _ (o + 3) o _ _ (by omega), zz_put_comm _ (o + 2) o _ _ (by omega), zz_put_comm _ (o + 1) o _ _ (by omega), zz_put_put]
theorem hc_in (h0 : zz_get h o = cCol o n r f) (h1 : zz_get h (o + 1) = cA 64 C) (h2 : zz_get h (o + 2) = cA 5 F) (h3 : zz_get h (o + 3) = cA 125 Nu) (h4 : zz_get h (o + 4) = cA 25 Co) : h = hcol h o C F Nu Co n r f := by
  unfold hcol
  rw [zz_put_get h o _ h0, zz_put_get h (o + 1) _ h1, zz_put_get h (o + 2) _ h2, zz_put_get h (o + 3) _ h3, zz_put_get h (o + 4) _ h4]
end
/-- a Colouring that has measured itself -/
def msd (n : Int) (g : Gr) (C F Nu : Int → Int) (r f : Int) : Prop := (1 ≤ n ∧ n ≤ 8) ∧ ag n C g ∧ rgn n g ∧ r = rk n g ∧ f = fl n g ∧ (∀ c, 0 ≤ c → c < 5 → F c = fp n g c) ∧ (f = 0 → ∀ i j k, 0 ≤ i → i < 5 → 0 ≤ j → j < 5 → 0 ≤ k → k < rk n g → Nu (25 * k + 5 * i + j) = nu n g i j k)
/-! more of colours -/
theorem fp_b {n : Int} {g : Gr} (hn : 0 ≤ n ∧ n ≤ 8) (c : Int) : -1 ≤ fp n g c ∧ fp n g c < 64 := by
  by_cases e : fp n g c = -1
  · omega
  · obtain ⟨a, b, ha, hb, -, h1, -⟩ := fp_ex hn e
    omega
def tF (g : Gr) (c x y : Int) : Int := if g x y = c then 8 * x + y + 1 else 0
theorem fp_tF (n : Int) (g : Gr) (c : Int) : fp n g c = sc1 n (fun x => sc1 n (tF g c x)) - 1 := rfl
theorem sc1_0 (t : Int → Int) : sc1 0 t = 0 := rfl
theorem sc1_s {n : Int} (hn : 0 ≤ n) (t : Int → Int) : sc1 (n + 1) t = if sc1 n t = 0 then t n else sc1 n t := zi_s _ _ hn
theorem rv_eq {n : Int} {g : Gr} {C : Int → Int} (hn : 0 ≤ n ∧ n ≤ 8) (hA : ag n C g) (c : Int) : (if fp n g c = -1 then 0 else C (8 * (fp n g c % 8) + fp n g c / 8)) = rv n g c := by
  unfold rv
  by_cases e : fp n g c = -1
  · rw [if_pos e, if_pos e]
  · rw [if_neg e, if_neg e]
    obtain ⟨a, b, ha, hb, -, h1, h2, h3, -⟩ := fp_ex hn e
    rw [h2, h3]
    exact hA b a hb.1 hb.2 ha.1 ha.2
theorem tA_0 {g : Gr} {a b : Int} (h : (g a b = 0) ↔ (a = b)) : tA g a b = 0 := if_pos h
theorem tA_1 {g : Gr} {a b : Int} (h : ¬ ((g a b = 0) ↔ (a = b))) : tA g a b = 100 + 10 * a + b := if_neg h
theorem tC_0 {n : Int} {g : Gr} {a b : Int} (h : g b a = rv n g (g a b)) : tC n g a b = 0 := if_pos h
theorem tC_1 {n : Int} {g : Gr} {a b : Int} (h : ¬ g b a = rv n g (g a b)) : tC n g a b = 300 + 10 * a + b := if_neg h
theorem tD_0 {n : Int} {g : Gr} {a b : Int} (h : ∀ i j, 0 ≤ i → i < 5 → 0 ≤ j → j < 5 → cn n g a b i j = nu n g i j (g a b)) : tD n g a b = 0 :=
  if_pos (zl5_all.mpr fun i i0 i1 => zl5_all.mpr fun j j0 j1 => h i j i0 i1 j0 j1)
theorem tD_1 {n : Int} {g : Gr} {a b i j : Int} (hi : 0 ≤ i ∧ i < 5) (hj : 0 ≤ j ∧ j < 5) (h : cn n g a b i j ≠ nu n g i j (g a b)) : tD n g a b = 400 + 10 * a + b :=
  if_neg fun q => h (zl5_all.mp (zl5_all.mp q i hi.1 hi.2) j hj.1 hj.2)
theorem tB_0 {n : Int} {g : Gr} (h : ∀ c, 0 ≤ c → c < 5 → c < rk n g → fp n g c ≠ -1) : tB n g = 0 := if_pos (zl5_all.mpr h)
theorem tB_1 {n : Int} {g : Gr} {c : Int} (h0 : 0 ≤ c ∧ c < 5) (h1 : c < rk n g) (h2 : fp n g c = -1) : tB n g = 200 := if_neg fun q => (zl5_all (P := fun c => c < rk n g → fp n g c ≠ -1)).mp q c h0.1 h0.2 h1 h2
theorem tB_z {n : Int} {g : Gr} (h : tB n g = 0) : ∀ c, 0 ≤ c → c < 5 → c < rk n g → fp n g c ≠ -1 := by
  unfold tB at h
  by_cases q : ∀ c ∈ zl5, c < rk n g → fp n g c ≠ -1
  · exact zl5_all.mp q
  · rw [if_neg q] at h
    exact absurd h (by decide)
theorem tD_z {n : Int} {g : Gr} {a b : Int} (h0 : 0 ≤ a) (h1 : 0 ≤ b) (h : tD n g a b = 0) : ∀ i j, 0 ≤ i → i < 5 → 0 ≤ j → j < 5 → cn n g a b i j = nu n g i j (g a b) := by
  unfold tD at h
  by_cases q : ∀ i ∈ zl5, ∀ j ∈ zl5, cn n g a b i j = nu n g i j (g a b)
  · exact fun i j i0 i1 j0 j1 => zl5_all.mp (zl5_all.mp q i i0 i1) j j0 j1
  · rw [if_neg q] at h
    omega
theorem tA_z {g : Gr} {a b : Int} (h0 : 0 ≤ a) (h1 : 0 ≤ b) (h : tA g a b = 0) : (g a b = 0) ↔ (a = b) := by
  unfold tA at h
  by_cases q : (g a b = 0) ↔ (a = b)
  · exact q
  · rw [if_neg q] at h
    omega
theorem tC_z {n : Int} {g : Gr} {a b : Int} (h0 : 0 ≤ a) (h1 : 0 ≤ b) (h : tC n g a b = 0) : g b a = rv n g (g a b) := by
  unfold tC at h
  by_cases q : g b a = rv n g (g a b)
  · exact q
  · rw [if_neg q] at h
    omega
/-- an even colouring: what holds of it -/
theorem fl_z {n : Int} {g : Gr} (hn : 0 ≤ n) (h : fl n g = 0) : (∀ a b, 0 ≤ a → a < n → 0 ≤ b → b < n → ((g a b = 0) ↔ (a = b))) ∧ (∀ c, 0 ≤ c → c < 5 → c < rk n g → fp n g c ≠ -1) ∧ (∀ a b, 0 ≤ a → a < n → 0 ≤ b → b < n → g b a = rv n g (g a b)) ∧ (∀ a b, 0 ≤ a → a < n → 0 ≤ b → b < n → ∀ i j, 0 ≤ i → i < 5 → 0 ≤ j → j < 5 → cn n g a b i j = nu n g i j (g a b)) := by
  unfold fl at h
  by_cases e1 : sc n (tA g) ≠ 0
  · rw [if_pos e1] at h; exact absurd h e1
  rw [if_neg e1] at h
  by_cases e2 : tB n g ≠ 0
  · rw [if_pos e2] at h; exact absurd h e2
  rw [if_neg e2] at h
  by_cases e3 : sc n (tC n g) ≠ 0
  · rw [if_pos e3] at h; exact absurd h e3
  rw [if_neg e3] at h
  have f1 : sc n (tA g) = 0 := Decidable.of_not_not e1
  have f2 : tB n g = 0 := Decidable.of_not_not e2
  have f3 : sc n (tC n g) = 0 := Decidable.of_not_not e3
  exact ⟨fun a b a0 a1 b0 b1 => tA_z a0 b0 (sc_z hn f1 a b a0 a1 b0 b1), tB_z f2, fun a b a0 a1 b0 b1 => tC_z a0 b0 (sc_z hn f3 a b a0 a1 b0 b1), fun a b a0 a1 b0 b1 => tD_z a0 b0 (sc_z hn h a b a0 a1 b0 b1)⟩
theorem sc1_b {n B : Int} {t : Int → Int} (hn : 0 ≤ n) (hB : 0 ≤ B) (h : ∀ y, 0 ≤ y → y < n → 0 ≤ t y ∧ t y ≤ B) : 0 ≤ sc1 n t ∧ sc1 n t ≤ B := by
  by_cases e : sc1 n t = 0
  · omega
  · obtain ⟨b, b0, b1, b2, -⟩ := sc1_ex hn e
    rw [b2]
    exact h b b0 b1
theorem tF_b {g : Gr} {c x y : Int} (hx : 0 ≤ x ∧ x < 8) (hy : 0 ≤ y ∧ y < 8) : 0 ≤ tF g c x y ∧ tF g c x y ≤ 64 := by
  unfold tF
  split <;> omega
theorem ff_b {n a b : Int} {g : Gr} {c : Int} (hn : n ≤ 8) (ha : 0 ≤ a ∧ a < n) (hb : 0 ≤ b ∧ b ≤ n) : 0 ≤ (if sc1 a (fun x => sc1 n (tF g c x)) = 0 then sc1 b (tF g c a) else sc1 a (fun x => sc1 n (tF g c x))) ∧ (if sc1 a (fun x => sc1 n (tF g c x)) = 0 then sc1 b (tF g c a) else sc1 a (fun x => sc1 n (tF g c x))) ≤ 64 := by
  split
  · exact sc1_b hb.1 (by decide) fun y y0 y1 => tF_b ⟨ha.1, by omega⟩ ⟨y0, by omega⟩
  · exact sc1_b ha.1 (by decide) fun x x0 x1 => sc1_b (by omega) (by decide) fun y y0 y1 => tF_b ⟨x0, by omega⟩ ⟨y0, by omega⟩
theorem ff_new {a b v : Int} {g : Gr} {S Gb : Int → Int} (ha : 0 ≤ a) (hb : 0 ≤ b) (hq : ∀ c, 0 ≤ c → c < 5 → Gb c + 1 = if S c = 0 then sc1 b (tF g c a) else S c) (e : v = g a b) (h1 : Gb v = -1) : ∀ c, 0 ≤ c → c < 5 → zz_up Gb v (a * 8 + b) c + 1 = if S c = 0 then sc1 (b + 1) (tF g c a) else S c := by
  intro c c0 c1
  have q := hq c c0 c1
  rw [sc1_s hb]
  unfold zz_up
  by_cases ec : c = v
  · subst ec
    rw [if_pos rfl]
    by_cases hS0 : S c = 0
    · rw [if_pos hS0] at q ⊢
      rw [if_pos (by omega)]
      unfold tF
      rw [if_pos e.symm]
      omega
    · rw [if_neg hS0] at q
      omega
  · rw [if_neg ec]
    have et : tF g c a b = 0 := if_neg (by omega)
    by_cases hS0 : S c = 0
    · rw [if_pos hS0] at q ⊢
      rw [et]
      split <;> omega
    · rw [if_neg hS0] at q ⊢
      exact q
theorem ff_old {a b v : Int} {g : Gr} {S Gb : Int → Int} (hb : 0 ≤ b) (hq : ∀ c, 0 ≤ c → c < 5 → Gb c + 1 = if S c = 0 then sc1 b (tF g c a) else S c) (e : v = g a b) (h1 : ¬ Gb v = -1) : ∀ c, 0 ≤ c → c < 5 → Gb c + 1 = if S c = 0 then sc1 (b + 1) (tF g c a) else S c := by
  intro c c0 c1
  have q := hq c c0 c1
  rw [sc1_s hb]
  by_cases hS0 : S c = 0
  · rw [if_pos hS0] at q ⊢
    by_cases ec : c = v
    · subst ec
      rw [if_neg (by omega)]
      exact q
    · have et : tF g c a b = 0 := if_neg (by omega)
      rw [et]
      split <;> omega
  · rw [if_neg hS0] at q ⊢
    exact q
theorem rv_b {n : Int} {g : Gr} (hn : 0 ≤ n ∧ n ≤ 8) (hg : rgn n g) (c : Int) : 0 ≤ rv n g c ∧ rv n g c ≤ 4 := by
  unfold rv
  by_cases e : fp n g c = -1
  · rw [if_pos e]; decide
  · rw [if_neg e]
    obtain ⟨a, b, ha, hb, -, h1, h2, h3, -⟩ := fp_ex hn e
    rw [h2, h3]
    exact hg b a hb.1 hb.2 ha.1 ha.2
theorem fp_col {n : Int} {g : Gr} (hn : 0 ≤ n ∧ n ≤ 8) {c : Int} (e : fp n g c ≠ -1) : (0 ≤ fp n g c / 8 ∧ fp n g c / 8 < n) ∧ (0 ≤ fp n g c % 8 ∧ fp n g c % 8 < n) ∧ g (fp n g c / 8) (fp n g c % 8) = c := by
  obtain ⟨a, b, ha, hb, h0, h1, h2, h3, -⟩ := fp_ex hn e
  rw [h2, h3]
  exact ⟨ha, hb, h0⟩
/-- the first pair of a pair's colour isn't behind it -/
theorem fp_le {n : Int} {g : Gr} (hn : 0 ≤ n ∧ n ≤ 8) {a b : Int} (ha : 0 ≤ a ∧ a < n) (hb : 0 ≤ b ∧ b < n) (hne : fp n g (g a b) ≠ 8 * a + b) : fp n g (g a b) / 8 < a ∨ (fp n g (g a b) / 8 = a ∧ fp n g (g a b) % 8 < b) := by
  obtain ⟨x, y, hx, hy, h0, h1, h2, h3, h4⟩ := fp_ex hn (fp_occ hn ha hb)
  rw [h2, h3]
  have h5 := h4 a b ha.1 ha.2 hb.1 hb.2
  by_cases q : lx a b x y
  · exact absurd rfl (h5 q)
  · omega
theorem nu_b {n : Int} {g : Gr} (hn : 0 ≤ n) (i j k : Int) : 0 ≤ nu n g i j k ∧ nu n g i j k ≤ n := cn_b hn _ _ _ _ _
theorem up_at {C : Int → Int} {a b c x y : Int} (hb : 0 ≤ b ∧ b < 8) (hy : 0 ≤ y ∧ y < 8) : zz_up C (8 * a + b) c (8 * x + y) = if x = a ∧ y = b then c else C (8 * x + y) := by
  unfold zz_up
  by_cases e : x = a ∧ y = b
  · rw [if_pos e, if_pos (by omega)]
  · rw [if_neg e, if_neg (by omega)]
/-- as points are told anew -/
def gB : Gr := fun a b => if a = b then 0 else 1
theorem gB_r (n : Int) : rgn n gB := fun a b _ _ _ _ => by unfold gB; split <;> omega
/-- a map's digit for a colour -/
def dv (mp l : Int) : Int := if l = 1 then mp else if l = 2 then mp / 5 else if l = 3 then mp / 25 else mp / 125
def fz (mp c : Int) : Int := if c = 0 then 0 else dv mp c % 5
theorem dv_b {mp l : Int} (h : 0 ≤ mp) : 0 ≤ dv mp l ∧ dv mp l ≤ mp := by unfold dv; split <;> (try split) <;> (try split) <;> omega
theorem dv_s {mp l : Int} (h : 0 ≤ mp) (hl : 1 ≤ l ∧ l ≤ 3) : dv mp (l + 1) = dv mp l / 5 := by
  rcases (show l = 1 ∨ l = 2 ∨ l = 3 by omega) with rfl | rfl | rfl
  · show mp / 5 = mp / 5; rfl
  · show mp / 25 = mp / 5 / 5; omega
  · show mp / 125 = mp / 25 / 5; omega
theorem fz_b {mp c : Int} (h : 0 ≤ mp) : 0 ≤ fz mp c ∧ fz mp c ≤ 4 := by unfold fz; split <;> omega
def gF (mp : Int) (g : Gr) : Gr := fun a b => fz mp (g a b)
theorem gF_r {n mp : Int} {g : Gr} (h : 0 ≤ mp) : rgn n (gF mp g) := fun a b _ _ _ _ => fz_b h
/-- rings: the digits of a number by 5 -/
def dq (d s : Int) : Int := zi (fun _ r => r / 5) d s
theorem dq_s {d s : Int} (h : 0 ≤ s) : dq d (s + 1) = dq d s / 5 := zi_s _ _ h
theorem dq_b {d s : Int} (hd : 0 ≤ d) (h : 0 ≤ s) : 0 ≤ dq d s ∧ dq d s ≤ d := by
  refine zi_inv (P := fun _ r => 0 ≤ r ∧ r ≤ d) h ⟨hd, Int.le_refl _⟩ (fun i r h0 h1 h2 => ?_)
  omega
abbrev kR (n a b : Int) : Int := if a ≤ b then b - a else b - a + n
def gR (n d : Int) : Gr := fun a b => if a = b then 0 else dq d (kR n a b - 1) % 5
theorem gR_r {n d : Int} : rgn n (gR n d) := fun a b _ _ _ _ => by unfold gR; split <;> omega
end
section
/-! ShareTables.Colouring: its small methods -/
set_option maxRecDepth 100000 in
set_option maxHeartbeats 4000000 in
theorem s_X0_colourOf {h : AH} {Q : Option AV → AH → Prop} {o : Nat} {n r f : Int} {C : Int → Int} {a b : Int} (hO : zz_get h o = cCol o n r f) (hC : zz_get h (o + 1) = cA 64 C) (ha : 0 ≤ a ∧ a < 8) (hb : 0 ≤ b ∧ b < 8) (k : ∀ v, v = C (8 * a + b) → Q (some (vI v)) h) : MC mX0_colourOf [vR o, vI a, vI b] h Q := by
  refine mc_start mX0_colourOf RX0 "colourOf" ⟨rfl, rfl, by decide +kernel⟩ [some (vR o), some (vI a), some (vI b)] ⟨0, rfl⟩ rfl (fun X cx hRm hNS hRet => ?_)
  refine aw_aload_n cx 1 dX0_colourOf_0 rfl rfl ?_
  refine aw_getfield cx 4 dX0_colourOf_1 rfl fdX0_9 (by first | assumption | exact hc_0 | exact hc_1 | exact hc_2 | exact hc_3 | exact hc_4 | exact zz_gs _ _ _ | exact (hc_x (by omega)).trans (by first | assumption | exact hc_0 | exact hc_1 | exact hc_2 | exact hc_3 | exact hc_4 | exact zz_gs _ _ _) | exact (zz_gn (by omega)).trans (by first | assumption | exact hc_0 | exact hc_1 | exact hc_2 | exact hc_3 | exact hc_4 | exact zz_gs _ _ _)) (by rfl) ?_
  refine aw_iload_n cx 5 dX0_colourOf_4 rfl rfl ?_
  refine aw_bipush cx 7 dX0_colourOf_5 rfl (by decide +kernel) ?_
  refine aw_imul cx 8 dX0_colourOf_7 rfl ?_
  refine aw_iload_n cx 9 dX0_colourOf_8 rfl rfl ?_
  refine aw_iadd cx 10 dX0_colourOf_9 rfl ?_
  refine aw_iaload cx 11 dX0_colourOf_10 rfl (by first | assumption | exact hc_0 | exact hc_1 | exact hc_2 | exact hc_3 | exact hc_4 | exact zz_gs _ _ _ | exact (hc_x (by omega)).trans (by first | assumption | exact hc_0 | exact hc_1 | exact hc_2 | exact hc_3 | exact hc_4 | exact zz_gs _ _ _) | exact (zz_gn (by omega)).trans (by first | assumption | exact hc_0 | exact hc_1 | exact hc_2 | exact hc_3 | exact hc_4 | exact zz_gs _ _ _)) ⟨by omega, by omega⟩ (by decide) ?_
  refine aw_ireturn cx dX0_colourOf_11 ?_
  refine hRet _ _ True.intro rfl ?_
  exact k _ (by rw [show a * 8 + b = 8 * a + b by omega])
set_option maxRecDepth 100000 in
set_option maxHeartbeats 4000000 in
theorem s_X0_paint {h : AH} {Q : Option AV → AH → Prop} {o : Nat} {n r f : Int} {C : Int → Int} {a b c : Int} (hO : zz_get h o = cCol o n r f) (hC : zz_get h (o + 1) = cA 64 C) (ha : 0 ≤ a ∧ a < 8) (hb : 0 ≤ b ∧ b < 8) (k : Q none (zz_put h (o + 1) (cA 64 (zz_up C (8 * a + b) c)))) : MC mX0_paint [vR o, vI a, vI b, vI c] h Q := by
  refine mc_start mX0_paint RX0 "paint" ⟨rfl, rfl, by decide +kernel⟩ [some (vR o), some (vI a), some (vI b), some (vI c)] ⟨0, rfl⟩ rfl (fun X cx hRm hNS hRet => ?_)
  refine aw_aload_n cx 1 dX0_paint_0 rfl rfl ?_
  refine aw_getfield cx 4 dX0_paint_1 rfl fdX0_9 (by first | assumption | exact hc_0 | exact hc_1 | exact hc_2 | exact hc_3 | exact hc_4 | exact zz_gs _ _ _ | exact (hc_x (by omega)).trans (by first | assumption | exact hc_0 | exact hc_1 | exact hc_2 | exact hc_3 | exact hc_4 | exact zz_gs _ _ _) | exact (zz_gn (by omega)).trans (by first | assumption | exact hc_0 | exact hc_1 | exact hc_2 | exact hc_3 | exact hc_4 | exact zz_gs _ _ _)) (by rfl) ?_
  refine aw_iload_n cx 5 dX0_paint_4 rfl rfl ?_
  refine aw_bipush cx 7 dX0_paint_5 rfl (by decide +kernel) ?_
  refine aw_imul cx 8 dX0_paint_7 rfl ?_
  refine aw_iload_n cx 9 dX0_paint_8 rfl rfl ?_
  refine aw_iadd cx 10 dX0_paint_9 rfl ?_
  refine aw_iload_n cx 11 dX0_paint_10 rfl rfl ?_
  refine aw_iastore cx 12 dX0_paint_11 rfl (by first | assumption | exact hc_0 | exact hc_1 | exact hc_2 | exact hc_3 | exact hc_4 | exact zz_gs _ _ _ | exact (hc_x (by omega)).trans (by first | assumption | exact hc_0 | exact hc_1 | exact hc_2 | exact hc_3 | exact hc_4 | exact zz_gs _ _ _) | exact (zz_gn (by omega)).trans (by first | assumption | exact hc_0 | exact hc_1 | exact hc_2 | exact hc_3 | exact hc_4 | exact zz_gs _ _ _)) ⟨by omega, by omega⟩ (by decide) ?_
  refine aw_return cx dX0_paint_12 ?_
  refine hRet _ _ rfl rfl ?_
  rw [show a * 8 + b = 8 * a + b by omega]
  exact k
set_option maxRecDepth 100000 in
set_option maxHeartbeats 4000000 in
theorem s_X0_failureAt {h : AH} {Q : Option AV → AH → Prop} {t a b : Int} (k : ∀ v, v = 100 * t + 10 * a + b → Q (some (vI v)) h) : MC mX0_failureAt [vI t, vI a, vI b] h Q := by
  refine mc_start mX0_failureAt RX0 "failureAt" ⟨rfl, rfl, by decide +kernel⟩ [some (vI t), some (vI a), some (vI b)] ⟨0, rfl⟩ rfl (fun X cx hRm hNS hRet => ?_)
  refine aw_bipush cx 2 dX0_failureAt_0 rfl (by decide +kernel) ?_
  refine aw_iload_n cx 3 dX0_failureAt_2 rfl rfl ?_
  refine aw_imul cx 4 dX0_failureAt_3 rfl ?_
  refine aw_bipush cx 6 dX0_failureAt_4 rfl (by decide +kernel) ?_
  refine aw_iload_n cx 7 dX0_failureAt_6 rfl rfl ?_
  refine aw_imul cx 8 dX0_failureAt_7 rfl ?_
  refine aw_iadd cx 9 dX0_failureAt_8 rfl ?_
  refine aw_iload_n cx 10 dX0_failureAt_9 rfl rfl ?_
  refine aw_iadd cx 11 dX0_failureAt_10 rfl ?_
  refine aw_ireturn cx dX0_failureAt_11 ?_
  refine hRet _ _ True.intro rfl ?_
  exact k _ rfl
set_option maxRecDepth 100000 in
set_option maxHeartbeats 4000000 in
theorem s_X0_numberOf {h : AH} {Q : Option AV → AH → Prop} {o : Nat} {n r f : Int} {Nu : Int → Int} {i j l : Int} (hO : zz_get h o = cCol o n r f) (hN : zz_get h (o + 3) = cA 125 Nu) (hi : 0 ≤ i ∧ i < 5) (hj : 0 ≤ j ∧ j < 5) (hl : 0 ≤ l ∧ l < 5) (k : ∀ v, v = Nu (25 * l + 5 * i + j) → Q (some (vI v)) h) : MC mX0_numberOf [vR o, vI i, vI j, vI l] h Q := by
  refine mc_start mX0_numberOf RX0 "numberOf" ⟨rfl, rfl, by decide +kernel⟩ [some (vR o), some (vI i), some (vI j), some (vI l)] ⟨0, rfl⟩ rfl (fun X cx hRm hNS hRet => ?_)
  refine aw_aload_n cx 1 dX0_numberOf_0 rfl rfl ?_
  refine aw_getfield cx 4 dX0_numberOf_1 rfl fdX0_18 (by first | assumption | exact hc_0 | exact hc_1 | exact hc_2 | exact hc_3 | exact hc_4 | exact zz_gs _ _ _ | exact (hc_x (by omega)).trans (by first | assumption | exact hc_0 | exact hc_1 | exact hc_2 | exact hc_3 | exact hc_4 | exact zz_gs _ _ _) | exact (zz_gn (by omega)).trans (by first | assumption | exact hc_0 | exact hc_1 | exact hc_2 | exact hc_3 | exact hc_4 | exact zz_gs _ _ _)) (by rfl) ?_
  refine aw_iload_n cx 5 dX0_numberOf_4 rfl rfl ?_
  refine aw_iconst cx 6 dX0_numberOf_5 rfl ?_
  refine aw_imul cx 7 dX0_numberOf_6 rfl ?_
  refine aw_iload_n cx 8 dX0_numberOf_7 rfl rfl ?_
  refine aw_iadd cx 9 dX0_numberOf_8 rfl ?_
  refine aw_iconst cx 10 dX0_numberOf_9 rfl ?_
  refine aw_imul cx 11 dX0_numberOf_10 rfl ?_
  refine aw_iload_n cx 12 dX0_numberOf_11 rfl rfl ?_
  refine aw_iadd cx 13 dX0_numberOf_12 rfl ?_
  refine aw_iaload cx 14 dX0_numberOf_13 rfl (by first | assumption | exact hc_0 | exact hc_1 | exact hc_2 | exact hc_3 | exact hc_4 | exact zz_gs _ _ _ | exact (hc_x (by omega)).trans (by first | assumption | exact hc_0 | exact hc_1 | exact hc_2 | exact hc_3 | exact hc_4 | exact zz_gs _ _ _) | exact (zz_gn (by omega)).trans (by first | assumption | exact hc_0 | exact hc_1 | exact hc_2 | exact hc_3 | exact hc_4 | exact zz_gs _ _ _)) ⟨by omega, by omega⟩ (by decide) ?_
  refine aw_ireturn cx dX0_numberOf_14 ?_
  refine hRet _ _ True.intro rfl ?_
  exact k _ (by rw [show (l * 5 + i) * 5 + j = 25 * l + 5 * i + j by omega])
set_option maxRecDepth 100000 in
set_option maxHeartbeats 4000000 in
theorem s_X0_reverseOf {h : AH} {Q : Option AV → AH → Prop} {o : Nat} {n r f : Int} {C F : Int → Int} {i : Int} (hO : zz_get h o = cCol o n r f) (hC : zz_get h (o + 1) = cA 64 C) (hF : zz_get h (o + 2) = cA 5 F) (hi : 0 ≤ i ∧ i < 5) (hf : -1 ≤ F i ∧ F i < 64) (k : ∀ v, v = (if F i = -1 then 0 else C (8 * (F i % 8) + F i / 8)) → Q (some (vI v)) h) : MC mX0_reverseOf [vR o, vI i] h Q := by
  refine mc_start mX0_reverseOf RX0 "reverseOf" ⟨rfl, rfl, by decide +kernel⟩ [some (vR o), some (vI i), none] ⟨1, rfl⟩ rfl (fun X cx hRm hNS hRet => ?_)
  refine aw_aload_n cx 1 dX0_reverseOf_0 rfl rfl ?_
  refine aw_getfield cx 4 dX0_reverseOf_1 rfl fdX0_15 (by first | assumption | exact hc_0 | exact hc_1 | exact hc_2 | exact hc_3 | exact hc_4 | exact zz_gs _ _ _ | exact (hc_x (by omega)).trans (by first | assumption | exact hc_0 | exact hc_1 | exact hc_2 | exact hc_3 | exact hc_4 | exact zz_gs _ _ _) | exact (zz_gn (by omega)).trans (by first | assumption | exact hc_0 | exact hc_1 | exact hc_2 | exact hc_3 | exact hc_4 | exact zz_gs _ _ _)) (by rfl) ?_
  refine aw_iload_n cx 5 dX0_reverseOf_4 rfl rfl ?_
  refine aw_iaload cx 6 dX0_reverseOf_5 rfl (by first | assumption | exact hc_0 | exact hc_1 | exact hc_2 | exact hc_3 | exact hc_4 | exact zz_gs _ _ _ | exact (hc_x (by omega)).trans (by first | assumption | exact hc_0 | exact hc_1 | exact hc_2 | exact hc_3 | exact hc_4 | exact zz_gs _ _ _) | exact (zz_gn (by omega)).trans (by first | assumption | exact hc_0 | exact hc_1 | exact hc_2 | exact hc_3 | exact hc_4 | exact zz_gs _ _ _)) ⟨by omega, by omega⟩ (by decide) ?_
  refine aw_istore_n cx 7 2 dX0_reverseOf_6 rfl rfl ⟨Nat.le_of_ble_eq_true rfl, Nat.le_of_ble_eq_true rfl⟩ rfl ?_
  dsimp only [List.set]
  refine aw_iload_n cx 8 dX0_reverseOf_7 rfl rfl ?_
  refine aw_iconst cx 9 dX0_reverseOf_8 rfl ?_
  refine aw_icmp_ne cx 12 14 dX0_reverseOf_9 rfl (by decide) ⟨⟨by omega, by omega⟩, ⟨by omega, by omega⟩⟩ (fun c9 => ?_) (fun c9 => ?_)
  · refine aw_aload_n cx 15 dX0_reverseOf_14 rfl rfl ?_
    refine aw_iload_n cx 16 dX0_reverseOf_15 rfl rfl ?_
    refine aw_bipush cx 18 dX0_reverseOf_16 rfl (by decide +kernel) ?_
    refine aw_iremN cx 19 dX0_reverseOf_18 rfl ⟨by omega, by omega, by omega, by omega⟩ ?_
    refine aw_iload_n cx 20 dX0_reverseOf_19 rfl rfl ?_
    refine aw_bipush cx 22 dX0_reverseOf_20 rfl (by decide +kernel) ?_
    refine aw_idivN cx 23 dX0_reverseOf_22 rfl ⟨by omega, by omega, by omega, by omega⟩ ?_
    refine aw_V2v cx 26 mX0_colourOf (ci := 0) dX0_reverseOf_23 rfl okmX0_colourOf lkX0_41 (by first | assumption | exact hc_0 | exact hc_1 | exact hc_2 | exact hc_3 | exact hc_4 | exact zz_gs _ _ _ | exact (hc_x (by omega)).trans (by first | assumption | exact hc_0 | exact hc_1 | exact hc_2 | exact hc_3 | exact hc_4 | exact zz_gs _ _ _) | exact (zz_gn (by omega)).trans (by first | assumption | exact hc_0 | exact hc_1 | exact hc_2 | exact hc_3 | exact hc_4 | exact zz_gs _ _ _)) ⟨rfl, by decide⟩ (zz_rc0 mX0_reverseOf hRm hNS rfl rfl) (Nat.le_of_ble_eq_true rfl) ?_
    refine s_X0_colourOf (by first | assumption | exact hc_0 | exact hc_1 | exact hc_2 | exact hc_3 | exact hc_4 | exact (hc_x (by omega)).trans (by first | assumption | exact hc_0 | exact hc_1 | exact hc_2 | exact hc_3 | exact hc_4)) (by first | assumption | exact hc_0 | exact hc_1 | exact hc_2 | exact hc_3 | exact hc_4 | exact (hc_x (by omega)).trans (by first | assumption | exact hc_0 | exact hc_1 | exact hc_2 | exact hc_3 | exact hc_4)) ⟨by omega, by omega⟩ ⟨by omega, by omega⟩ (fun v23 e23 => ⟨_, rfl, ?_⟩)
    refine aw_ireturn cx dX0_reverseOf_26 ?_
    refine hRet _ _ True.intro rfl ?_
    exact k _ (by rw [e23, if_neg c9])
  · refine aw_iconst cx 13 dX0_reverseOf_12 rfl ?_
    refine aw_ireturn cx dX0_reverseOf_13 ?_
    refine hRet _ _ True.intro rfl ?_
    exact k _ (by rw [if_pos c9])
end
section
set_option maxRecDepth 100000 in
set_option maxHeartbeats 4000000 in
theorem s_X0_degreeOf {h : AH} {Q : Option AV → AH → Prop} {o : Nat} {C F Nu Co : Int → Int} {n r f : Int} {g : Gr} (hn : 1 ≤ n ∧ n ≤ 8) (hA : ag n C g) (hg : rgn n g) {i : Int} (hi : 0 ≤ i ∧ i < 5) (k : ∀ v, v = dg n g i → Q (some (vI v)) (hcol h o C F Nu Co n r f)) : MC mX0_degreeOf [vR o, vI i] (hcol h o C F Nu Co n r f) Q := by
  refine mc_start mX0_degreeOf RX0 "degreeOf" ⟨rfl, rfl, by decide +kernel⟩ [some (vR o), some (vI i), none, none] ⟨2, rfl⟩ rfl (fun X cx hRm hNS hRet => ?_)
  refine aw_iconst cx 1 dX0_degreeOf_0 rfl ?_
  refine aw_istore_n cx 2 2 dX0_degreeOf_1 rfl rfl ⟨Nat.le_of_ble_eq_true rfl, Nat.le_of_ble_eq_true rfl⟩ rfl ?_
  dsimp only [List.set]
  refine aw_iconst cx 3 dX0_degreeOf_2 rfl ?_
  refine aw_istore_n cx 4 3 dX0_degreeOf_3 rfl rfl ⟨Nat.le_of_ble_eq_true rfl, Nat.le_of_ble_eq_true rfl⟩ rfl ?_
  dsimp only [List.set]
  have lp4 : ∀ (kf : Nat) (b s : Int), (n - b < (kf : Int)) → (0 ≤ b ∧ b ≤ n) → s = dg b g i → AW X 4 [some (vR o), some (vI i), some (vI s), some (vI b)] [] ((hcol h o C F Nu Co n r f)) := by
    intro kf
    induction kf with
    | zero =>
      intro b s hk hb hs
      exfalso
      omega
    | succ kf ih4 =>
      intro b s hk hb hs
      refine aw_iload_n cx 5 dX0_degreeOf_4 rfl rfl ?_
      refine aw_aload_n cx 6 dX0_degreeOf_5 rfl rfl ?_
      refine aw_getfield cx 9 dX0_degreeOf_6 rfl fdX0_24 (by first | assumption | exact hc_0 | exact hc_1 | exact hc_2 | exact hc_3 | exact hc_4 | exact zz_gs _ _ _ | exact (hc_x (by omega)).trans (by first | assumption | exact hc_0 | exact hc_1 | exact hc_2 | exact hc_3 | exact hc_4 | exact zz_gs _ _ _) | exact (zz_gn (by omega)).trans (by first | assumption | exact hc_0 | exact hc_1 | exact hc_2 | exact hc_3 | exact hc_4 | exact zz_gs _ _ _)) (by rfl) ?_
      refine aw_icmp_ge cx 12 31 dX0_degreeOf_9 rfl (by decide) ⟨⟨by omega, by omega⟩, ⟨by omega, by omega⟩⟩ (fun c9 => ?_) (fun c9 => ?_)
      · refine aw_iload_n cx 32 dX0_degreeOf_31 rfl rfl ?_
        refine aw_ireturn cx dX0_degreeOf_32 ?_
        refine hRet _ _ True.intro rfl ?_
        exact k _ (by rw [hs, show b = n by omega])
      · refine aw_aload_n cx 13 dX0_degreeOf_12 rfl rfl ?_
        refine aw_iconst cx 14 dX0_degreeOf_13 rfl ?_
        refine aw_iload_n cx 15 dX0_degreeOf_14 rfl rfl ?_
        refine aw_V2v cx 18 mX0_colourOf (ci := 0) dX0_degreeOf_15 rfl okmX0_colourOf lkX0_41 (by first | assumption | exact hc_0 | exact hc_1 | exact hc_2 | exact hc_3 | exact hc_4 | exact zz_gs _ _ _ | exact (hc_x (by omega)).trans (by first | assumption | exact hc_0 | exact hc_1 | exact hc_2 | exact hc_3 | exact hc_4 | exact zz_gs _ _ _) | exact (zz_gn (by omega)).trans (by first | assumption | exact hc_0 | exact hc_1 | exact hc_2 | exact hc_3 | exact hc_4 | exact zz_gs _ _ _)) ⟨rfl, by decide⟩ (zz_rc0 mX0_degreeOf hRm hNS rfl rfl) (Nat.le_of_ble_eq_true rfl) ?_
        refine s_X0_colourOf (by first | assumption | exact hc_0 | exact hc_1 | exact hc_2 | exact hc_3 | exact hc_4 | exact (hc_x (by omega)).trans (by first | assumption | exact hc_0 | exact hc_1 | exact hc_2 | exact hc_3 | exact hc_4)) (by first | assumption | exact hc_0 | exact hc_1 | exact hc_2 | exact hc_3 | exact hc_4 | exact (hc_x (by omega)).trans (by first | assumption | exact hc_0 | exact hc_1 | exact hc_2 | exact hc_3 | exact hc_4)) ⟨by omega, by omega⟩ ⟨by omega, by omega⟩ (fun v15 e15 => ⟨_, rfl, ?_⟩)
        have q15 := hA 0 b (by omega) (by omega) (by omega) (by omega)
        have w15 := hg 0 b (by omega) (by omega) (by omega) (by omega)
        have u15 := dg_b hb.1 g i
        refine aw_iload_n cx 19 dX0_degreeOf_18 rfl rfl ?_
        refine aw_icmp_ne cx 22 25 dX0_degreeOf_19 rfl (by decide) ⟨⟨by omega, by omega⟩, ⟨by omega, by omega⟩⟩ (fun c19 => ?_) (fun c19 => ?_)
        · refine aw_iinc cx 28 dX0_degreeOf_25 rfl rfl (Nat.le_of_ble_eq_true rfl) rfl ?_
          dsimp only [List.set]
          refine aw_goto cx 4 dX0_degreeOf_28 (by decide) ?_
          exact ih4 (b + 1) _ (by omega) ⟨by omega, by omega⟩ (by rw [dg_s hb.1]; split <;> omega)
        · refine aw_iinc cx 25 dX0_degreeOf_22 rfl rfl (Nat.le_of_ble_eq_true rfl) rfl ?_
          dsimp only [List.set]
          refine aw_iinc cx 28 dX0_degreeOf_25 rfl rfl (Nat.le_of_ble_eq_true rfl) rfl ?_
          dsimp only [List.set]
          refine aw_goto cx 4 dX0_degreeOf_28 (by decide) ?_
          exact ih4 (b + 1) _ (by omega) ⟨by omega, by omega⟩ (by rw [dg_s hb.1]; split <;> omega)
  exact lp4 (n.toNat + 1) 0 0 (by omega) ⟨by omega, by omega⟩ rfl
set_option maxRecDepth 100000 in
set_option maxHeartbeats 4000000 in
theorem s_X0_countBetween {h : AH} {Q : Option AV → AH → Prop} {o : Nat} {C F Nu Co : Int → Int} {n r f : Int} {g : Gr} (hn : 1 ≤ n ∧ n ≤ 8) (hA : ag n C g) (hg : rgn n g) {a b : Int} (ha : 0 ≤ a ∧ a < n) (hb : 0 ≤ b ∧ b < n) (k : ∀ Co', (∀ i j, 0 ≤ i → i < 5 → 0 ≤ j → j < 5 → Co' (5 * i + j) = cn n g a b i j) → Q none (hcol h o C F Nu Co' n r f)) : MC mX0_countBetween [vR o, vI a, vI b] (hcol h o C F Nu Co n r f) Q := by
  refine mc_start mX0_countBetween RX0 "countBetween" ⟨rfl, rfl, by decide +kernel⟩ [some (vR o), some (vI a), some (vI b), none] ⟨1, rfl⟩ rfl (fun X cx hRm hNS hRet => ?_)
  refine aw_iconst cx 1 dX0_countBetween_0 rfl ?_
  refine aw_istore_n cx 2 3 dX0_countBetween_1 rfl rfl ⟨Nat.le_of_ble_eq_true rfl, Nat.le_of_ble_eq_true rfl⟩ rfl ?_
  dsimp only [List.set]
  have lp2 : ∀ (kf : Nat) (x : Int) (Co' : Int → Int), (25 - x < (kf : Int)) → (0 ≤ x ∧ x ≤ 25) → (∀ y, 0 ≤ y → y < x → Co' y = 0) → AW X 2 [some (vR o), some (vI a), some (vI b), some (vI x)] [] (hcol h o C F Nu Co' n r f) := by
    intro kf
    induction kf with
    | zero =>
      intro x Co' hk hx hz
      exfalso
      omega
    | succ kf ih2 =>
      intro x Co' hk hx hz
      refine aw_iload_n cx 3 dX0_countBetween_2 rfl rfl ?_
      refine aw_bipush cx 5 dX0_countBetween_3 rfl (by decide +kernel) ?_
      refine aw_icmp_ge cx 8 21 dX0_countBetween_5 rfl (by decide) ⟨⟨by omega, by omega⟩, ⟨by omega, by omega⟩⟩ (fun c5 => ?_) (fun c5 => ?_)
      · refine aw_iconst cx 22 dX0_countBetween_21 rfl ?_
        refine aw_istore_n cx 23 3 dX0_countBetween_22 rfl rfl ⟨Nat.le_of_ble_eq_true rfl, Nat.le_of_ble_eq_true rfl⟩ rfl ?_
        dsimp only [List.set]
        have lp23 : ∀ (kf : Nat) (e : Int) (Ct : Int → Int), (n - e < (kf : Int)) → (0 ≤ e ∧ e ≤ n) → (∀ i j, 0 ≤ i → i < 5 → 0 ≤ j → j < 5 → Ct (5 * i + j) = cn e g a b i j) → AW X 23 [some (vR o), some (vI a), some (vI b), some (vI e)] [] (hcol h o C F Nu Ct n r f) := by
          intro kf
          induction kf with
          | zero =>
            intro e Ct hk he hI
            exfalso
            omega
          | succ kf ih23 =>
            intro e Ct hk he hI
            refine aw_iload_n cx 24 dX0_countBetween_23 rfl rfl ?_
            refine aw_aload_n cx 25 dX0_countBetween_24 rfl rfl ?_
            refine aw_getfield cx 28 dX0_countBetween_25 rfl fdX0_24 (by first | assumption | exact hc_0 | exact hc_1 | exact hc_2 | exact hc_3 | exact hc_4 | exact zz_gs _ _ _ | exact (hc_x (by omega)).trans (by first | assumption | exact hc_0 | exact hc_1 | exact hc_2 | exact hc_3 | exact hc_4 | exact zz_gs _ _ _) | exact (zz_gn (by omega)).trans (by first | assumption | exact hc_0 | exact hc_1 | exact hc_2 | exact hc_3 | exact hc_4 | exact zz_gs _ _ _)) (by rfl) ?_
            refine aw_icmp_ge cx 31 61 dX0_countBetween_28 rfl (by decide) ⟨⟨by omega, by omega⟩, ⟨by omega, by omega⟩⟩ (fun c28 => ?_) (fun c28 => ?_)
            · refine aw_return cx dX0_countBetween_61 ?_
              refine hRet _ _ rfl rfl ?_
              exact k _ (by rw [show e = n by omega] at hI; exact hI)
            · refine aw_aload_n cx 32 dX0_countBetween_31 rfl rfl ?_
              refine aw_getfield cx 35 dX0_countBetween_32 rfl fdX0_21 (by first | assumption | exact hc_0 | exact hc_1 | exact hc_2 | exact hc_3 | exact hc_4 | exact zz_gs _ _ _ | exact (hc_x (by omega)).trans (by first | assumption | exact hc_0 | exact hc_1 | exact hc_2 | exact hc_3 | exact hc_4 | exact zz_gs _ _ _) | exact (zz_gn (by omega)).trans (by first | assumption | exact hc_0 | exact hc_1 | exact hc_2 | exact hc_3 | exact hc_4 | exact zz_gs _ _ _)) (by rfl) ?_
              refine aw_aload_n cx 36 dX0_countBetween_35 rfl rfl ?_
              refine aw_iload_n cx 37 dX0_countBetween_36 rfl rfl ?_
              refine aw_iload_n cx 38 dX0_countBetween_37 rfl rfl ?_
              refine aw_V2v cx 41 mX0_colourOf (ci := 0) dX0_countBetween_38 rfl okmX0_colourOf lkX0_41 (by first | assumption | exact hc_0 | exact hc_1 | exact hc_2 | exact hc_3 | exact hc_4 | exact zz_gs _ _ _ | exact (hc_x (by omega)).trans (by first | assumption | exact hc_0 | exact hc_1 | exact hc_2 | exact hc_3 | exact hc_4 | exact zz_gs _ _ _) | exact (zz_gn (by omega)).trans (by first | assumption | exact hc_0 | exact hc_1 | exact hc_2 | exact hc_3 | exact hc_4 | exact zz_gs _ _ _)) ⟨rfl, by decide⟩ (zz_rc0 mX0_countBetween hRm hNS rfl rfl) (Nat.le_of_ble_eq_true rfl) ?_
              refine s_X0_colourOf (by first | assumption | exact hc_0 | exact hc_1 | exact hc_2 | exact hc_3 | exact hc_4 | exact (hc_x (by omega)).trans (by first | assumption | exact hc_0 | exact hc_1 | exact hc_2 | exact hc_3 | exact hc_4)) (by first | assumption | exact hc_0 | exact hc_1 | exact hc_2 | exact hc_3 | exact hc_4 | exact (hc_x (by omega)).trans (by first | assumption | exact hc_0 | exact hc_1 | exact hc_2 | exact hc_3 | exact hc_4)) ⟨by omega, by omega⟩ ⟨by omega, by omega⟩ (fun v38 e38 => ⟨_, rfl, ?_⟩)
              have q38 := hA a e (by omega) (by omega) (by omega) (by omega)
              have w38 := hg a e (by omega) (by omega) (by omega) (by omega)
              refine aw_iconst cx 42 dX0_countBetween_41 rfl ?_
              refine aw_imul cx 43 dX0_countBetween_42 rfl ?_
              refine aw_aload_n cx 44 dX0_countBetween_43 rfl rfl ?_
              refine aw_iload_n cx 45 dX0_countBetween_44 rfl rfl ?_
              refine aw_iload_n cx 46 dX0_countBetween_45 rfl rfl ?_
              refine aw_V2v cx 49 mX0_colourOf (ci := 0) dX0_countBetween_46 rfl okmX0_colourOf lkX0_41 (by first | assumption | exact hc_0 | exact hc_1 | exact hc_2 | exact hc_3 | exact hc_4 | exact zz_gs _ _ _ | exact (hc_x (by omega)).trans (by first | assumption | exact hc_0 | exact hc_1 | exact hc_2 | exact hc_3 | exact hc_4 | exact zz_gs _ _ _) | exact (zz_gn (by omega)).trans (by first | assumption | exact hc_0 | exact hc_1 | exact hc_2 | exact hc_3 | exact hc_4 | exact zz_gs _ _ _)) ⟨rfl, by decide⟩ (zz_rc0 mX0_countBetween hRm hNS rfl rfl) (Nat.le_of_ble_eq_true rfl) ?_
              refine s_X0_colourOf (by first | assumption | exact hc_0 | exact hc_1 | exact hc_2 | exact hc_3 | exact hc_4 | exact (hc_x (by omega)).trans (by first | assumption | exact hc_0 | exact hc_1 | exact hc_2 | exact hc_3 | exact hc_4)) (by first | assumption | exact hc_0 | exact hc_1 | exact hc_2 | exact hc_3 | exact hc_4 | exact (hc_x (by omega)).trans (by first | assumption | exact hc_0 | exact hc_1 | exact hc_2 | exact hc_3 | exact hc_4)) ⟨by omega, by omega⟩ ⟨by omega, by omega⟩ (fun v46 e46 => ⟨_, rfl, ?_⟩)
              have q46 := hA e b (by omega) (by omega) (by omega) (by omega)
              have w46 := hg e b (by omega) (by omega) (by omega) (by omega)
              refine aw_iadd cx 50 dX0_countBetween_49 rfl ?_
              refine aw_dup2 cx 51 dX0_countBetween_50 rfl ⟨rfl, rfl⟩ ?_
              refine aw_iaload cx 52 dX0_countBetween_51 rfl (by first | assumption | exact hc_0 | exact hc_1 | exact hc_2 | exact hc_3 | exact hc_4 | exact zz_gs _ _ _ | exact (hc_x (by omega)).trans (by first | assumption | exact hc_0 | exact hc_1 | exact hc_2 | exact hc_3 | exact hc_4 | exact zz_gs _ _ _) | exact (zz_gn (by omega)).trans (by first | assumption | exact hc_0 | exact hc_1 | exact hc_2 | exact hc_3 | exact hc_4 | exact zz_gs _ _ _)) ⟨by omega, by omega⟩ (by decide) ?_
              refine aw_iconst cx 53 dX0_countBetween_52 rfl ?_
              refine aw_iadd cx 54 dX0_countBetween_53 rfl ?_
              refine aw_iastore cx 55 dX0_countBetween_54 rfl (by first | assumption | exact hc_0 | exact hc_1 | exact hc_2 | exact hc_3 | exact hc_4 | exact zz_gs _ _ _ | exact (hc_x (by omega)).trans (by first | assumption | exact hc_0 | exact hc_1 | exact hc_2 | exact hc_3 | exact hc_4 | exact zz_gs _ _ _) | exact (zz_gn (by omega)).trans (by first | assumption | exact hc_0 | exact hc_1 | exact hc_2 | exact hc_3 | exact hc_4 | exact zz_gs _ _ _)) ⟨by omega, by omega⟩ (by decide) ?_
              first | rw [hp_1] | rw [hp_2] | rw [hp_3] | rw [hp_4] | rw [hp_0]
              refine aw_iinc cx 58 dX0_countBetween_55 rfl rfl (Nat.le_of_ble_eq_true rfl) rfl ?_
              dsimp only [List.set]
              refine aw_goto cx 23 dX0_countBetween_58 (by decide) ?_
              exact ih23 (e + 1) _ (by omega) ⟨by omega, by omega⟩ (fun i j i0 i1 j0 j1 => by
                rw [cn_s he.1]
                unfold zz_up
                have q := hI i j i0 i1 j0 j1
                by_cases hh : 5 * i + j = v38 * 5 + v46
                · rw [if_pos hh, if_pos (by omega), ← hh, q]
                · rw [if_neg hh, if_neg (by omega), q])
        exact lp23 (n.toNat + 1) 0 _ (by omega) ⟨by omega, by omega⟩ (fun i j i0 i1 j0 j1 => by rw [hz _ (by omega) (by omega)]; rfl)
      · refine aw_aload_n cx 9 dX0_countBetween_8 rfl rfl ?_
        refine aw_getfield cx 12 dX0_countBetween_9 rfl fdX0_21 (by first | assumption | exact hc_0 | exact hc_1 | exact hc_2 | exact hc_3 | exact hc_4 | exact zz_gs _ _ _ | exact (hc_x (by omega)).trans (by first | assumption | exact hc_0 | exact hc_1 | exact hc_2 | exact hc_3 | exact hc_4 | exact zz_gs _ _ _) | exact (zz_gn (by omega)).trans (by first | assumption | exact hc_0 | exact hc_1 | exact hc_2 | exact hc_3 | exact hc_4 | exact zz_gs _ _ _)) (by rfl) ?_
        refine aw_iload_n cx 13 dX0_countBetween_12 rfl rfl ?_
        refine aw_iconst cx 14 dX0_countBetween_13 rfl ?_
        refine aw_iastore cx 15 dX0_countBetween_14 rfl (by first | assumption | exact hc_0 | exact hc_1 | exact hc_2 | exact hc_3 | exact hc_4 | exact zz_gs _ _ _ | exact (hc_x (by omega)).trans (by first | assumption | exact hc_0 | exact hc_1 | exact hc_2 | exact hc_3 | exact hc_4 | exact zz_gs _ _ _) | exact (zz_gn (by omega)).trans (by first | assumption | exact hc_0 | exact hc_1 | exact hc_2 | exact hc_3 | exact hc_4 | exact zz_gs _ _ _)) ⟨by omega, by omega⟩ (by decide) ?_
        first | rw [hp_1] | rw [hp_2] | rw [hp_3] | rw [hp_4] | rw [hp_0]
        refine aw_iinc cx 18 dX0_countBetween_15 rfl rfl (Nat.le_of_ble_eq_true rfl) rfl ?_
        dsimp only [List.set]
        refine aw_goto cx 2 dX0_countBetween_18 (by decide) ?_
        exact ih2 (x + 1) _ (by omega) ⟨by omega, by omega⟩ (by
          intro y y0 y1
          unfold zz_up
          split
          · rfl
          · exact hz y y0 (by omega))
  exact lp2 26 0 Co (by omega) ⟨by omega, by omega⟩ (fun y y0 y1 => by omega)
set_option maxRecDepth 100000 in
set_option maxHeartbeats 4000000 in
theorem s_X0_keepCounts {h : AH} {Q : Option AV → AH → Prop} {o : Nat} {C F Nu Co : Int → Int} {n r f : Int} {l : Int} (hl : 0 ≤ l ∧ l < 5) (k : ∀ Nu', (∀ y, 0 ≤ y → y < 25 → Nu' (25 * l + y) = Co y) → (∀ z, (z < 25 * l ∨ 25 * l + 25 ≤ z) → Nu' z = Nu z) → Q none (hcol h o C F Nu' Co n r f)) : MC mX0_keepCounts [vR o, vI l] (hcol h o C F Nu Co n r f) Q := by
  refine mc_start mX0_keepCounts RX0 "keepCounts" ⟨rfl, rfl, by decide +kernel⟩ [some (vR o), some (vI l), none] ⟨1, rfl⟩ rfl (fun X cx hRm hNS hRet => ?_)
  refine aw_iconst cx 1 dX0_keepCounts_0 rfl ?_
  refine aw_istore_n cx 2 2 dX0_keepCounts_1 rfl rfl ⟨Nat.le_of_ble_eq_true rfl, Nat.le_of_ble_eq_true rfl⟩ rfl ?_
  dsimp only [List.set]
  have lp2 : ∀ (kf : Nat) (x : Int) (Nt : Int → Int), (25 - x < (kf : Int)) → (0 ≤ x ∧ x ≤ 25) → (∀ y, 0 ≤ y → y < x → Nt (25 * l + y) = Co y) → (∀ z, (z < 25 * l ∨ 25 * l + 25 ≤ z) → Nt z = Nu z) → AW X 2 [some (vR o), some (vI l), some (vI x)] [] (hcol h o C F Nt Co n r f) := by
    intro kf
    induction kf with
    | zero =>
      intro x Nt hk hx hy hz
      exfalso
      omega
    | succ kf ih2 =>
      intro x Nt hk hx hy hz
      refine aw_iload_n cx 3 dX0_keepCounts_2 rfl rfl ?_
      refine aw_bipush cx 5 dX0_keepCounts_3 rfl (by decide +kernel) ?_
      refine aw_icmp_ge cx 8 32 dX0_keepCounts_5 rfl (by decide) ⟨⟨by omega, by omega⟩, ⟨by omega, by omega⟩⟩ (fun c5 => ?_) (fun c5 => ?_)
      · refine aw_return cx dX0_keepCounts_32 ?_
        refine hRet _ _ rfl rfl ?_
        exact k _ (by rw [show x = 25 by omega] at hy; exact hy) hz
      · refine aw_aload_n cx 9 dX0_keepCounts_8 rfl rfl ?_
        refine aw_getfield cx 12 dX0_keepCounts_9 rfl fdX0_18 (by first | assumption | exact hc_0 | exact hc_1 | exact hc_2 | exact hc_3 | exact hc_4 | exact zz_gs _ _ _ | exact (hc_x (by omega)).trans (by first | assumption | exact hc_0 | exact hc_1 | exact hc_2 | exact hc_3 | exact hc_4 | exact zz_gs _ _ _) | exact (zz_gn (by omega)).trans (by first | assumption | exact hc_0 | exact hc_1 | exact hc_2 | exact hc_3 | exact hc_4 | exact zz_gs _ _ _)) (by rfl) ?_
        refine aw_iload_n cx 13 dX0_keepCounts_12 rfl rfl ?_
        refine aw_iconst cx 14 dX0_keepCounts_13 rfl ?_
        refine aw_imul cx 15 dX0_keepCounts_14 rfl ?_
        refine aw_iconst cx 16 dX0_keepCounts_15 rfl ?_
        refine aw_imul cx 17 dX0_keepCounts_16 rfl ?_
        refine aw_iload_n cx 18 dX0_keepCounts_17 rfl rfl ?_
        refine aw_iadd cx 19 dX0_keepCounts_18 rfl ?_
        refine aw_aload_n cx 20 dX0_keepCounts_19 rfl rfl ?_
        refine aw_getfield cx 23 dX0_keepCounts_20 rfl fdX0_21 (by first | assumption | exact hc_0 | exact hc_1 | exact hc_2 | exact hc_3 | exact hc_4 | exact zz_gs _ _ _ | exact (hc_x (by omega)).trans (by first | assumption | exact hc_0 | exact hc_1 | exact hc_2 | exact hc_3 | exact hc_4 | exact zz_gs _ _ _) | exact (zz_gn (by omega)).trans (by first | assumption | exact hc_0 | exact hc_1 | exact hc_2 | exact hc_3 | exact hc_4 | exact zz_gs _ _ _)) (by rfl) ?_
        refine aw_iload_n cx 24 dX0_keepCounts_23 rfl rfl ?_
        refine aw_iaload cx 25 dX0_keepCounts_24 rfl (by first | assumption | exact hc_0 | exact hc_1 | exact hc_2 | exact hc_3 | exact hc_4 | exact zz_gs _ _ _ | exact (hc_x (by omega)).trans (by first | assumption | exact hc_0 | exact hc_1 | exact hc_2 | exact hc_3 | exact hc_4 | exact zz_gs _ _ _) | exact (zz_gn (by omega)).trans (by first | assumption | exact hc_0 | exact hc_1 | exact hc_2 | exact hc_3 | exact hc_4 | exact zz_gs _ _ _)) ⟨by omega, by omega⟩ (by decide) ?_
        refine aw_iastore cx 26 dX0_keepCounts_25 rfl (by first | assumption | exact hc_0 | exact hc_1 | exact hc_2 | exact hc_3 | exact hc_4 | exact zz_gs _ _ _ | exact (hc_x (by omega)).trans (by first | assumption | exact hc_0 | exact hc_1 | exact hc_2 | exact hc_3 | exact hc_4 | exact zz_gs _ _ _) | exact (zz_gn (by omega)).trans (by first | assumption | exact hc_0 | exact hc_1 | exact hc_2 | exact hc_3 | exact hc_4 | exact zz_gs _ _ _)) ⟨by omega, by omega⟩ (by decide) ?_
        first | rw [hp_1] | rw [hp_2] | rw [hp_3] | rw [hp_4] | rw [hp_0]
        refine aw_iinc cx 29 dX0_keepCounts_26 rfl rfl (Nat.le_of_ble_eq_true rfl) rfl ?_
        dsimp only [List.set]
        refine aw_goto cx 2 dX0_keepCounts_29 (by decide) ?_
        exact ih2 (x + 1) _ (by omega) ⟨by omega, by omega⟩ (fun y y0 y1 => by
          unfold zz_up
          by_cases e : y = x
          · subst e
            rw [if_pos (by omega)]
          · rw [if_neg (by omega)]
            exact hy y y0 (by omega)) (fun z z0 => by
          unfold zz_up
          rw [if_neg (by omega)]
          exact hz z z0)
  exact lp2 26 0 Nu (by omega) ⟨by omega, by omega⟩ (fun y y0 y1 => by omega) (fun z _ => rfl)
set_option maxRecDepth 100000 in
set_option maxHeartbeats 4000000 in
theorem s_X0_countsAreKept {h : AH} {Q : Option AV → AH → Prop} {o : Nat} {C F Nu Co : Int → Int} {n r f : Int} {l : Int} (hl : 0 ≤ l ∧ l < 5) (hb : ∀ y, 0 ≤ y → y < 25 → R32 (Co y) ∧ R32 (Nu (25 * l + y))) (k : ∀ v, ((v = 1 ∧ ∀ y, 0 ≤ y → y < 25 → Nu (25 * l + y) = Co y) ∨ (v = 0 ∧ ∃ y, 0 ≤ y ∧ y < 25 ∧ Nu (25 * l + y) ≠ Co y)) → Q (some (vI v)) (hcol h o C F Nu Co n r f)) : MC mX0_countsAreKept [vR o, vI l] (hcol h o C F Nu Co n r f) Q := by
  refine mc_start mX0_countsAreKept RX0 "countsAreKept" ⟨rfl, rfl, by decide +kernel⟩ [some (vR o), some (vI l), none] ⟨1, rfl⟩ rfl (fun X cx hRm hNS hRet => ?_)
  refine aw_iconst cx 1 dX0_countsAreKept_0 rfl ?_
  refine aw_istore_n cx 2 2 dX0_countsAreKept_1 rfl rfl ⟨Nat.le_of_ble_eq_true rfl, Nat.le_of_ble_eq_true rfl⟩ rfl ?_
  dsimp only [List.set]
  have lp2 : ∀ (kf : Nat) (x : Int), (25 - x < (kf : Int)) → (0 ≤ x ∧ x ≤ 25) → (∀ y, 0 ≤ y → y < x → Nu (25 * l + y) = Co y) → AW X 2 [some (vR o), some (vI l), some (vI x)] [] (hcol h o C F Nu Co n r f) := by
    intro kf
    induction kf with
    | zero =>
      intro x hk hx hy
      exfalso
      omega
    | succ kf ih2 =>
      intro x hk hx hy
      refine aw_iload_n cx 3 dX0_countsAreKept_2 rfl rfl ?_
      refine aw_bipush cx 5 dX0_countsAreKept_3 rfl (by decide +kernel) ?_
      refine aw_icmp_ge cx 8 37 dX0_countsAreKept_5 rfl (by decide) ⟨⟨by omega, by omega⟩, ⟨by omega, by omega⟩⟩ (fun c5 => ?_) (fun c5 => ?_)
      · refine aw_iconst cx 38 dX0_countsAreKept_37 rfl ?_
        refine aw_ireturn cx dX0_countsAreKept_38 ?_
        refine hRet _ _ (by first | exact Or.inl rfl | exact Or.inr rfl | assumption) rfl ?_
        exact k _ (Or.inl ⟨rfl, by rw [show x = 25 by omega] at hy; exact hy⟩)
      · refine aw_aload_n cx 9 dX0_countsAreKept_8 rfl rfl ?_
        refine aw_getfield cx 12 dX0_countsAreKept_9 rfl fdX0_18 (by first | assumption | exact hc_0 | exact hc_1 | exact hc_2 | exact hc_3 | exact hc_4 | exact zz_gs _ _ _ | exact (hc_x (by omega)).trans (by first | assumption | exact hc_0 | exact hc_1 | exact hc_2 | exact hc_3 | exact hc_4 | exact zz_gs _ _ _) | exact (zz_gn (by omega)).trans (by first | assumption | exact hc_0 | exact hc_1 | exact hc_2 | exact hc_3 | exact hc_4 | exact zz_gs _ _ _)) (by rfl) ?_
        refine aw_iload_n cx 13 dX0_countsAreKept_12 rfl rfl ?_
        refine aw_iconst cx 14 dX0_countsAreKept_13 rfl ?_
        refine aw_imul cx 15 dX0_countsAreKept_14 rfl ?_
        refine aw_iconst cx 16 dX0_countsAreKept_15 rfl ?_
        refine aw_imul cx 17 dX0_countsAreKept_16 rfl ?_
        refine aw_iload_n cx 18 dX0_countsAreKept_17 rfl rfl ?_
        refine aw_iadd cx 19 dX0_countsAreKept_18 rfl ?_
        refine aw_iaload cx 20 dX0_countsAreKept_19 rfl (by first | assumption | exact hc_0 | exact hc_1 | exact hc_2 | exact hc_3 | exact hc_4 | exact zz_gs _ _ _ | exact (hc_x (by omega)).trans (by first | assumption | exact hc_0 | exact hc_1 | exact hc_2 | exact hc_3 | exact hc_4 | exact zz_gs _ _ _) | exact (zz_gn (by omega)).trans (by first | assumption | exact hc_0 | exact hc_1 | exact hc_2 | exact hc_3 | exact hc_4 | exact zz_gs _ _ _)) ⟨by omega, by omega⟩ (by decide) ?_
        refine aw_aload_n cx 21 dX0_countsAreKept_20 rfl rfl ?_
        refine aw_getfield cx 24 dX0_countsAreKept_21 rfl fdX0_21 (by first | assumption | exact hc_0 | exact hc_1 | exact hc_2 | exact hc_3 | exact hc_4 | exact zz_gs _ _ _ | exact (hc_x (by omega)).trans (by first | assumption | exact hc_0 | exact hc_1 | exact hc_2 | exact hc_3 | exact hc_4 | exact zz_gs _ _ _) | exact (zz_gn (by omega)).trans (by first | assumption | exact hc_0 | exact hc_1 | exact hc_2 | exact hc_3 | exact hc_4 | exact zz_gs _ _ _)) (by rfl) ?_
        refine aw_iload_n cx 25 dX0_countsAreKept_24 rfl rfl ?_
        have e25 : 25 * l + x = l * 5 * 5 + x := by omega
        have w25 := hb x (by omega) (by omega)
        rw [e25] at w25
        refine aw_iaload cx 26 dX0_countsAreKept_25 rfl (by first | assumption | exact hc_0 | exact hc_1 | exact hc_2 | exact hc_3 | exact hc_4 | exact zz_gs _ _ _ | exact (hc_x (by omega)).trans (by first | assumption | exact hc_0 | exact hc_1 | exact hc_2 | exact hc_3 | exact hc_4 | exact zz_gs _ _ _) | exact (zz_gn (by omega)).trans (by first | assumption | exact hc_0 | exact hc_1 | exact hc_2 | exact hc_3 | exact hc_4 | exact zz_gs _ _ _)) ⟨by omega, by omega⟩ (by decide) ?_
        refine aw_icmp_eq cx 29 31 dX0_countsAreKept_26 rfl (by decide) ⟨w25.2, w25.1⟩ (fun c26 => ?_) (fun c26 => ?_)
        · refine aw_iinc cx 34 dX0_countsAreKept_31 rfl rfl (Nat.le_of_ble_eq_true rfl) rfl ?_
          dsimp only [List.set]
          refine aw_goto cx 2 dX0_countsAreKept_34 (by decide) ?_
          exact ih2 (x + 1) (by omega) ⟨by omega, by omega⟩ (fun y y0 y1 => by
            by_cases e : y = x
            · subst e
              rw [e25]
              exact c26
            · exact hy y y0 (by omega))
        · refine aw_iconst cx 30 dX0_countsAreKept_29 rfl ?_
          refine aw_ireturn cx dX0_countsAreKept_30 ?_
          refine hRet _ _ (by first | exact Or.inl rfl | exact Or.inr rfl | assumption) rfl ?_
          exact k _ (Or.inr ⟨rfl, x, by omega, by omega, by rw [e25]; exact c26⟩)
  exact lp2 26 0 (by omega) ⟨by omega, by omega⟩ (fun y y0 y1 => by omega)
set_option maxRecDepth 100000 in
set_option maxHeartbeats 4000000 in
theorem s_X0_findFirsts {h : AH} {Q : Option AV → AH → Prop} {o : Nat} {C F Nu Co : Int → Int} {n r f : Int} {g : Gr} (hn : 1 ≤ n ∧ n ≤ 8) (hA : ag n C g) (hg : rgn n g) (k : ∀ F', (∀ c, 0 ≤ c → c < 5 → F' c = fp n g c) → Q none (hcol h o C F' Nu Co n (rk n g) f)) : MC mX0_findFirsts [vR o] (hcol h o C F Nu Co n r f) Q := by
  refine mc_start mX0_findFirsts RX0 "findFirsts" ⟨rfl, rfl, by decide +kernel⟩ [some (vR o), none, none, none] ⟨3, rfl⟩ rfl (fun X cx hRm hNS hRet => ?_)
  refine aw_iconst cx 1 dX0_findFirsts_0 rfl ?_
  refine aw_istore_n cx 2 1 dX0_findFirsts_1 rfl rfl ⟨Nat.le_of_ble_eq_true rfl, Nat.le_of_ble_eq_true rfl⟩ rfl ?_
  dsimp only [List.set]
  have lp2 : ∀ (kf : Nat) (x : Int) (Ft : Int → Int), (5 - x < (kf : Int)) → (0 ≤ x ∧ x ≤ 5) → (∀ y, 0 ≤ y → y < x → Ft y = -1) → AW X 2 [some (vR o), some (vI x), none, none] [] (hcol h o C Ft Nu Co n r f) := by
    intro kf
    induction kf with
    | zero =>
      intro x Ft hk hx hz
      exfalso
      omega
    | succ kf ih2 =>
      intro x Ft hk hx hz
      refine aw_iload_n cx 3 dX0_findFirsts_2 rfl rfl ?_
      refine aw_iconst cx 4 dX0_findFirsts_3 rfl ?_
      refine aw_icmp_ge cx 7 20 dX0_findFirsts_4 rfl (by decide) ⟨⟨by omega, by omega⟩, ⟨by omega, by omega⟩⟩ (fun c4 => ?_) (fun c4 => ?_)
      · refine aw_aload_n cx 21 dX0_findFirsts_20 rfl rfl ?_
        refine aw_iconst cx 22 dX0_findFirsts_21 rfl ?_
        refine aw_putfield cx 25 dX0_findFirsts_22 rfl fdX0_28 (by first | assumption | exact hc_0 | exact hc_1 | exact hc_2 | exact hc_3 | exact hc_4 | exact zz_gs _ _ _) (by exact Nat.le_of_ble_eq_true rfl) rfl ?_
        dsimp only [List.set]
        first | rw [hp_1] | rw [hp_2] | rw [hp_3] | rw [hp_4] | rw [hp_0]
        refine aw_iconst cx 26 dX0_findFirsts_25 rfl ?_
        refine aw_istore_n cx 27 1 dX0_findFirsts_26 rfl rfl ⟨Nat.le_of_ble_eq_true rfl, Nat.le_of_ble_eq_true rfl⟩ rfl ?_
        dsimp only [List.set]
        have lp27 : ∀ (kf : Nat) (a m : Int) (Ga : Int → Int), (n - a < (kf : Int)) → (0 ≤ a ∧ a ≤ n) → m = 1 + mx2 n g a → (∀ c, 0 ≤ c → c < 5 → Ga c + 1 = sc1 a (fun x => sc1 n (tF g c x))) → AW X 27 [some (vR o), some (vI a), none, none] [] (hcol h o C Ga Nu Co n m f) := by
          intro kf
          induction kf with
          | zero =>
            intro a m Ga hk ha hm hF
            exfalso
            omega
          | succ kf ih27 =>
            intro a m Ga hk ha hm hF
            refine aw_iload_n cx 28 dX0_findFirsts_27 rfl rfl ?_
            refine aw_aload_n cx 29 dX0_findFirsts_28 rfl rfl ?_
            refine aw_getfield cx 32 dX0_findFirsts_29 rfl fdX0_24 (by first | assumption | exact hc_0 | exact hc_1 | exact hc_2 | exact hc_3 | exact hc_4 | exact zz_gs _ _ _) (by rfl) ?_
            refine aw_icmp_ge cx 35 100 dX0_findFirsts_32 rfl (by decide) ⟨⟨by omega, by omega⟩, ⟨by omega, by omega⟩⟩ (fun c32 => ?_) (fun c32 => ?_)
            · refine aw_return cx dX0_findFirsts_100 ?_
              refine hRet _ _ rfl rfl ?_
              have e100 : a = n := by omega
              rw [e100] at hm hF
              rw [hm]
              exact k _ (fun c c0 c1 => by have q := hF c c0 c1; rw [fp_tF]; omega)
            · refine aw_iconst cx 36 dX0_findFirsts_35 rfl ?_
              refine aw_istore_n cx 37 2 dX0_findFirsts_36 rfl rfl ⟨Nat.le_of_ble_eq_true rfl, Nat.le_of_ble_eq_true rfl⟩ rfl ?_
              dsimp only [List.set]
              have lp37 : ∀ (kf : Nat) (b m2 : Int) (Gb : Int → Int), (n - b < (kf : Int)) → (0 ≤ b ∧ b ≤ n) → m2 = 1 + mx1 b (g a) (mx2 n g a) → (∀ c, 0 ≤ c → c < 5 → Gb c + 1 = if sc1 a (fun x => sc1 n (tF g c x)) = 0 then sc1 b (tF g c a) else sc1 a (fun x => sc1 n (tF g c x))) → AW X 37 [some (vR o), some (vI a), some (vI b), none] [] (hcol h o C Gb Nu Co n m2 f) := by
                intro kf
                induction kf with
                | zero =>
                  intro b m2 Gb hk hb hm2 hF2
                  exfalso
                  omega
                | succ kf ih37 =>
                  intro b m2 Gb hk hb hm2 hF2
                  refine aw_iload_n cx 38 dX0_findFirsts_37 rfl rfl ?_
                  refine aw_aload_n cx 39 dX0_findFirsts_38 rfl rfl ?_
                  refine aw_getfield cx 42 dX0_findFirsts_39 rfl fdX0_24 (by first | assumption | exact hc_0 | exact hc_1 | exact hc_2 | exact hc_3 | exact hc_4 | exact zz_gs _ _ _) (by rfl) ?_
                  refine aw_icmp_ge cx 45 94 dX0_findFirsts_42 rfl (by decide) ⟨⟨by omega, by omega⟩, ⟨by omega, by omega⟩⟩ (fun c42 => ?_) (fun c42 => ?_)
                  · refine aw_iinc cx 97 dX0_findFirsts_94 rfl rfl (Nat.le_of_ble_eq_true rfl) rfl ?_
                    dsimp only [List.set]
                    refine aw_goto cx 27 dX0_findFirsts_97 (by decide) ?_
                    exact aw_weak (ih27 (a + 1) _ _ (by omega) ⟨by omega, by omega⟩ (by rw [hm2, mx2_n ha.1, show b = n by omega]) (fun c c0 c1 => by
                      have q := hF2 c c0 c1
                      rw [show b = n by omega] at q
                      rw [sc1_s ha.1]
                      exact q)) ⟨rfl, rfl, True.intro⟩
                  · refine aw_aload_n cx 46 dX0_findFirsts_45 rfl rfl ?_
                    refine aw_iload_n cx 47 dX0_findFirsts_46 rfl rfl ?_
                    refine aw_iload_n cx 48 dX0_findFirsts_47 rfl rfl ?_
                    refine aw_V2v cx 51 mX0_colourOf (ci := 0) dX0_findFirsts_48 rfl okmX0_colourOf lkX0_41 (by first | assumption | exact hc_0 | exact hc_1 | exact hc_2 | exact hc_3 | exact hc_4 | exact zz_gs _ _ _) ⟨rfl, by decide⟩ (zz_rc0 mX0_findFirsts hRm hNS rfl rfl) (Nat.le_of_ble_eq_true rfl) ?_
                    refine s_X0_colourOf (by first | assumption | exact hc_0 | exact hc_1 | exact hc_2 | exact hc_3 | exact hc_4 | exact (hc_x (by omega)).trans (by first | assumption | exact hc_0 | exact hc_1 | exact hc_2 | exact hc_3 | exact hc_4)) (by first | assumption | exact hc_0 | exact hc_1 | exact hc_2 | exact hc_3 | exact hc_4 | exact (hc_x (by omega)).trans (by first | assumption | exact hc_0 | exact hc_1 | exact hc_2 | exact hc_3 | exact hc_4)) ⟨by omega, by omega⟩ ⟨by omega, by omega⟩ (fun v48 e48 => ⟨_, rfl, ?_⟩)
                    have q48 := hA a b (by omega) (by omega) (by omega) (by omega)
                    have w48 := hg a b (by omega) (by omega) (by omega) (by omega)
                    have m48 := mx1_ge hb.1 (g a) (mx2 n g a)
                    have m49 := mx2_ge (n := n) (a := a) (by omega) ha.1 g
                    have m50 := mx1_le hb.1 (g a) (mx2 n g a) 4 (mx2_le (by omega) ha.1 (by omega) hg) (fun y y0 y1 => (hg a y (by omega) (by omega) y0 (by omega)).2)
                    have f48 := hF2 v48 (by omega) (by omega)
                    have f49 := ff_b (n := n) (a := a) (b := b) (g := g) (c := v48) (by omega) ⟨by omega, by omega⟩ ⟨by omega, by omega⟩
                    rw [← f48] at f49
                    refine aw_istore_n cx 52 3 dX0_findFirsts_51 rfl rfl ⟨Nat.le_of_ble_eq_true rfl, Nat.le_of_ble_eq_true rfl⟩ rfl ?_
                    dsimp only [List.set]
                    refine aw_aload_n cx 53 dX0_findFirsts_52 rfl rfl ?_
                    refine aw_getfield cx 56 dX0_findFirsts_53 rfl fdX0_15 (by first | assumption | exact hc_0 | exact hc_1 | exact hc_2 | exact hc_3 | exact hc_4 | exact zz_gs _ _ _) (by rfl) ?_
                    refine aw_iload_n cx 57 dX0_findFirsts_56 rfl rfl ?_
                    refine aw_iaload cx 58 dX0_findFirsts_57 rfl (by first | assumption | exact hc_0 | exact hc_1 | exact hc_2 | exact hc_3 | exact hc_4 | exact zz_gs _ _ _) ⟨by omega, by omega⟩ (by decide) ?_
                    refine aw_iconst cx 59 dX0_findFirsts_58 rfl ?_
                    refine aw_icmp_ne cx 62 74 dX0_findFirsts_59 rfl (by decide) ⟨⟨by omega, by omega⟩, ⟨by omega, by omega⟩⟩ (fun c59 => ?_) (fun c59 => ?_)
                    · refine aw_aload_n cx 75 dX0_findFirsts_74 rfl rfl ?_
                      refine aw_aload_n cx 76 dX0_findFirsts_75 rfl rfl ?_
                      refine aw_getfield cx 79 dX0_findFirsts_76 rfl fdX0_28 (by first | assumption | exact hc_0 | exact hc_1 | exact hc_2 | exact hc_3 | exact hc_4 | exact zz_gs _ _ _) (by rfl) ?_
                      refine aw_iload_n cx 80 dX0_findFirsts_79 rfl rfl ?_
                      refine aw_iconst cx 81 dX0_findFirsts_80 rfl ?_
                      refine aw_iadd cx 82 dX0_findFirsts_81 rfl ?_
                      refine aw_mmax cx 85 dX0_findFirsts_82 rfl lkX0_55 ⟨by rw [hRm]; exact (Nat.le_of_ble_eq_true rfl), by rw [hRm]; exact (Nat.le_of_ble_eq_true rfl)⟩ (zz_rm0 hNS rfl) (by constructor <;> constructor <;> omega) (fun v82 e82 => ?_)
                      refine aw_putfield cx 88 dX0_findFirsts_85 rfl fdX0_28 (by first | assumption | exact hc_0 | exact hc_1 | exact hc_2 | exact hc_3 | exact hc_4 | exact zz_gs _ _ _) (by exact Nat.le_of_ble_eq_true rfl) rfl ?_
                      dsimp only [List.set]
                      first | rw [hp_1] | rw [hp_2] | rw [hp_3] | rw [hp_4] | rw [hp_0]
                      refine aw_iinc cx 91 dX0_findFirsts_88 rfl rfl (Nat.le_of_ble_eq_true rfl) rfl ?_
                      dsimp only [List.set]
                      refine aw_goto cx 37 dX0_findFirsts_91 (by decide) ?_
                      exact aw_weak (ih37 (b + 1) _ _ (by omega) ⟨by omega, by omega⟩ (by rw [mx1_n hb.1]; split <;> omega) (by first | exact ff_new (S := fun c => sc1 a (fun x => sc1 n (tF g c x))) ha.1 hb.1 hF2 (e48.trans q48) c59 | exact ff_old (S := fun c => sc1 a (fun x => sc1 n (tF g c x))) hb.1 hF2 (e48.trans q48) c59)) ⟨rfl, rfl, rfl, True.intro⟩
                    · refine aw_aload_n cx 63 dX0_findFirsts_62 rfl rfl ?_
                      refine aw_getfield cx 66 dX0_findFirsts_63 rfl fdX0_15 (by first | assumption | exact hc_0 | exact hc_1 | exact hc_2 | exact hc_3 | exact hc_4 | exact zz_gs _ _ _) (by rfl) ?_
                      refine aw_iload_n cx 67 dX0_findFirsts_66 rfl rfl ?_
                      refine aw_iload_n cx 68 dX0_findFirsts_67 rfl rfl ?_
                      refine aw_bipush cx 70 dX0_findFirsts_68 rfl (by decide +kernel) ?_
                      refine aw_imul cx 71 dX0_findFirsts_70 rfl ?_
                      refine aw_iload_n cx 72 dX0_findFirsts_71 rfl rfl ?_
                      refine aw_iadd cx 73 dX0_findFirsts_72 rfl ?_
                      refine aw_iastore cx 74 dX0_findFirsts_73 rfl (by first | assumption | exact hc_0 | exact hc_1 | exact hc_2 | exact hc_3 | exact hc_4 | exact zz_gs _ _ _) ⟨by omega, by omega⟩ (by decide) ?_
                      first | rw [hp_1] | rw [hp_2] | rw [hp_3] | rw [hp_4] | rw [hp_0]
                      refine aw_aload_n cx 75 dX0_findFirsts_74 rfl rfl ?_
                      refine aw_aload_n cx 76 dX0_findFirsts_75 rfl rfl ?_
                      refine aw_getfield cx 79 dX0_findFirsts_76 rfl fdX0_28 (by first | assumption | exact hc_0 | exact hc_1 | exact hc_2 | exact hc_3 | exact hc_4 | exact zz_gs _ _ _) (by rfl) ?_
                      refine aw_iload_n cx 80 dX0_findFirsts_79 rfl rfl ?_
                      refine aw_iconst cx 81 dX0_findFirsts_80 rfl ?_
                      refine aw_iadd cx 82 dX0_findFirsts_81 rfl ?_
                      refine aw_mmax cx 85 dX0_findFirsts_82 rfl lkX0_55 ⟨by rw [hRm]; exact (Nat.le_of_ble_eq_true rfl), by rw [hRm]; exact (Nat.le_of_ble_eq_true rfl)⟩ (zz_rm0 hNS rfl) (by constructor <;> constructor <;> omega) (fun v82 e82 => ?_)
                      refine aw_putfield cx 88 dX0_findFirsts_85 rfl fdX0_28 (by first | assumption | exact hc_0 | exact hc_1 | exact hc_2 | exact hc_3 | exact hc_4 | exact zz_gs _ _ _) (by exact Nat.le_of_ble_eq_true rfl) rfl ?_
                      dsimp only [List.set]
                      first | rw [hp_1] | rw [hp_2] | rw [hp_3] | rw [hp_4] | rw [hp_0]
                      refine aw_iinc cx 91 dX0_findFirsts_88 rfl rfl (Nat.le_of_ble_eq_true rfl) rfl ?_
                      dsimp only [List.set]
                      refine aw_goto cx 37 dX0_findFirsts_91 (by decide) ?_
                      exact aw_weak (ih37 (b + 1) _ _ (by omega) ⟨by omega, by omega⟩ (by rw [mx1_n hb.1]; split <;> omega) (by first | exact ff_new (S := fun c => sc1 a (fun x => sc1 n (tF g c x))) ha.1 hb.1 hF2 (e48.trans q48) c59 | exact ff_old (S := fun c => sc1 a (fun x => sc1 n (tF g c x))) hb.1 hF2 (e48.trans q48) c59)) ⟨rfl, rfl, rfl, True.intro⟩
              exact aw_weak (lp37 (n.toNat + 1) 0 m Ga (by omega) ⟨by omega, by omega⟩ hm (fun c c0 c1 => by
                have q := hF c c0 c1
                rw [q, sc1_0]
                split <;> omega)) ⟨rfl, rfl, rfl, True.intro⟩
        exact aw_weak (lp27 (n.toNat + 1) 0 1 _ (by omega) ⟨by omega, by omega⟩ rfl (fun c c0 c1 => by rw [hz c c0 (by omega)]; rfl)) ⟨rfl, rfl, True.intro⟩
      · refine aw_aload_n cx 8 dX0_findFirsts_7 rfl rfl ?_
        refine aw_getfield cx 11 dX0_findFirsts_8 rfl fdX0_15 (by first | assumption | exact hc_0 | exact hc_1 | exact hc_2 | exact hc_3 | exact hc_4 | exact zz_gs _ _ _) (by rfl) ?_
        refine aw_iload_n cx 12 dX0_findFirsts_11 rfl rfl ?_
        refine aw_iconst cx 13 dX0_findFirsts_12 rfl ?_
        refine aw_iastore cx 14 dX0_findFirsts_13 rfl (by first | assumption | exact hc_0 | exact hc_1 | exact hc_2 | exact hc_3 | exact hc_4 | exact zz_gs _ _ _) ⟨by omega, by omega⟩ (by decide) ?_
        first | rw [hp_1] | rw [hp_2] | rw [hp_3] | rw [hp_4] | rw [hp_0]
        refine aw_iinc cx 17 dX0_findFirsts_14 rfl rfl (Nat.le_of_ble_eq_true rfl) rfl ?_
        dsimp only [List.set]
        refine aw_goto cx 2 dX0_findFirsts_17 (by decide) ?_
        exact ih2 (x + 1) _ (by omega) ⟨by omega, by omega⟩ (by
          intro y y0 y1
          unfold zz_up
          split
          · rfl
          · exact hz y y0 (by omega))
  exact lp2 6 0 F (by omega) ⟨by omega, by omega⟩ (fun y y0 y1 => by omega)
end
section
set_option maxRecDepth 100000 in
set_option maxHeartbeats 4000000 in
theorem s_X0_misplacedZero {h : AH} {Q : Option AV → AH → Prop} {o : Nat} {C F Nu Co : Int → Int} {n r f : Int} {g : Gr} (hn : 1 ≤ n ∧ n ≤ 8) (hA : ag n C g) (hg : rgn n g) (k : ∀ v, v = sc n (tA g) → (0 ≤ v ∧ v < 1000) → Q (some (vI v)) (hcol h o C F Nu Co n r f)) : MC mX0_misplacedZero [vR o] (hcol h o C F Nu Co n r f) Q := by
  refine mc_start mX0_misplacedZero RX0 "misplacedZero" ⟨rfl, rfl, by decide +kernel⟩ [some (vR o), none, none] ⟨2, rfl⟩ rfl (fun X cx hRm hNS hRet => ?_)
  refine aw_iconst cx 1 dX0_misplacedZero_0 rfl ?_
  refine aw_istore_n cx 2 1 dX0_misplacedZero_1 rfl rfl ⟨Nat.le_of_ble_eq_true rfl, Nat.le_of_ble_eq_true rfl⟩ rfl ?_
  dsimp only [List.set]
  have lp2 : ∀ (kf : Nat) (a : Int), (n - a < (kf : Int)) → (0 ≤ a ∧ a ≤ n) → (∀ x y, 0 ≤ x → x < n → 0 ≤ y → y < n → x < a → tA g x y = 0) → AW X 2 [some (vR o), some (vI a), none] [] ((hcol h o C F Nu Co n r f)) := by
    intro kf
    induction kf with
    | zero =>
      intro a hk ha hz
      exfalso
      omega
    | succ kf ih2 =>
      intro a hk ha hz
      refine aw_iload_n cx 3 dX0_misplacedZero_2 rfl rfl ?_
      refine aw_aload_n cx 4 dX0_misplacedZero_3 rfl rfl ?_
      refine aw_getfield cx 7 dX0_misplacedZero_4 rfl fdX0_24 (by first | assumption | exact hc_0 | exact hc_1 | exact hc_2 | exact hc_3 | exact hc_4 | exact zz_gs _ _ _) (by rfl) ?_
      refine aw_icmp_ge cx 10 66 dX0_misplacedZero_7 rfl (by decide) ⟨⟨by omega, by omega⟩, ⟨by omega, by omega⟩⟩ (fun c7 => ?_) (fun c7 => ?_)
      · refine aw_iconst cx 67 dX0_misplacedZero_66 rfl ?_
        refine aw_ireturn cx dX0_misplacedZero_67 ?_
        refine hRet _ _ True.intro rfl ?_
        exact k _ (by rw [sc_zero (by omega) (fun x y x0 x1 y0 y1 => hz x y x0 x1 y0 y1 (by omega))]) ⟨by decide, by decide⟩
      · refine aw_iconst cx 11 dX0_misplacedZero_10 rfl ?_
        refine aw_istore_n cx 12 2 dX0_misplacedZero_11 rfl rfl ⟨Nat.le_of_ble_eq_true rfl, Nat.le_of_ble_eq_true rfl⟩ rfl ?_
        dsimp only [List.set]
        have lp12 : ∀ (kf : Nat) (b : Int), (n - b < (kf : Int)) → (0 ≤ b ∧ b ≤ n) → (∀ y, 0 ≤ y → y < b → tA g a y = 0) → AW X 12 [some (vR o), some (vI a), some (vI b)] [] ((hcol h o C F Nu Co n r f)) := by
          intro kf
          induction kf with
          | zero =>
            intro b hk hb hy
            exfalso
            omega
          | succ kf ih12 =>
            intro b hk hb hy
            refine aw_iload_n cx 13 dX0_misplacedZero_12 rfl rfl ?_
            refine aw_aload_n cx 14 dX0_misplacedZero_13 rfl rfl ?_
            refine aw_getfield cx 17 dX0_misplacedZero_14 rfl fdX0_24 (by first | assumption | exact hc_0 | exact hc_1 | exact hc_2 | exact hc_3 | exact hc_4 | exact zz_gs _ _ _) (by rfl) ?_
            refine aw_icmp_ge cx 20 60 dX0_misplacedZero_17 rfl (by decide) ⟨⟨by omega, by omega⟩, ⟨by omega, by omega⟩⟩ (fun c17 => ?_) (fun c17 => ?_)
            · refine aw_iinc cx 63 dX0_misplacedZero_60 rfl rfl (Nat.le_of_ble_eq_true rfl) rfl ?_
              dsimp only [List.set]
              refine aw_goto cx 2 dX0_misplacedZero_63 (by decide) ?_
              exact aw_weak (ih2 (a + 1) (by omega) ⟨by omega, by omega⟩ (fun x y x0 x1 y0 y1 hl => by
                by_cases e : x = a
                · rw [e]
                  exact hy y y0 (by omega)
                · exact hz x y x0 x1 y0 y1 (by omega))) ⟨rfl, rfl, True.intro⟩
            · refine aw_aload_n cx 21 dX0_misplacedZero_20 rfl rfl ?_
              refine aw_iload_n cx 22 dX0_misplacedZero_21 rfl rfl ?_
              refine aw_iload_n cx 23 dX0_misplacedZero_22 rfl rfl ?_
              refine aw_V2v cx 26 mX0_colourOf (ci := 0) dX0_misplacedZero_23 rfl okmX0_colourOf lkX0_41 (by first | assumption | exact hc_0 | exact hc_1 | exact hc_2 | exact hc_3 | exact hc_4 | exact zz_gs _ _ _) ⟨rfl, by decide⟩ (zz_rc0 mX0_misplacedZero hRm hNS rfl rfl) (Nat.le_of_ble_eq_true rfl) ?_
              refine s_X0_colourOf (by first | assumption | exact hc_0 | exact hc_1 | exact hc_2 | exact hc_3 | exact hc_4 | exact (hc_x (by omega)).trans (by first | assumption | exact hc_0 | exact hc_1 | exact hc_2 | exact hc_3 | exact hc_4)) (by first | assumption | exact hc_0 | exact hc_1 | exact hc_2 | exact hc_3 | exact hc_4 | exact (hc_x (by omega)).trans (by first | assumption | exact hc_0 | exact hc_1 | exact hc_2 | exact hc_3 | exact hc_4)) ⟨by omega, by omega⟩ ⟨by omega, by omega⟩ (fun v23 e23 => ⟨_, rfl, ?_⟩)
              have q23 := hA a b (by omega) (by omega) (by omega) (by omega)
              have w23 := hg a b (by omega) (by omega) (by omega) (by omega)
              refine aw_if_ne cx 29 33 dX0_misplacedZero_26 rfl (by decide) ⟨by omega, by omega⟩ (fun c26 => ?_) (fun c26 => ?_)
              · refine aw_iconst cx 34 dX0_misplacedZero_33 rfl ?_
                refine aw_iload_n cx 35 dX0_misplacedZero_34 rfl rfl ?_
                refine aw_iload_n cx 36 dX0_misplacedZero_35 rfl rfl ?_
                refine aw_icmp_ne cx 39 43 dX0_misplacedZero_36 rfl (by decide) ⟨⟨by omega, by omega⟩, ⟨by omega, by omega⟩⟩ (fun c36 => ?_) (fun c36 => ?_)
                · refine aw_iconst cx 44 dX0_misplacedZero_43 rfl ?_
                  refine aw_icmp_eq cx 47 54 dX0_misplacedZero_44 rfl (by decide) ⟨⟨by omega, by omega⟩, ⟨by omega, by omega⟩⟩ (fun c44 => ?_) (fun c44 => ?_)
                  · first
                    | (exfalso; omega)
                    | (refine aw_iinc cx 57 dX0_misplacedZero_54 rfl rfl (Nat.le_of_ble_eq_true rfl) rfl ?_
                       dsimp only [List.set]
                       refine aw_goto cx 12 dX0_misplacedZero_57 (by decide) ?_
                       exact ih12 (b + 1) (by omega) ⟨by omega, by omega⟩ (fun y y0 y1 => by
                         by_cases e : y = b
                         · rw [e]
                           exact tA_0 (by omega)
                         · exact hy y y0 (by omega)))
                  · first
                    | (exfalso; omega)
                    | (refine aw_iconst cx 48 dX0_misplacedZero_47 rfl ?_
                       refine aw_iload_n cx 49 dX0_misplacedZero_48 rfl rfl ?_
                       refine aw_iload_n cx 50 dX0_misplacedZero_49 rfl rfl ?_
                       refine aw_S3v cx 53 mX0_failureAt dX0_misplacedZero_50 rfl okmX0_failureAt lkX0_72 (zz_rc0 mX0_misplacedZero hRm hNS rfl rfl) (Nat.le_of_ble_eq_true rfl) ?_
                       refine s_X0_failureAt (fun v50 e50 => ⟨_, rfl, ?_⟩)
                       refine aw_ireturn cx dX0_misplacedZero_53 ?_
                       refine hRet _ _ True.intro rfl ?_
                       have h1 : tA g a b = 100 + 10 * a + b := tA_1 (by omega)
                       exact k _ (by
                         rw [e50, sc_first (t := tA g) (a := a) (b := b) ⟨by omega, by omega⟩ ⟨by omega, by omega⟩ (fun x y x0 x1 y0 y1 hl => by
                           rcases hl with hl | ⟨e, hl⟩
                           · exact hz x y x0 x1 y0 y1 hl
                           · rw [e]
                             exact hy y y0 hl) (by omega), h1]
                         omega) ⟨by omega, by omega⟩)
                · refine aw_iconst cx 40 dX0_misplacedZero_39 rfl ?_
                  refine aw_goto cx 44 dX0_misplacedZero_40 (by decide) ?_
                  refine aw_icmp_eq cx 47 54 dX0_misplacedZero_44 rfl (by decide) ⟨⟨by omega, by omega⟩, ⟨by omega, by omega⟩⟩ (fun c44 => ?_) (fun c44 => ?_)
                  · first
                    | (exfalso; omega)
                    | (refine aw_iinc cx 57 dX0_misplacedZero_54 rfl rfl (Nat.le_of_ble_eq_true rfl) rfl ?_
                       dsimp only [List.set]
                       refine aw_goto cx 12 dX0_misplacedZero_57 (by decide) ?_
                       exact ih12 (b + 1) (by omega) ⟨by omega, by omega⟩ (fun y y0 y1 => by
                         by_cases e : y = b
                         · rw [e]
                           exact tA_0 (by omega)
                         · exact hy y y0 (by omega)))
                  · first
                    | (exfalso; omega)
                    | (refine aw_iconst cx 48 dX0_misplacedZero_47 rfl ?_
                       refine aw_iload_n cx 49 dX0_misplacedZero_48 rfl rfl ?_
                       refine aw_iload_n cx 50 dX0_misplacedZero_49 rfl rfl ?_
                       refine aw_S3v cx 53 mX0_failureAt dX0_misplacedZero_50 rfl okmX0_failureAt lkX0_72 (zz_rc0 mX0_misplacedZero hRm hNS rfl rfl) (Nat.le_of_ble_eq_true rfl) ?_
                       refine s_X0_failureAt (fun v50 e50 => ⟨_, rfl, ?_⟩)
                       refine aw_ireturn cx dX0_misplacedZero_53 ?_
                       refine hRet _ _ True.intro rfl ?_
                       have h1 : tA g a b = 100 + 10 * a + b := tA_1 (by omega)
                       exact k _ (by
                         rw [e50, sc_first (t := tA g) (a := a) (b := b) ⟨by omega, by omega⟩ ⟨by omega, by omega⟩ (fun x y x0 x1 y0 y1 hl => by
                           rcases hl with hl | ⟨e, hl⟩
                           · exact hz x y x0 x1 y0 y1 hl
                           · rw [e]
                             exact hy y y0 hl) (by omega), h1]
                         omega) ⟨by omega, by omega⟩)
              · refine aw_iconst cx 30 dX0_misplacedZero_29 rfl ?_
                refine aw_goto cx 34 dX0_misplacedZero_30 (by decide) ?_
                refine aw_iload_n cx 35 dX0_misplacedZero_34 rfl rfl ?_
                refine aw_iload_n cx 36 dX0_misplacedZero_35 rfl rfl ?_
                refine aw_icmp_ne cx 39 43 dX0_misplacedZero_36 rfl (by decide) ⟨⟨by omega, by omega⟩, ⟨by omega, by omega⟩⟩ (fun c36 => ?_) (fun c36 => ?_)
                · refine aw_iconst cx 44 dX0_misplacedZero_43 rfl ?_
                  refine aw_icmp_eq cx 47 54 dX0_misplacedZero_44 rfl (by decide) ⟨⟨by omega, by omega⟩, ⟨by omega, by omega⟩⟩ (fun c44 => ?_) (fun c44 => ?_)
                  · first
                    | (exfalso; omega)
                    | (refine aw_iinc cx 57 dX0_misplacedZero_54 rfl rfl (Nat.le_of_ble_eq_true rfl) rfl ?_
                       dsimp only [List.set]
                       refine aw_goto cx 12 dX0_misplacedZero_57 (by decide) ?_
                       exact ih12 (b + 1) (by omega) ⟨by omega, by omega⟩ (fun y y0 y1 => by
                         by_cases e : y = b
                         · rw [e]
                           exact tA_0 (by omega)
                         · exact hy y y0 (by omega)))
                  · first
                    | (exfalso; omega)
                    | (refine aw_iconst cx 48 dX0_misplacedZero_47 rfl ?_
                       refine aw_iload_n cx 49 dX0_misplacedZero_48 rfl rfl ?_
                       refine aw_iload_n cx 50 dX0_misplacedZero_49 rfl rfl ?_
                       refine aw_S3v cx 53 mX0_failureAt dX0_misplacedZero_50 rfl okmX0_failureAt lkX0_72 (zz_rc0 mX0_misplacedZero hRm hNS rfl rfl) (Nat.le_of_ble_eq_true rfl) ?_
                       refine s_X0_failureAt (fun v50 e50 => ⟨_, rfl, ?_⟩)
                       refine aw_ireturn cx dX0_misplacedZero_53 ?_
                       refine hRet _ _ True.intro rfl ?_
                       have h1 : tA g a b = 100 + 10 * a + b := tA_1 (by omega)
                       exact k _ (by
                         rw [e50, sc_first (t := tA g) (a := a) (b := b) ⟨by omega, by omega⟩ ⟨by omega, by omega⟩ (fun x y x0 x1 y0 y1 hl => by
                           rcases hl with hl | ⟨e, hl⟩
                           · exact hz x y x0 x1 y0 y1 hl
                           · rw [e]
                             exact hy y y0 hl) (by omega), h1]
                         omega) ⟨by omega, by omega⟩)
                · refine aw_iconst cx 40 dX0_misplacedZero_39 rfl ?_
                  refine aw_goto cx 44 dX0_misplacedZero_40 (by decide) ?_
                  refine aw_icmp_eq cx 47 54 dX0_misplacedZero_44 rfl (by decide) ⟨⟨by omega, by omega⟩, ⟨by omega, by omega⟩⟩ (fun c44 => ?_) (fun c44 => ?_)
                  · first
                    | (exfalso; omega)
                    | (refine aw_iinc cx 57 dX0_misplacedZero_54 rfl rfl (Nat.le_of_ble_eq_true rfl) rfl ?_
                       dsimp only [List.set]
                       refine aw_goto cx 12 dX0_misplacedZero_57 (by decide) ?_
                       exact ih12 (b + 1) (by omega) ⟨by omega, by omega⟩ (fun y y0 y1 => by
                         by_cases e : y = b
                         · rw [e]
                           exact tA_0 (by omega)
                         · exact hy y y0 (by omega)))
                  · first
                    | (exfalso; omega)
                    | (refine aw_iconst cx 48 dX0_misplacedZero_47 rfl ?_
                       refine aw_iload_n cx 49 dX0_misplacedZero_48 rfl rfl ?_
                       refine aw_iload_n cx 50 dX0_misplacedZero_49 rfl rfl ?_
                       refine aw_S3v cx 53 mX0_failureAt dX0_misplacedZero_50 rfl okmX0_failureAt lkX0_72 (zz_rc0 mX0_misplacedZero hRm hNS rfl rfl) (Nat.le_of_ble_eq_true rfl) ?_
                       refine s_X0_failureAt (fun v50 e50 => ⟨_, rfl, ?_⟩)
                       refine aw_ireturn cx dX0_misplacedZero_53 ?_
                       refine hRet _ _ True.intro rfl ?_
                       have h1 : tA g a b = 100 + 10 * a + b := tA_1 (by omega)
                       exact k _ (by
                         rw [e50, sc_first (t := tA g) (a := a) (b := b) ⟨by omega, by omega⟩ ⟨by omega, by omega⟩ (fun x y x0 x1 y0 y1 hl => by
                           rcases hl with hl | ⟨e, hl⟩
                           · exact hz x y x0 x1 y0 y1 hl
                           · rw [e]
                             exact hy y y0 hl) (by omega), h1]
                         omega) ⟨by omega, by omega⟩)
        exact aw_weak (lp12 (n.toNat + 1) 0 (by omega) ⟨by omega, by omega⟩ (fun y y0 y1 => by omega)) ⟨rfl, rfl, rfl, True.intro⟩
  exact aw_weak (lp2 (n.toNat + 1) 0 (by omega) ⟨by omega, by omega⟩ (fun x y x0 x1 y0 y1 hl => by omega)) ⟨rfl, rfl, True.intro⟩
set_option maxRecDepth 100000 in
set_option maxHeartbeats 4000000 in
theorem s_X0_missingColour {h : AH} {Q : Option AV → AH → Prop} {o : Nat} {C F Nu Co : Int → Int} {n r f : Int} {g : Gr} (hn : 1 ≤ n ∧ n ≤ 8) (hg : rgn n g) (hF : ∀ c, 0 ≤ c → c < 5 → F c = fp n g c) (hr : r = rk n g) (k : ∀ v, v = tB n g → (0 ≤ v ∧ v < 1000) → Q (some (vI v)) (hcol h o C F Nu Co n r f)) : MC mX0_missingColour [vR o] (hcol h o C F Nu Co n r f) Q := by
  refine mc_start mX0_missingColour RX0 "missingColour" ⟨rfl, rfl, by decide +kernel⟩ [some (vR o), none] ⟨1, rfl⟩ rfl (fun X cx hRm hNS hRet => ?_)
  have hrb := rk_b (n := n) (g := g) (by omega) hg
  refine aw_iconst cx 1 dX0_missingColour_0 rfl ?_
  refine aw_istore_n cx 2 1 dX0_missingColour_1 rfl rfl ⟨Nat.le_of_ble_eq_true rfl, Nat.le_of_ble_eq_true rfl⟩ rfl ?_
  dsimp only [List.set]
  have lp2 : ∀ (kf : Nat) (c : Int), (r - c < (kf : Int)) → (0 ≤ c ∧ c ≤ r) → (∀ y, 0 ≤ y → y < c → fp n g y ≠ -1) → AW X 2 [some (vR o), some (vI c)] [] ((hcol h o C F Nu Co n r f)) := by
    intro kf
    induction kf with
    | zero =>
      intro c hk hc hy
      exfalso
      omega
    | succ kf ih2 =>
      intro c hk hc hy
      refine aw_iload_n cx 3 dX0_missingColour_2 rfl rfl ?_
      refine aw_aload_n cx 4 dX0_missingColour_3 rfl rfl ?_
      refine aw_getfield cx 7 dX0_missingColour_4 rfl fdX0_28 (by first | assumption | exact hc_0 | exact hc_1 | exact hc_2 | exact hc_3 | exact hc_4 | exact zz_gs _ _ _) (by rfl) ?_
      refine aw_icmp_ge cx 10 33 dX0_missingColour_7 rfl (by decide) ⟨⟨by omega, by omega⟩, ⟨by omega, by omega⟩⟩ (fun c7 => ?_) (fun c7 => ?_)
      · refine aw_iconst cx 34 dX0_missingColour_33 rfl ?_
        refine aw_ireturn cx dX0_missingColour_34 ?_
        refine hRet _ _ True.intro rfl ?_
        exact k _ (by rw [tB_0 (fun c c0 c1 c2 => hy c c0 (by omega))]) ⟨by decide, by decide⟩
      · refine aw_aload_n cx 11 dX0_missingColour_10 rfl rfl ?_
        refine aw_getfield cx 14 dX0_missingColour_11 rfl fdX0_15 (by first | assumption | exact hc_0 | exact hc_1 | exact hc_2 | exact hc_3 | exact hc_4 | exact zz_gs _ _ _) (by rfl) ?_
        refine aw_iload_n cx 15 dX0_missingColour_14 rfl rfl ?_
        refine aw_iaload cx 16 dX0_missingColour_15 rfl (by first | assumption | exact hc_0 | exact hc_1 | exact hc_2 | exact hc_3 | exact hc_4 | exact zz_gs _ _ _) ⟨by omega, by omega⟩ (by decide) ?_
        have q15 := hF c (by omega) (by omega)
        have w15 := fp_b (n := n) (g := g) ⟨by omega, by omega⟩ c
        refine aw_iconst cx 17 dX0_missingColour_16 rfl ?_
        refine aw_icmp_ne cx 20 27 dX0_missingColour_17 rfl (by decide) ⟨⟨by omega, by omega⟩, ⟨by omega, by omega⟩⟩ (fun c17 => ?_) (fun c17 => ?_)
        · refine aw_iinc cx 30 dX0_missingColour_27 rfl rfl (Nat.le_of_ble_eq_true rfl) rfl ?_
          dsimp only [List.set]
          refine aw_goto cx 2 dX0_missingColour_30 (by decide) ?_
          exact ih2 (c + 1) (by omega) ⟨by omega, by omega⟩ (fun y y0 y1 => by
            by_cases e : y = c
            · rw [e]
              omega
            · exact hy y y0 (by omega))
        · refine aw_iconst cx 21 dX0_missingColour_20 rfl ?_
          refine aw_iconst cx 22 dX0_missingColour_21 rfl ?_
          refine aw_iconst cx 23 dX0_missingColour_22 rfl ?_
          refine aw_S3v cx 26 mX0_failureAt dX0_missingColour_23 rfl okmX0_failureAt lkX0_72 (zz_rc0 mX0_missingColour hRm hNS rfl rfl) (Nat.le_of_ble_eq_true rfl) ?_
          refine s_X0_failureAt (fun v23 e23 => ⟨_, rfl, ?_⟩)
          refine aw_ireturn cx dX0_missingColour_26 ?_
          refine hRet _ _ True.intro rfl ?_
          exact k _ (by rw [e23, tB_1 (c := c) ⟨by omega, by omega⟩ (by omega) (by omega)]; rfl) ⟨by omega, by omega⟩
  exact lp2 (r.toNat + 1) 0 (by omega) ⟨by omega, by omega⟩ (fun y y0 y1 => by omega)
set_option maxRecDepth 100000 in
set_option maxHeartbeats 4000000 in
theorem s_X0_wrongReversal {h : AH} {Q : Option AV → AH → Prop} {o : Nat} {C F Nu Co : Int → Int} {n r f : Int} {g : Gr} (hn : 1 ≤ n ∧ n ≤ 8) (hA : ag n C g) (hg : rgn n g) (hF : ∀ c, 0 ≤ c → c < 5 → F c = fp n g c) (k : ∀ v, v = sc n (tC n g) → (0 ≤ v ∧ v < 1000) → Q (some (vI v)) (hcol h o C F Nu Co n r f)) : MC mX0_wrongReversal [vR o] (hcol h o C F Nu Co n r f) Q := by
  refine mc_start mX0_wrongReversal RX0 "wrongReversal" ⟨rfl, rfl, by decide +kernel⟩ [some (vR o), none, none] ⟨2, rfl⟩ rfl (fun X cx hRm hNS hRet => ?_)
  refine aw_iconst cx 1 dX0_wrongReversal_0 rfl ?_
  refine aw_istore_n cx 2 1 dX0_wrongReversal_1 rfl rfl ⟨Nat.le_of_ble_eq_true rfl, Nat.le_of_ble_eq_true rfl⟩ rfl ?_
  dsimp only [List.set]
  have lp2 : ∀ (kf : Nat) (a : Int), (n - a < (kf : Int)) → (0 ≤ a ∧ a ≤ n) → (∀ x y, 0 ≤ x → x < n → 0 ≤ y → y < n → x < a → tC n g x y = 0) → AW X 2 [some (vR o), some (vI a), none] [] ((hcol h o C F Nu Co n r f)) := by
    intro kf
    induction kf with
    | zero =>
      intro a hk ha hz
      exfalso
      omega
    | succ kf ih2 =>
      intro a hk ha hz
      refine aw_iload_n cx 3 dX0_wrongReversal_2 rfl rfl ?_
      refine aw_aload_n cx 4 dX0_wrongReversal_3 rfl rfl ?_
      refine aw_getfield cx 7 dX0_wrongReversal_4 rfl fdX0_24 (by first | assumption | exact hc_0 | exact hc_1 | exact hc_2 | exact hc_3 | exact hc_4 | exact zz_gs _ _ _) (by rfl) ?_
      refine aw_icmp_ge cx 10 58 dX0_wrongReversal_7 rfl (by decide) ⟨⟨by omega, by omega⟩, ⟨by omega, by omega⟩⟩ (fun c7 => ?_) (fun c7 => ?_)
      · refine aw_iconst cx 59 dX0_wrongReversal_58 rfl ?_
        refine aw_ireturn cx dX0_wrongReversal_59 ?_
        refine hRet _ _ True.intro rfl ?_
        exact k _ (by rw [sc_zero (by omega) (fun x y x0 x1 y0 y1 => hz x y x0 x1 y0 y1 (by omega))]) ⟨by decide, by decide⟩
      · refine aw_iconst cx 11 dX0_wrongReversal_10 rfl ?_
        refine aw_istore_n cx 12 2 dX0_wrongReversal_11 rfl rfl ⟨Nat.le_of_ble_eq_true rfl, Nat.le_of_ble_eq_true rfl⟩ rfl ?_
        dsimp only [List.set]
        have lp12 : ∀ (kf : Nat) (b : Int), (n - b < (kf : Int)) → (0 ≤ b ∧ b ≤ n) → (∀ y, 0 ≤ y → y < b → tC n g a y = 0) → AW X 12 [some (vR o), some (vI a), some (vI b)] [] ((hcol h o C F Nu Co n r f)) := by
          intro kf
          induction kf with
          | zero =>
            intro b hk hb hy
            exfalso
            omega
          | succ kf ih12 =>
            intro b hk hb hy
            refine aw_iload_n cx 13 dX0_wrongReversal_12 rfl rfl ?_
            refine aw_aload_n cx 14 dX0_wrongReversal_13 rfl rfl ?_
            refine aw_getfield cx 17 dX0_wrongReversal_14 rfl fdX0_24 (by first | assumption | exact hc_0 | exact hc_1 | exact hc_2 | exact hc_3 | exact hc_4 | exact zz_gs _ _ _) (by rfl) ?_
            refine aw_icmp_ge cx 20 52 dX0_wrongReversal_17 rfl (by decide) ⟨⟨by omega, by omega⟩, ⟨by omega, by omega⟩⟩ (fun c17 => ?_) (fun c17 => ?_)
            · refine aw_iinc cx 55 dX0_wrongReversal_52 rfl rfl (Nat.le_of_ble_eq_true rfl) rfl ?_
              dsimp only [List.set]
              refine aw_goto cx 2 dX0_wrongReversal_55 (by decide) ?_
              exact aw_weak (ih2 (a + 1) (by omega) ⟨by omega, by omega⟩ (fun x y x0 x1 y0 y1 hl => by
                by_cases e : x = a
                · rw [e]
                  exact hy y y0 (by omega)
                · exact hz x y x0 x1 y0 y1 (by omega))) ⟨rfl, rfl, True.intro⟩
            · refine aw_aload_n cx 21 dX0_wrongReversal_20 rfl rfl ?_
              refine aw_iload_n cx 22 dX0_wrongReversal_21 rfl rfl ?_
              refine aw_iload_n cx 23 dX0_wrongReversal_22 rfl rfl ?_
              refine aw_V2v cx 26 mX0_colourOf (ci := 0) dX0_wrongReversal_23 rfl okmX0_colourOf lkX0_41 (by first | assumption | exact hc_0 | exact hc_1 | exact hc_2 | exact hc_3 | exact hc_4 | exact zz_gs _ _ _) ⟨rfl, by decide⟩ (zz_rc0 mX0_wrongReversal hRm hNS rfl rfl) (Nat.le_of_ble_eq_true rfl) ?_
              refine s_X0_colourOf (by first | assumption | exact hc_0 | exact hc_1 | exact hc_2 | exact hc_3 | exact hc_4 | exact (hc_x (by omega)).trans (by first | assumption | exact hc_0 | exact hc_1 | exact hc_2 | exact hc_3 | exact hc_4)) (by first | assumption | exact hc_0 | exact hc_1 | exact hc_2 | exact hc_3 | exact hc_4 | exact (hc_x (by omega)).trans (by first | assumption | exact hc_0 | exact hc_1 | exact hc_2 | exact hc_3 | exact hc_4)) ⟨by omega, by omega⟩ ⟨by omega, by omega⟩ (fun v23 e23 => ⟨_, rfl, ?_⟩)
              have q23 := hA b a (by omega) (by omega) (by omega) (by omega)
              have w23 := hg b a (by omega) (by omega) (by omega) (by omega)
              refine aw_aload_n cx 27 dX0_wrongReversal_26 rfl rfl ?_
              refine aw_aload_n cx 28 dX0_wrongReversal_27 rfl rfl ?_
              refine aw_iload_n cx 29 dX0_wrongReversal_28 rfl rfl ?_
              refine aw_iload_n cx 30 dX0_wrongReversal_29 rfl rfl ?_
              refine aw_V2v cx 33 mX0_colourOf (ci := 0) dX0_wrongReversal_30 rfl okmX0_colourOf lkX0_41 (by first | assumption | exact hc_0 | exact hc_1 | exact hc_2 | exact hc_3 | exact hc_4 | exact zz_gs _ _ _) ⟨rfl, by decide⟩ (zz_rc0 mX0_wrongReversal hRm hNS rfl rfl) (Nat.le_of_ble_eq_true rfl) ?_
              refine s_X0_colourOf (by first | assumption | exact hc_0 | exact hc_1 | exact hc_2 | exact hc_3 | exact hc_4 | exact (hc_x (by omega)).trans (by first | assumption | exact hc_0 | exact hc_1 | exact hc_2 | exact hc_3 | exact hc_4)) (by first | assumption | exact hc_0 | exact hc_1 | exact hc_2 | exact hc_3 | exact hc_4 | exact (hc_x (by omega)).trans (by first | assumption | exact hc_0 | exact hc_1 | exact hc_2 | exact hc_3 | exact hc_4)) ⟨by omega, by omega⟩ ⟨by omega, by omega⟩ (fun v30 e30 => ⟨_, rfl, ?_⟩)
              have q30 := hA a b (by omega) (by omega) (by omega) (by omega)
              have w30 := hg a b (by omega) (by omega) (by omega) (by omega)
              have r30 : -1 ≤ F v30 ∧ F v30 < 64 := by rw [hF v30 (by omega) (by omega)]; exact fp_b ⟨by omega, by omega⟩ v30
              refine aw_V1v cx 36 mX0_reverseOf (ci := 0) dX0_wrongReversal_33 rfl okmX0_reverseOf lkX0_76 (by first | assumption | exact hc_0 | exact hc_1 | exact hc_2 | exact hc_3 | exact hc_4 | exact zz_gs _ _ _) ⟨rfl, by decide⟩ (zz_rc0 mX0_wrongReversal hRm hNS rfl rfl) (Nat.le_of_ble_eq_true rfl) ?_
              refine s_X0_reverseOf (by first | assumption | exact hc_0 | exact hc_1 | exact hc_2 | exact hc_3 | exact hc_4 | exact (hc_x (by omega)).trans (by first | assumption | exact hc_0 | exact hc_1 | exact hc_2 | exact hc_3 | exact hc_4)) (by first | assumption | exact hc_0 | exact hc_1 | exact hc_2 | exact hc_3 | exact hc_4 | exact (hc_x (by omega)).trans (by first | assumption | exact hc_0 | exact hc_1 | exact hc_2 | exact hc_3 | exact hc_4)) (by first | assumption | exact hc_0 | exact hc_1 | exact hc_2 | exact hc_3 | exact hc_4 | exact (hc_x (by omega)).trans (by first | assumption | exact hc_0 | exact hc_1 | exact hc_2 | exact hc_3 | exact hc_4)) ⟨by omega, by omega⟩ (by assumption) (fun v33 e33 => ⟨_, rfl, ?_⟩)
              have q33 : v33 = rv n g v30 := by rw [e33, hF v30 (by omega) (by omega)]; exact rv_eq ⟨by omega, by omega⟩ hA v30
              have w33 := rv_b (n := n) (g := g) ⟨by omega, by omega⟩ hg v30
              refine aw_icmp_eq cx 39 46 dX0_wrongReversal_36 rfl (by decide) ⟨⟨by omega, by omega⟩, ⟨by omega, by omega⟩⟩ (fun c36 => ?_) (fun c36 => ?_)
              · refine aw_iinc cx 49 dX0_wrongReversal_46 rfl rfl (Nat.le_of_ble_eq_true rfl) rfl ?_
                dsimp only [List.set]
                refine aw_goto cx 12 dX0_wrongReversal_49 (by decide) ?_
                exact ih12 (b + 1) (by omega) ⟨by omega, by omega⟩ (fun y y0 y1 => by
                  by_cases e : y = b
                  · rw [e]
                    exact tC_0 (by rw [← q30, ← e30, ← q33, ← c36, e23, q23])
                  · exact hy y y0 (by omega))
              · refine aw_iconst cx 40 dX0_wrongReversal_39 rfl ?_
                refine aw_iload_n cx 41 dX0_wrongReversal_40 rfl rfl ?_
                refine aw_iload_n cx 42 dX0_wrongReversal_41 rfl rfl ?_
                refine aw_S3v cx 45 mX0_failureAt dX0_wrongReversal_42 rfl okmX0_failureAt lkX0_72 (zz_rc0 mX0_wrongReversal hRm hNS rfl rfl) (Nat.le_of_ble_eq_true rfl) ?_
                refine s_X0_failureAt (fun v42 e42 => ⟨_, rfl, ?_⟩)
                refine aw_ireturn cx dX0_wrongReversal_45 ?_
                refine hRet _ _ True.intro rfl ?_
                have h1 : tC n g a b = 300 + 10 * a + b := tC_1 (by rw [← q30, ← e30, ← q33, ← q23, ← e23]; exact c36)
                exact k _ (by
                  rw [e42, sc_first (t := tC n g) (a := a) (b := b) ⟨by omega, by omega⟩ ⟨by omega, by omega⟩ (fun x y x0 x1 y0 y1 hl => by
                    rcases hl with hl | ⟨e, hl⟩
                    · exact hz x y x0 x1 y0 y1 hl
                    · rw [e]
                      exact hy y y0 hl) (by omega), h1]
                  omega) ⟨by omega, by omega⟩
        exact aw_weak (lp12 (n.toNat + 1) 0 (by omega) ⟨by omega, by omega⟩ (fun y y0 y1 => by omega)) ⟨rfl, rfl, rfl, True.intro⟩
  exact aw_weak (lp2 (n.toNat + 1) 0 (by omega) ⟨by omega, by omega⟩ (fun x y x0 x1 y0 y1 hl => by omega)) ⟨rfl, rfl, True.intro⟩
set_option maxRecDepth 100000 in
set_option maxHeartbeats 4000000 in
theorem s_X0_wrongCounts {h : AH} {Q : Option AV → AH → Prop} {o : Nat} {C F Nu Co : Int → Int} {n r f : Int} {g : Gr} (hn : 1 ≤ n ∧ n ≤ 8) (hA : ag n C g) (hg : rgn n g) (hF : ∀ c, 0 ≤ c → c < 5 → F c = fp n g c) (k : ∀ v Nu' Co', v = sc n (tD n g) → (0 ≤ v ∧ v < 1000) → (v = 0 → ∀ c, 0 ≤ c → c < 5 → fp n g c ≠ -1 → ∀ i j, 0 ≤ i → i < 5 → 0 ≤ j → j < 5 → Nu' (25 * c + 5 * i + j) = nu n g i j c) → Q (some (vI v)) (hcol h o C F Nu' Co' n r f)) : MC mX0_wrongCounts [vR o] (hcol h o C F Nu Co n r f) Q := by
  refine mc_start mX0_wrongCounts RX0 "wrongCounts" ⟨rfl, rfl, by decide +kernel⟩ [some (vR o), none, none, none] ⟨3, rfl⟩ rfl (fun X cx hRm hNS hRet => ?_)
  refine aw_iconst cx 1 dX0_wrongCounts_0 rfl ?_
  refine aw_istore_n cx 2 1 dX0_wrongCounts_1 rfl rfl ⟨Nat.le_of_ble_eq_true rfl, Nat.le_of_ble_eq_true rfl⟩ rfl ?_
  dsimp only [List.set]
  have lp2 : ∀ (kf : Nat) (a : Int) (Na Nc : Int → Int), (n - a < (kf : Int)) → (0 ≤ a ∧ a ≤ n) → (∀ x y, 0 ≤ x → x < n → 0 ≤ y → y < n → x < a → tD n g x y = 0) → (∀ c, 0 ≤ c → c < 5 → fp n g c ≠ -1 → fp n g c / 8 < a → ∀ i j, 0 ≤ i → i < 5 → 0 ≤ j → j < 5 → Na (25 * c + 5 * i + j) = nu n g i j c) → AW X 2 [some (vR o), some (vI a), none, none] [] (hcol h o C F Na Nc n r f) := by
    intro kf
    induction kf with
    | zero =>
      intro a Na Nc hk ha hz hN
      exfalso
      omega
    | succ kf ih2 =>
      intro a Na Nc hk ha hz hN
      refine aw_iload_n cx 3 dX0_wrongCounts_2 rfl rfl ?_
      refine aw_aload_n cx 4 dX0_wrongCounts_3 rfl rfl ?_
      refine aw_getfield cx 7 dX0_wrongCounts_4 rfl fdX0_24 (by first | assumption | exact hc_0 | exact hc_1 | exact hc_2 | exact hc_3 | exact hc_4 | exact zz_gs _ _ _) (by rfl) ?_
      refine aw_icmp_ge cx 10 83 dX0_wrongCounts_7 rfl (by decide) ⟨⟨by omega, by omega⟩, ⟨by omega, by omega⟩⟩ (fun c7 => ?_) (fun c7 => ?_)
      · refine aw_iconst cx 84 dX0_wrongCounts_83 rfl ?_
        refine aw_ireturn cx dX0_wrongCounts_84 ?_
        refine hRet _ _ True.intro rfl ?_
        exact k _ _ _ (by rw [sc_zero (by omega) (fun x y x0 x1 y0 y1 => hz x y x0 x1 y0 y1 (by omega))]) ⟨by decide, by decide⟩ (fun _ c c0 c1 c2 => hN c c0 c1 c2 (by have := fp_col (n := n) (g := g) ⟨by omega, by omega⟩ c2; omega))
      · refine aw_iconst cx 11 dX0_wrongCounts_10 rfl ?_
        refine aw_istore_n cx 12 2 dX0_wrongCounts_11 rfl rfl ⟨Nat.le_of_ble_eq_true rfl, Nat.le_of_ble_eq_true rfl⟩ rfl ?_
        dsimp only [List.set]
        have lp12 : ∀ (kf : Nat) (b : Int) (Nb Nd : Int → Int), (n - b < (kf : Int)) → (0 ≤ b ∧ b ≤ n) → (∀ y, 0 ≤ y → y < b → tD n g a y = 0) → (∀ c, 0 ≤ c → c < 5 → fp n g c ≠ -1 → (fp n g c / 8 < a ∨ (fp n g c / 8 = a ∧ fp n g c % 8 < b)) → ∀ i j, 0 ≤ i → i < 5 → 0 ≤ j → j < 5 → Nb (25 * c + 5 * i + j) = nu n g i j c) → AW X 12 [some (vR o), some (vI a), some (vI b), none] [] (hcol h o C F Nb Nd n r f) := by
          intro kf
          induction kf with
          | zero =>
            intro b Nb Nd hk hb hy hN2
            exfalso
            omega
          | succ kf ih12 =>
            intro b Nb Nd hk hb hy hN2
            refine aw_iload_n cx 13 dX0_wrongCounts_12 rfl rfl ?_
            refine aw_aload_n cx 14 dX0_wrongCounts_13 rfl rfl ?_
            refine aw_getfield cx 17 dX0_wrongCounts_14 rfl fdX0_24 (by first | assumption | exact hc_0 | exact hc_1 | exact hc_2 | exact hc_3 | exact hc_4 | exact zz_gs _ _ _) (by rfl) ?_
            refine aw_icmp_ge cx 20 77 dX0_wrongCounts_17 rfl (by decide) ⟨⟨by omega, by omega⟩, ⟨by omega, by omega⟩⟩ (fun c17 => ?_) (fun c17 => ?_)
            · refine aw_iinc cx 80 dX0_wrongCounts_77 rfl rfl (Nat.le_of_ble_eq_true rfl) rfl ?_
              dsimp only [List.set]
              refine aw_goto cx 2 dX0_wrongCounts_80 (by decide) ?_
              exact aw_weak (ih2 (a + 1) _ _ (by omega) ⟨by omega, by omega⟩ (fun x y x0 x1 y0 y1 hl => by
                by_cases e : x = a
                · rw [e]
                  exact hy y y0 (by omega)
                · exact hz x y x0 x1 y0 y1 (by omega)) (fun c c0 c1 c2 c3 => hN2 c c0 c1 c2 (by have := fp_col (n := n) (g := g) ⟨by omega, by omega⟩ c2; omega))) ⟨rfl, rfl, True.intro⟩
            · refine aw_aload_n cx 21 dX0_wrongCounts_20 rfl rfl ?_
              refine aw_iload_n cx 22 dX0_wrongCounts_21 rfl rfl ?_
              refine aw_iload_n cx 23 dX0_wrongCounts_22 rfl rfl ?_
              refine aw_V2v cx 26 mX0_colourOf (ci := 0) dX0_wrongCounts_23 rfl okmX0_colourOf lkX0_41 (by first | assumption | exact hc_0 | exact hc_1 | exact hc_2 | exact hc_3 | exact hc_4 | exact zz_gs _ _ _) ⟨rfl, by decide⟩ (zz_rc0 mX0_wrongCounts hRm hNS rfl rfl) (Nat.le_of_ble_eq_true rfl) ?_
              refine s_X0_colourOf (by first | assumption | exact hc_0 | exact hc_1 | exact hc_2 | exact hc_3 | exact hc_4 | exact (hc_x (by omega)).trans (by first | assumption | exact hc_0 | exact hc_1 | exact hc_2 | exact hc_3 | exact hc_4)) (by first | assumption | exact hc_0 | exact hc_1 | exact hc_2 | exact hc_3 | exact hc_4 | exact (hc_x (by omega)).trans (by first | assumption | exact hc_0 | exact hc_1 | exact hc_2 | exact hc_3 | exact hc_4)) ⟨by omega, by omega⟩ ⟨by omega, by omega⟩ (fun v23 e23 => ⟨_, rfl, ?_⟩)
              have q23 := hA a b (by omega) (by omega) (by omega) (by omega)
              have w23 := hg a b (by omega) (by omega) (by omega) (by omega)
              rw [q23] at e23
              refine aw_istore_n cx 27 3 dX0_wrongCounts_26 rfl rfl ⟨Nat.le_of_ble_eq_true rfl, Nat.le_of_ble_eq_true rfl⟩ rfl ?_
              dsimp only [List.set]
              refine aw_aload_n cx 28 dX0_wrongCounts_27 rfl rfl ?_
              refine aw_iload_n cx 29 dX0_wrongCounts_28 rfl rfl ?_
              refine aw_iload_n cx 30 dX0_wrongCounts_29 rfl rfl ?_
              refine aw_V2n cx 33 mX0_countBetween (ci := 0) dX0_wrongCounts_30 rfl okmX0_countBetween lkX0_80 (by first | assumption | exact hc_0 | exact hc_1 | exact hc_2 | exact hc_3 | exact hc_4 | exact zz_gs _ _ _) ⟨rfl, by decide⟩ (zz_rc0 mX0_wrongCounts hRm hNS rfl rfl) (Nat.le_of_ble_eq_true rfl) ?_
              refine s_X0_countBetween hn hA hg ⟨by omega, by omega⟩ ⟨by omega, by omega⟩ (fun Co30 e30 => ⟨rfl, ?_⟩)
              have f30 := hF v23 (by omega) (by omega)
              have b30 := fp_b (n := n) (g := g) ⟨by omega, by omega⟩ v23
              refine aw_aload_n cx 34 dX0_wrongCounts_33 rfl rfl ?_
              refine aw_getfield cx 37 dX0_wrongCounts_34 rfl fdX0_15 (by first | assumption | exact hc_0 | exact hc_1 | exact hc_2 | exact hc_3 | exact hc_4 | exact zz_gs _ _ _) (by rfl) ?_
              refine aw_iload_n cx 38 dX0_wrongCounts_37 rfl rfl ?_
              refine aw_iaload cx 39 dX0_wrongCounts_38 rfl (by first | assumption | exact hc_0 | exact hc_1 | exact hc_2 | exact hc_3 | exact hc_4 | exact zz_gs _ _ _) ⟨by omega, by omega⟩ (by decide) ?_
              refine aw_iload_n cx 40 dX0_wrongCounts_39 rfl rfl ?_
              refine aw_bipush cx 42 dX0_wrongCounts_40 rfl (by decide +kernel) ?_
              refine aw_imul cx 43 dX0_wrongCounts_42 rfl ?_
              refine aw_iload_n cx 44 dX0_wrongCounts_43 rfl rfl ?_
              refine aw_iadd cx 45 dX0_wrongCounts_44 rfl ?_
              refine aw_icmp_ne cx 48 56 dX0_wrongCounts_45 rfl (by decide) ⟨⟨by omega, by omega⟩, ⟨by omega, by omega⟩⟩ (fun c45 => ?_) (fun c45 => ?_)
              · have p45 := fp_le (n := n) (g := g) ⟨by omega, by omega⟩ (a := a) (b := b) ⟨by omega, by omega⟩ ⟨by omega, by omega⟩ (by rw [← e23]; omega)
                rw [← e23] at p45
                have o45 : fp n g v23 ≠ -1 := by rw [e23]; exact fp_occ ⟨by omega, by omega⟩ ⟨by omega, by omega⟩ ⟨by omega, by omega⟩
                have n45 := hN2 v23 (by omega) (by omega) o45 p45
                have r45 : ∀ y, 0 ≤ y → y < 25 → R32 (Co30 y) ∧ R32 (Nb (25 * v23 + y)) := by
                  intro y y0 y1
                  have h3 := e30 (y / 5) (y % 5) (by omega) (by omega) (by omega) (by omega)
                  have h4 := n45 (y / 5) (y % 5) (by omega) (by omega) (by omega) (by omega)
                  rw [show 5 * (y / 5) + y % 5 = y by omega] at h3
                  rw [show 25 * v23 + 5 * (y / 5) + y % 5 = 25 * v23 + y by omega] at h4
                  have h5 := cn_b (n := n) (by omega) g a b (y / 5) (y % 5)
                  have h6 := nu_b (n := n) (g := g) (by omega) (y / 5) (y % 5) v23
                  constructor <;> constructor <;> omega
                refine aw_aload_n cx 57 dX0_wrongCounts_56 rfl rfl ?_
                refine aw_iload_n cx 58 dX0_wrongCounts_57 rfl rfl ?_
                refine aw_V1v cx 61 mX0_countsAreKept (ci := 0) dX0_wrongCounts_58 rfl okmX0_countsAreKept lkX0_88 (by first | assumption | exact hc_0 | exact hc_1 | exact hc_2 | exact hc_3 | exact hc_4 | exact zz_gs _ _ _) ⟨rfl, by decide⟩ (zz_rc0 mX0_wrongCounts hRm hNS rfl rfl) (Nat.le_of_ble_eq_true rfl) ?_
                refine s_X0_countsAreKept ⟨by omega, by omega⟩ (by assumption) (fun v58 e58 => ⟨_, rfl, ?_⟩)
                refine aw_if_ne cx 64 71 dX0_wrongCounts_61 rfl (by decide) ⟨by omega, by omega⟩ (fun c61 => ?_) (fun c61 => ?_)
                · have t71 : tD n g a b = 0 := by
                    rcases e58 with ⟨_, h9⟩ | ⟨h9, _⟩
                    · refine tD_0 (fun i j i0 i1 j0 j1 => ?_)
                      rw [← e30 i j i0 i1 j0 j1, ← h9 (5 * i + j) (by omega) (by omega), ← e23, ← n45 i j i0 i1 j0 j1, show 25 * v23 + (5 * i + j) = 25 * v23 + 5 * i + j by omega]
                    · exact absurd h9 c61
                  have n71 : ∀ c, 0 ≤ c → c < 5 → fp n g c ≠ -1 → (fp n g c / 8 < a ∨ (fp n g c / 8 = a ∧ fp n g c % 8 < b + 1)) → ∀ i j, 0 ≤ i → i < 5 → 0 ≤ j → j < 5 → Nb (25 * c + 5 * i + j) = nu n g i j c := by
                    intro c c0 c1 c2 c3 i j i0 i1 j0 j1
                    refine hN2 c c0 c1 c2 ?_ i j i0 i1 j0 j1
                    have h7 := fp_col (n := n) (g := g) ⟨by omega, by omega⟩ c2
                    by_cases e8 : fp n g c / 8 = a ∧ fp n g c % 8 = b
                    · rw [e8.1, e8.2] at h7
                      have h8 : c = v23 := by omega
                      rw [h8] at e8
                      omega
                    · omega
                  refine aw_iinc cx 74 dX0_wrongCounts_71 rfl rfl (Nat.le_of_ble_eq_true rfl) rfl ?_
                  dsimp only [List.set]
                  refine aw_goto cx 12 dX0_wrongCounts_74 (by decide) ?_
                  exact aw_weak (ih12 (b + 1) _ _ (by omega) ⟨by omega, by omega⟩ (fun y y0 y1 => by
                    by_cases e : y = b
                    · rw [e]
                      exact t71
                    · exact hy y y0 (by omega)) n71) ⟨rfl, rfl, rfl, True.intro⟩
                · have h1 : tD n g a b = 400 + 10 * a + b := by
                    rcases e58 with ⟨h9, _⟩ | ⟨_, y, y0, y1, h9⟩
                    · omega
                    · refine tD_1 (i := y / 5) (j := y % 5) ⟨by omega, by omega⟩ ⟨by omega, by omega⟩ (fun h10 => h9 ?_)
                      have h3 := e30 (y / 5) (y % 5) (by omega) (by omega) (by omega) (by omega)
                      have h4 := n45 (y / 5) (y % 5) (by omega) (by omega) (by omega) (by omega)
                      rw [show 5 * (y / 5) + y % 5 = y by omega] at h3
                      rw [show 25 * v23 + 5 * (y / 5) + y % 5 = 25 * v23 + y by omega] at h4
                      rw [h3, h4, e23]
                      exact h10.symm
                  refine aw_iconst cx 65 dX0_wrongCounts_64 rfl ?_
                  refine aw_iload_n cx 66 dX0_wrongCounts_65 rfl rfl ?_
                  refine aw_iload_n cx 67 dX0_wrongCounts_66 rfl rfl ?_
                  refine aw_S3v cx 70 mX0_failureAt dX0_wrongCounts_67 rfl okmX0_failureAt lkX0_72 (zz_rc0 mX0_wrongCounts hRm hNS rfl rfl) (Nat.le_of_ble_eq_true rfl) ?_
                  refine s_X0_failureAt (fun v67 e67 => ⟨_, rfl, ?_⟩)
                  refine aw_ireturn cx dX0_wrongCounts_70 ?_
                  refine hRet _ _ True.intro rfl ?_
                  exact k _ _ _ (by
                    rw [e67, sc_first (t := tD n g) (a := a) (b := b) ⟨by omega, by omega⟩ ⟨by omega, by omega⟩ (fun x y x0 x1 y0 y1 hl => by
                      rcases hl with hl | ⟨e, hl⟩
                      · exact hz x y x0 x1 y0 y1 hl
                      · rw [e]
                        exact hy y y0 hl) (by omega), h1]
                    omega) ⟨by omega, by omega⟩ (fun q => by exfalso; omega)
              · refine aw_aload_n cx 49 dX0_wrongCounts_48 rfl rfl ?_
                refine aw_iload_n cx 50 dX0_wrongCounts_49 rfl rfl ?_
                refine aw_V1n cx 53 mX0_keepCounts (ci := 0) dX0_wrongCounts_50 rfl okmX0_keepCounts lkX0_84 (by first | assumption | exact hc_0 | exact hc_1 | exact hc_2 | exact hc_3 | exact hc_4 | exact zz_gs _ _ _) ⟨rfl, by decide⟩ (zz_rc0 mX0_wrongCounts hRm hNS rfl rfl) (Nat.le_of_ble_eq_true rfl) ?_
                refine s_X0_keepCounts ⟨by omega, by omega⟩ (fun Nu50 y50 z50 => ⟨rfl, ?_⟩)
                have q50 : fp n g (g a b) = 8 * a + b := by rw [← e23, ← f30, c45]; omega
                have t71 : tD n g a b = 0 := tD_0 (fun i j i0 i1 j0 j1 => by
                  unfold nu
                  rw [q50, show (8 * a + b) / 8 = a by omega, show (8 * a + b) % 8 = b by omega])
                have n71 : ∀ c, 0 ≤ c → c < 5 → fp n g c ≠ -1 → (fp n g c / 8 < a ∨ (fp n g c / 8 = a ∧ fp n g c % 8 < b + 1)) → ∀ i j, 0 ≤ i → i < 5 → 0 ≤ j → j < 5 → Nu50 (25 * c + 5 * i + j) = nu n g i j c := by
                  intro c c0 c1 c2 c3 i j i0 i1 j0 j1
                  by_cases ec : c = v23
                  · rw [ec, show 25 * v23 + 5 * i + j = 25 * v23 + (5 * i + j) by omega, y50 _ (by omega) (by omega), e30 i j i0 i1 j0 j1]
                    unfold nu
                    rw [e23, q50, show (8 * a + b) / 8 = a by omega, show (8 * a + b) % 8 = b by omega]
                  · rw [z50 _ (by omega)]
                    refine hN2 c c0 c1 c2 ?_ i j i0 i1 j0 j1
                    have h7 := fp_col (n := n) (g := g) ⟨by omega, by omega⟩ c2
                    by_cases e8 : fp n g c / 8 = a ∧ fp n g c % 8 = b
                    · rw [e8.1, e8.2] at h7
                      omega
                    · omega
                refine aw_goto cx 71 dX0_wrongCounts_53 (by decide) ?_
                refine aw_iinc cx 74 dX0_wrongCounts_71 rfl rfl (Nat.le_of_ble_eq_true rfl) rfl ?_
                dsimp only [List.set]
                refine aw_goto cx 12 dX0_wrongCounts_74 (by decide) ?_
                exact aw_weak (ih12 (b + 1) _ _ (by omega) ⟨by omega, by omega⟩ (fun y y0 y1 => by
                  by_cases e : y = b
                  · rw [e]
                    exact t71
                  · exact hy y y0 (by omega)) n71) ⟨rfl, rfl, rfl, True.intro⟩
        exact aw_weak (lp12 (n.toNat + 1) 0 Na Nc (by omega) ⟨by omega, by omega⟩ (fun y y0 y1 => by omega) (fun c c0 c1 c2 c3 => hN c c0 c1 c2 (by have := fp_col (n := n) (g := g) ⟨by omega, by omega⟩ c2; omega))) ⟨rfl, rfl, rfl, True.intro⟩
  exact aw_weak (lp2 (n.toNat + 1) 0 Nu Co (by omega) ⟨by omega, by omega⟩ (fun x y x0 x1 y0 y1 hl => by omega) (fun c c0 c1 c2 c3 => by have := fp_col (n := n) (g := g) ⟨by omega, by omega⟩ c2; omega)) ⟨rfl, rfl, True.intro⟩
set_option maxRecDepth 100000 in
set_option maxHeartbeats 4000000 in
theorem s_X0_firstFailure {h : AH} {Q : Option AV → AH → Prop} {o : Nat} {C F Nu Co : Int → Int} {n r f : Int} {g : Gr} (hn : 1 ≤ n ∧ n ≤ 8) (hA : ag n C g) (hg : rgn n g) (hF : ∀ c, 0 ≤ c → c < 5 → F c = fp n g c) (hr : r = rk n g) (k : ∀ v Nu' Co', v = fl n g → (0 ≤ v ∧ v < 1000) → (v = 0 → ∀ i j k, 0 ≤ i → i < 5 → 0 ≤ j → j < 5 → 0 ≤ k → k < rk n g → Nu' (25 * k + 5 * i + j) = nu n g i j k) → Q (some (vI v)) (hcol h o C F Nu' Co' n r f)) : MC mX0_firstFailure [vR o] (hcol h o C F Nu Co n r f) Q := by
  refine mc_start mX0_firstFailure RX0 "firstFailure" ⟨rfl, rfl, by decide +kernel⟩ [some (vR o), none] ⟨1, rfl⟩ rfl (fun X cx hRm hNS hRet => ?_)
  refine aw_aload_n cx 1 dX0_firstFailure_0 rfl rfl ?_
  refine aw_V0v cx 4 mX0_misplacedZero (ci := 0) dX0_firstFailure_1 rfl okmX0_misplacedZero lkX0_60 (by first | assumption | exact hc_0 | exact hc_1 | exact hc_2 | exact hc_3 | exact hc_4 | exact zz_gs _ _ _) ⟨rfl, by decide⟩ (zz_rc0 mX0_firstFailure hRm hNS rfl rfl) (Nat.le_of_ble_eq_true rfl) ?_
  refine s_X0_misplacedZero hn hA hg (fun v1 e1 w1 => ⟨_, rfl, ?_⟩)
  refine aw_istore_n cx 5 1 dX0_firstFailure_4 rfl rfl ⟨Nat.le_of_ble_eq_true rfl, Nat.le_of_ble_eq_true rfl⟩ rfl ?_
  dsimp only [List.set]
  refine aw_iload_n cx 6 dX0_firstFailure_5 rfl rfl ?_
  refine aw_if_ne cx 9 14 dX0_firstFailure_6 rfl (by decide) ⟨by omega, by omega⟩ (fun c6 => ?_) (fun c6 => ?_)
  · refine aw_iload_n cx 15 dX0_firstFailure_14 rfl rfl ?_
    refine aw_if_ne cx 18 23 dX0_firstFailure_15 rfl (by decide) ⟨by omega, by omega⟩ (fun c15 => ?_) (fun c15 => ?_)
    · first
      | (exfalso; omega)
      | (refine aw_iload_n cx 24 dX0_firstFailure_23 rfl rfl ?_
         refine aw_if_ne cx 27 32 dX0_firstFailure_24 rfl (by decide) ⟨by omega, by omega⟩ (fun c24 => ?_) (fun c24 => ?_)
         · first
           | (exfalso; omega)
           | (refine aw_iload_n cx 33 dX0_firstFailure_32 rfl rfl ?_
              refine aw_ireturn cx dX0_firstFailure_33 ?_
              refine hRet _ _ True.intro rfl ?_
              first
              | exact k _ _ _ (by unfold fl; rw [if_pos (by omega)]; omega) ⟨by omega, by omega⟩ (fun q => by exfalso; omega)
              | exact k _ _ _ (by unfold fl; rw [if_neg (by omega), if_pos (by omega)]; omega) ⟨by omega, by omega⟩ (fun q => by exfalso; omega)
              | exact k _ _ _ (by unfold fl; rw [if_neg (by omega), if_neg (by omega), if_pos (by omega)]; omega) ⟨by omega, by omega⟩ (fun q => by exfalso; omega)
              | exact k _ _ _ (by unfold fl; rw [if_neg (by omega), if_neg (by omega), if_neg (by omega)]; omega) ⟨by omega, by omega⟩ (fun q i j l i0 i1 j0 j1 l0 l1 => z28 q l l0 (by have := rk_b (n := n) (g := g) (by omega) hg; omega) (tB_z (by omega) l l0 (by have := rk_b (n := n) (g := g) (by omega) hg; omega) l1) i j i0 i1 j0 j1))
         · first
           | (exfalso; omega)
           | (refine aw_aload_n cx 28 dX0_firstFailure_27 rfl rfl ?_
              refine aw_V0v cx 31 mX0_wrongCounts (ci := 0) dX0_firstFailure_28 rfl okmX0_wrongCounts lkX0_69 (by first | assumption | exact hc_0 | exact hc_1 | exact hc_2 | exact hc_3 | exact hc_4 | exact zz_gs _ _ _) ⟨rfl, by decide⟩ (zz_rc0 mX0_firstFailure hRm hNS rfl rfl) (Nat.le_of_ble_eq_true rfl) ?_
              refine s_X0_wrongCounts hn hA hg hF (fun v28 Nu28 Co28 e28 w28 z28 => ⟨_, rfl, ?_⟩)
              refine aw_istore_n cx 32 1 dX0_firstFailure_31 rfl rfl ⟨Nat.le_of_ble_eq_true rfl, Nat.le_of_ble_eq_true rfl⟩ rfl ?_
              dsimp only [List.set]
              refine aw_iload_n cx 33 dX0_firstFailure_32 rfl rfl ?_
              refine aw_ireturn cx dX0_firstFailure_33 ?_
              refine hRet _ _ True.intro rfl ?_
              first
              | exact k _ _ _ (by unfold fl; rw [if_pos (by omega)]; omega) ⟨by omega, by omega⟩ (fun q => by exfalso; omega)
              | exact k _ _ _ (by unfold fl; rw [if_neg (by omega), if_pos (by omega)]; omega) ⟨by omega, by omega⟩ (fun q => by exfalso; omega)
              | exact k _ _ _ (by unfold fl; rw [if_neg (by omega), if_neg (by omega), if_pos (by omega)]; omega) ⟨by omega, by omega⟩ (fun q => by exfalso; omega)
              | exact k _ _ _ (by unfold fl; rw [if_neg (by omega), if_neg (by omega), if_neg (by omega)]; omega) ⟨by omega, by omega⟩ (fun q i j l i0 i1 j0 j1 l0 l1 => z28 q l l0 (by have := rk_b (n := n) (g := g) (by omega) hg; omega) (tB_z (by omega) l l0 (by have := rk_b (n := n) (g := g) (by omega) hg; omega) l1) i j i0 i1 j0 j1)))
    · first
      | (exfalso; omega)
      | (refine aw_aload_n cx 19 dX0_firstFailure_18 rfl rfl ?_
         refine aw_V0v cx 22 mX0_wrongReversal (ci := 0) dX0_firstFailure_19 rfl okmX0_wrongReversal lkX0_66 (by first | assumption | exact hc_0 | exact hc_1 | exact hc_2 | exact hc_3 | exact hc_4 | exact zz_gs _ _ _) ⟨rfl, by decide⟩ (zz_rc0 mX0_firstFailure hRm hNS rfl rfl) (Nat.le_of_ble_eq_true rfl) ?_
         refine s_X0_wrongReversal hn hA hg hF (fun v19 e19 w19 => ⟨_, rfl, ?_⟩)
         refine aw_istore_n cx 23 1 dX0_firstFailure_22 rfl rfl ⟨Nat.le_of_ble_eq_true rfl, Nat.le_of_ble_eq_true rfl⟩ rfl ?_
         dsimp only [List.set]
         refine aw_iload_n cx 24 dX0_firstFailure_23 rfl rfl ?_
         refine aw_if_ne cx 27 32 dX0_firstFailure_24 rfl (by decide) ⟨by omega, by omega⟩ (fun c24 => ?_) (fun c24 => ?_)
         · first
           | (exfalso; omega)
           | (refine aw_iload_n cx 33 dX0_firstFailure_32 rfl rfl ?_
              refine aw_ireturn cx dX0_firstFailure_33 ?_
              refine hRet _ _ True.intro rfl ?_
              first
              | exact k _ _ _ (by unfold fl; rw [if_pos (by omega)]; omega) ⟨by omega, by omega⟩ (fun q => by exfalso; omega)
              | exact k _ _ _ (by unfold fl; rw [if_neg (by omega), if_pos (by omega)]; omega) ⟨by omega, by omega⟩ (fun q => by exfalso; omega)
              | exact k _ _ _ (by unfold fl; rw [if_neg (by omega), if_neg (by omega), if_pos (by omega)]; omega) ⟨by omega, by omega⟩ (fun q => by exfalso; omega)
              | exact k _ _ _ (by unfold fl; rw [if_neg (by omega), if_neg (by omega), if_neg (by omega)]; omega) ⟨by omega, by omega⟩ (fun q i j l i0 i1 j0 j1 l0 l1 => z28 q l l0 (by have := rk_b (n := n) (g := g) (by omega) hg; omega) (tB_z (by omega) l l0 (by have := rk_b (n := n) (g := g) (by omega) hg; omega) l1) i j i0 i1 j0 j1))
         · first
           | (exfalso; omega)
           | (refine aw_aload_n cx 28 dX0_firstFailure_27 rfl rfl ?_
              refine aw_V0v cx 31 mX0_wrongCounts (ci := 0) dX0_firstFailure_28 rfl okmX0_wrongCounts lkX0_69 (by first | assumption | exact hc_0 | exact hc_1 | exact hc_2 | exact hc_3 | exact hc_4 | exact zz_gs _ _ _) ⟨rfl, by decide⟩ (zz_rc0 mX0_firstFailure hRm hNS rfl rfl) (Nat.le_of_ble_eq_true rfl) ?_
              refine s_X0_wrongCounts hn hA hg hF (fun v28 Nu28 Co28 e28 w28 z28 => ⟨_, rfl, ?_⟩)
              refine aw_istore_n cx 32 1 dX0_firstFailure_31 rfl rfl ⟨Nat.le_of_ble_eq_true rfl, Nat.le_of_ble_eq_true rfl⟩ rfl ?_
              dsimp only [List.set]
              refine aw_iload_n cx 33 dX0_firstFailure_32 rfl rfl ?_
              refine aw_ireturn cx dX0_firstFailure_33 ?_
              refine hRet _ _ True.intro rfl ?_
              first
              | exact k _ _ _ (by unfold fl; rw [if_pos (by omega)]; omega) ⟨by omega, by omega⟩ (fun q => by exfalso; omega)
              | exact k _ _ _ (by unfold fl; rw [if_neg (by omega), if_pos (by omega)]; omega) ⟨by omega, by omega⟩ (fun q => by exfalso; omega)
              | exact k _ _ _ (by unfold fl; rw [if_neg (by omega), if_neg (by omega), if_pos (by omega)]; omega) ⟨by omega, by omega⟩ (fun q => by exfalso; omega)
              | exact k _ _ _ (by unfold fl; rw [if_neg (by omega), if_neg (by omega), if_neg (by omega)]; omega) ⟨by omega, by omega⟩ (fun q i j l i0 i1 j0 j1 l0 l1 => z28 q l l0 (by have := rk_b (n := n) (g := g) (by omega) hg; omega) (tB_z (by omega) l l0 (by have := rk_b (n := n) (g := g) (by omega) hg; omega) l1) i j i0 i1 j0 j1)))
  · refine aw_aload_n cx 10 dX0_firstFailure_9 rfl rfl ?_
    refine aw_V0v cx 13 mX0_missingColour (ci := 0) dX0_firstFailure_10 rfl okmX0_missingColour lkX0_63 (by first | assumption | exact hc_0 | exact hc_1 | exact hc_2 | exact hc_3 | exact hc_4 | exact zz_gs _ _ _) ⟨rfl, by decide⟩ (zz_rc0 mX0_firstFailure hRm hNS rfl rfl) (Nat.le_of_ble_eq_true rfl) ?_
    refine s_X0_missingColour hn hg hF hr (fun v10 e10 w10 => ⟨_, rfl, ?_⟩)
    refine aw_istore_n cx 14 1 dX0_firstFailure_13 rfl rfl ⟨Nat.le_of_ble_eq_true rfl, Nat.le_of_ble_eq_true rfl⟩ rfl ?_
    dsimp only [List.set]
    refine aw_iload_n cx 15 dX0_firstFailure_14 rfl rfl ?_
    refine aw_if_ne cx 18 23 dX0_firstFailure_15 rfl (by decide) ⟨by omega, by omega⟩ (fun c15 => ?_) (fun c15 => ?_)
    · first
      | (exfalso; omega)
      | (refine aw_iload_n cx 24 dX0_firstFailure_23 rfl rfl ?_
         refine aw_if_ne cx 27 32 dX0_firstFailure_24 rfl (by decide) ⟨by omega, by omega⟩ (fun c24 => ?_) (fun c24 => ?_)
         · first
           | (exfalso; omega)
           | (refine aw_iload_n cx 33 dX0_firstFailure_32 rfl rfl ?_
              refine aw_ireturn cx dX0_firstFailure_33 ?_
              refine hRet _ _ True.intro rfl ?_
              first
              | exact k _ _ _ (by unfold fl; rw [if_pos (by omega)]; omega) ⟨by omega, by omega⟩ (fun q => by exfalso; omega)
              | exact k _ _ _ (by unfold fl; rw [if_neg (by omega), if_pos (by omega)]; omega) ⟨by omega, by omega⟩ (fun q => by exfalso; omega)
              | exact k _ _ _ (by unfold fl; rw [if_neg (by omega), if_neg (by omega), if_pos (by omega)]; omega) ⟨by omega, by omega⟩ (fun q => by exfalso; omega)
              | exact k _ _ _ (by unfold fl; rw [if_neg (by omega), if_neg (by omega), if_neg (by omega)]; omega) ⟨by omega, by omega⟩ (fun q i j l i0 i1 j0 j1 l0 l1 => z28 q l l0 (by have := rk_b (n := n) (g := g) (by omega) hg; omega) (tB_z (by omega) l l0 (by have := rk_b (n := n) (g := g) (by omega) hg; omega) l1) i j i0 i1 j0 j1))
         · first
           | (exfalso; omega)
           | (refine aw_aload_n cx 28 dX0_firstFailure_27 rfl rfl ?_
              refine aw_V0v cx 31 mX0_wrongCounts (ci := 0) dX0_firstFailure_28 rfl okmX0_wrongCounts lkX0_69 (by first | assumption | exact hc_0 | exact hc_1 | exact hc_2 | exact hc_3 | exact hc_4 | exact zz_gs _ _ _) ⟨rfl, by decide⟩ (zz_rc0 mX0_firstFailure hRm hNS rfl rfl) (Nat.le_of_ble_eq_true rfl) ?_
              refine s_X0_wrongCounts hn hA hg hF (fun v28 Nu28 Co28 e28 w28 z28 => ⟨_, rfl, ?_⟩)
              refine aw_istore_n cx 32 1 dX0_firstFailure_31 rfl rfl ⟨Nat.le_of_ble_eq_true rfl, Nat.le_of_ble_eq_true rfl⟩ rfl ?_
              dsimp only [List.set]
              refine aw_iload_n cx 33 dX0_firstFailure_32 rfl rfl ?_
              refine aw_ireturn cx dX0_firstFailure_33 ?_
              refine hRet _ _ True.intro rfl ?_
              first
              | exact k _ _ _ (by unfold fl; rw [if_pos (by omega)]; omega) ⟨by omega, by omega⟩ (fun q => by exfalso; omega)
              | exact k _ _ _ (by unfold fl; rw [if_neg (by omega), if_pos (by omega)]; omega) ⟨by omega, by omega⟩ (fun q => by exfalso; omega)
              | exact k _ _ _ (by unfold fl; rw [if_neg (by omega), if_neg (by omega), if_pos (by omega)]; omega) ⟨by omega, by omega⟩ (fun q => by exfalso; omega)
              | exact k _ _ _ (by unfold fl; rw [if_neg (by omega), if_neg (by omega), if_neg (by omega)]; omega) ⟨by omega, by omega⟩ (fun q i j l i0 i1 j0 j1 l0 l1 => z28 q l l0 (by have := rk_b (n := n) (g := g) (by omega) hg; omega) (tB_z (by omega) l l0 (by have := rk_b (n := n) (g := g) (by omega) hg; omega) l1) i j i0 i1 j0 j1)))
    · first
      | (exfalso; omega)
      | (refine aw_aload_n cx 19 dX0_firstFailure_18 rfl rfl ?_
         refine aw_V0v cx 22 mX0_wrongReversal (ci := 0) dX0_firstFailure_19 rfl okmX0_wrongReversal lkX0_66 (by first | assumption | exact hc_0 | exact hc_1 | exact hc_2 | exact hc_3 | exact hc_4 | exact zz_gs _ _ _) ⟨rfl, by decide⟩ (zz_rc0 mX0_firstFailure hRm hNS rfl rfl) (Nat.le_of_ble_eq_true rfl) ?_
         refine s_X0_wrongReversal hn hA hg hF (fun v19 e19 w19 => ⟨_, rfl, ?_⟩)
         refine aw_istore_n cx 23 1 dX0_firstFailure_22 rfl rfl ⟨Nat.le_of_ble_eq_true rfl, Nat.le_of_ble_eq_true rfl⟩ rfl ?_
         dsimp only [List.set]
         refine aw_iload_n cx 24 dX0_firstFailure_23 rfl rfl ?_
         refine aw_if_ne cx 27 32 dX0_firstFailure_24 rfl (by decide) ⟨by omega, by omega⟩ (fun c24 => ?_) (fun c24 => ?_)
         · first
           | (exfalso; omega)
           | (refine aw_iload_n cx 33 dX0_firstFailure_32 rfl rfl ?_
              refine aw_ireturn cx dX0_firstFailure_33 ?_
              refine hRet _ _ True.intro rfl ?_
              first
              | exact k _ _ _ (by unfold fl; rw [if_pos (by omega)]; omega) ⟨by omega, by omega⟩ (fun q => by exfalso; omega)
              | exact k _ _ _ (by unfold fl; rw [if_neg (by omega), if_pos (by omega)]; omega) ⟨by omega, by omega⟩ (fun q => by exfalso; omega)
              | exact k _ _ _ (by unfold fl; rw [if_neg (by omega), if_neg (by omega), if_pos (by omega)]; omega) ⟨by omega, by omega⟩ (fun q => by exfalso; omega)
              | exact k _ _ _ (by unfold fl; rw [if_neg (by omega), if_neg (by omega), if_neg (by omega)]; omega) ⟨by omega, by omega⟩ (fun q i j l i0 i1 j0 j1 l0 l1 => z28 q l l0 (by have := rk_b (n := n) (g := g) (by omega) hg; omega) (tB_z (by omega) l l0 (by have := rk_b (n := n) (g := g) (by omega) hg; omega) l1) i j i0 i1 j0 j1))
         · first
           | (exfalso; omega)
           | (refine aw_aload_n cx 28 dX0_firstFailure_27 rfl rfl ?_
              refine aw_V0v cx 31 mX0_wrongCounts (ci := 0) dX0_firstFailure_28 rfl okmX0_wrongCounts lkX0_69 (by first | assumption | exact hc_0 | exact hc_1 | exact hc_2 | exact hc_3 | exact hc_4 | exact zz_gs _ _ _) ⟨rfl, by decide⟩ (zz_rc0 mX0_firstFailure hRm hNS rfl rfl) (Nat.le_of_ble_eq_true rfl) ?_
              refine s_X0_wrongCounts hn hA hg hF (fun v28 Nu28 Co28 e28 w28 z28 => ⟨_, rfl, ?_⟩)
              refine aw_istore_n cx 32 1 dX0_firstFailure_31 rfl rfl ⟨Nat.le_of_ble_eq_true rfl, Nat.le_of_ble_eq_true rfl⟩ rfl ?_
              dsimp only [List.set]
              refine aw_iload_n cx 33 dX0_firstFailure_32 rfl rfl ?_
              refine aw_ireturn cx dX0_firstFailure_33 ?_
              refine hRet _ _ True.intro rfl ?_
              first
              | exact k _ _ _ (by unfold fl; rw [if_pos (by omega)]; omega) ⟨by omega, by omega⟩ (fun q => by exfalso; omega)
              | exact k _ _ _ (by unfold fl; rw [if_neg (by omega), if_pos (by omega)]; omega) ⟨by omega, by omega⟩ (fun q => by exfalso; omega)
              | exact k _ _ _ (by unfold fl; rw [if_neg (by omega), if_neg (by omega), if_pos (by omega)]; omega) ⟨by omega, by omega⟩ (fun q => by exfalso; omega)
              | exact k _ _ _ (by unfold fl; rw [if_neg (by omega), if_neg (by omega), if_neg (by omega)]; omega) ⟨by omega, by omega⟩ (fun q i j l i0 i1 j0 j1 l0 l1 => z28 q l l0 (by have := rk_b (n := n) (g := g) (by omega) hg; omega) (tB_z (by omega) l l0 (by have := rk_b (n := n) (g := g) (by omega) hg; omega) l1) i j i0 i1 j0 j1)))
set_option maxRecDepth 100000 in
set_option maxHeartbeats 4000000 in
theorem s_X0_measure {h : AH} {Q : Option AV → AH → Prop} {o : Nat} {C F Nu Co : Int → Int} {n r f : Int} {g : Gr} (hn : 1 ≤ n ∧ n ≤ 8) (hA : ag n C g) (hg : rgn n g) (k : ∀ F' Nu' Co' r' f', msd n g C F' Nu' r' f' → Q none (hcol h o C F' Nu' Co' n r' f')) : MC mX0_measure [vR o] (hcol h o C F Nu Co n r f) Q := by
  refine mc_start mX0_measure RX0 "measure" ⟨rfl, rfl, by decide +kernel⟩ [some (vR o)] ⟨0, rfl⟩ rfl (fun X cx hRm hNS hRet => ?_)
  refine aw_aload_n cx 1 dX0_measure_0 rfl rfl ?_
  refine aw_V0n cx 4 mX0_findFirsts (ci := 0) dX0_measure_1 rfl okmX0_findFirsts lkX0_48 (by first | assumption | exact hc_0 | exact hc_1 | exact hc_2 | exact hc_3 | exact hc_4 | exact zz_gs _ _ _) ⟨rfl, by decide⟩ (zz_rc0 mX0_measure hRm hNS rfl rfl) (Nat.le_of_ble_eq_true rfl) ?_
  refine s_X0_findFirsts hn hA hg (fun F1 e1 => ⟨rfl, ?_⟩)
  refine aw_aload_n cx 5 dX0_measure_4 rfl rfl ?_
  refine aw_aload_n cx 6 dX0_measure_5 rfl rfl ?_
  refine aw_V0v cx 9 mX0_firstFailure (ci := 0) dX0_measure_6 rfl okmX0_firstFailure lkX0_51 (by first | assumption | exact hc_0 | exact hc_1 | exact hc_2 | exact hc_3 | exact hc_4 | exact zz_gs _ _ _) ⟨rfl, by decide⟩ (zz_rc0 mX0_measure hRm hNS rfl rfl) (Nat.le_of_ble_eq_true rfl) ?_
  refine s_X0_firstFailure hn hA hg e1 rfl (fun v6 Nu6 Co6 e6 w6 z6 => ⟨_, rfl, ?_⟩)
  refine aw_putfield cx 12 dX0_measure_9 rfl fdX0_31 (by first | assumption | exact hc_0 | exact hc_1 | exact hc_2 | exact hc_3 | exact hc_4 | exact zz_gs _ _ _) (by exact Nat.le_of_ble_eq_true rfl) rfl ?_
  dsimp only [List.set]
  first | rw [hp_1] | rw [hp_2] | rw [hp_3] | rw [hp_4] | rw [hp_0]
  refine aw_return cx dX0_measure_12 ?_
  refine hRet _ _ rfl rfl ?_
  exact k _ _ _ _ _ ⟨hn, hA, hg, rfl, e6, e1, z6⟩
end
section
set_option maxRecDepth 100000 in
set_option maxHeartbeats 4000000 in
theorem s_X0_begin {h : AH} {Q : Option AV → AH → Prop} {o : Nat} {C F Nu Co : Int → Int} {n r f m : Int} (hm : 1 ≤ m ∧ m ≤ 8) (k : ∀ C' F' Nu' Co' r' f', msd m gB C' F' Nu' r' f' → Q none (hcol h o C' F' Nu' Co' m r' f')) : MC mX0_begin [vR o, vI m] (hcol h o C F Nu Co n r f) Q := by
  refine mc_start mX0_begin RX0 "begin" ⟨rfl, rfl, by decide +kernel⟩ [some (vR o), some (vI m), none, none] ⟨2, rfl⟩ rfl (fun X cx hRm hNS hRet => ?_)
  refine aw_aload_n cx 1 dX0_begin_0 rfl rfl ?_
  refine aw_iload_n cx 2 dX0_begin_1 rfl rfl ?_
  refine aw_putfield cx 5 dX0_begin_2 rfl fdX0_24 (by first | assumption | exact hc_0 | exact hc_1 | exact hc_2 | exact hc_3 | exact hc_4 | exact zz_gs _ _ _) (by exact Nat.le_of_ble_eq_true rfl) rfl ?_
  dsimp only [List.set]
  first | rw [hp_1] | rw [hp_2] | rw [hp_3] | rw [hp_4] | rw [hp_0]
  refine aw_iconst cx 6 dX0_begin_5 rfl ?_
  refine aw_istore_n cx 7 2 dX0_begin_6 rfl rfl ⟨Nat.le_of_ble_eq_true rfl, Nat.le_of_ble_eq_true rfl⟩ rfl ?_
  dsimp only [List.set]
  have lp7 : ∀ (kf : Nat) (a : Int) (Ca : Int → Int), (m - a < (kf : Int)) → (0 ≤ a ∧ a ≤ m) → (∀ x y, 0 ≤ x → x < m → 0 ≤ y → y < m → x < a → Ca (8 * x + y) = gB x y) → AW X 7 [some (vR o), some (vI m), some (vI a), none] [] (hcol h o Ca F Nu Co m r f) := by
    intro kf
    induction kf with
    | zero =>
      intro a Ca hk ha hz
      exfalso
      omega
    | succ kf ih7 =>
      intro a Ca hk ha hz
      refine aw_iload_n cx 8 dX0_begin_7 rfl rfl ?_
      refine aw_iload_n cx 9 dX0_begin_8 rfl rfl ?_
      refine aw_icmp_ge cx 12 47 dX0_begin_9 rfl (by decide) ⟨⟨by omega, by omega⟩, ⟨by omega, by omega⟩⟩ (fun c9 => ?_) (fun c9 => ?_)
      · refine aw_aload_n cx 48 dX0_begin_47 rfl rfl ?_
        have hA : ag m Ca gB := fun x y x0 x1 y0 y1 => hz x y x0 x1 y0 y1 (by omega)
        refine aw_V0n cx 51 mX0_measure (ci := 0) dX0_begin_48 rfl okmX0_measure lkX0_38 (by first | assumption | exact hc_0 | exact hc_1 | exact hc_2 | exact hc_3 | exact hc_4 | exact zz_gs _ _ _) ⟨rfl, by decide⟩ (zz_rc0 mX0_begin hRm hNS rfl rfl) (Nat.le_of_ble_eq_true rfl) ?_
        refine s_X0_measure hm hA (gB_r m) (fun F48 Nu48 Co48 r48 f48 m48 => ⟨rfl, ?_⟩)
        refine aw_return cx dX0_begin_51 ?_
        refine hRet _ _ rfl rfl ?_
        exact k _ _ _ _ _ _ m48
      · refine aw_iconst cx 13 dX0_begin_12 rfl ?_
        refine aw_istore_n cx 14 3 dX0_begin_13 rfl rfl ⟨Nat.le_of_ble_eq_true rfl, Nat.le_of_ble_eq_true rfl⟩ rfl ?_
        dsimp only [List.set]
        have lp14 : ∀ (kf : Nat) (b : Int) (Cb : Int → Int), (m - b < (kf : Int)) → (0 ≤ b ∧ b ≤ m) → (∀ x y, 0 ≤ x → x < m → 0 ≤ y → y < m → lx x y a b → Cb (8 * x + y) = gB x y) → AW X 14 [some (vR o), some (vI m), some (vI a), some (vI b)] [] (hcol h o Cb F Nu Co m r f) := by
          intro kf
          induction kf with
          | zero =>
            intro b Cb hk hb hy
            exfalso
            omega
          | succ kf ih14 =>
            intro b Cb hk hb hy
            refine aw_iload_n cx 15 dX0_begin_14 rfl rfl ?_
            refine aw_iload_n cx 16 dX0_begin_15 rfl rfl ?_
            refine aw_icmp_ge cx 19 41 dX0_begin_16 rfl (by decide) ⟨⟨by omega, by omega⟩, ⟨by omega, by omega⟩⟩ (fun c16 => ?_) (fun c16 => ?_)
            · refine aw_iinc cx 44 dX0_begin_41 rfl rfl (Nat.le_of_ble_eq_true rfl) rfl ?_
              dsimp only [List.set]
              refine aw_goto cx 7 dX0_begin_44 (by decide) ?_
              exact aw_weak (ih7 (a + 1) _ (by omega) ⟨by omega, by omega⟩ (fun x y x0 x1 y0 y1 hl => hy x y x0 x1 y0 y1 (by omega))) (by simp [zz_le])
            · refine aw_aload_n cx 20 dX0_begin_19 rfl rfl ?_
              refine aw_iload_n cx 21 dX0_begin_20 rfl rfl ?_
              refine aw_iload_n cx 22 dX0_begin_21 rfl rfl ?_
              refine aw_iload_n cx 23 dX0_begin_22 rfl rfl ?_
              refine aw_iload_n cx 24 dX0_begin_23 rfl rfl ?_
              refine aw_icmp_ne cx 27 31 dX0_begin_24 rfl (by decide) ⟨⟨by omega, by omega⟩, ⟨by omega, by omega⟩⟩ (fun c24 => ?_) (fun c24 => ?_)
              · refine aw_iconst cx 32 dX0_begin_31 rfl ?_
                refine aw_V3n cx 35 mX0_paint (ci := 0) dX0_begin_32 rfl okmX0_paint lkX0_34 (by first | assumption | exact hc_0 | exact hc_1 | exact hc_2 | exact hc_3 | exact hc_4 | exact zz_gs _ _ _) ⟨rfl, by decide⟩ (zz_rc0 mX0_begin hRm hNS rfl rfl) (Nat.le_of_ble_eq_true rfl) ?_
                refine s_X0_paint (by first | assumption | exact hc_0 | exact hc_1 | exact hc_2 | exact hc_3 | exact hc_4 | exact (hc_x (by omega)).trans (by first | assumption | exact hc_0 | exact hc_1 | exact hc_2 | exact hc_3 | exact hc_4)) (by first | assumption | exact hc_0 | exact hc_1 | exact hc_2 | exact hc_3 | exact hc_4 | exact (hc_x (by omega)).trans (by first | assumption | exact hc_0 | exact hc_1 | exact hc_2 | exact hc_3 | exact hc_4)) ⟨by omega, by omega⟩ ⟨by omega, by omega⟩ ⟨rfl, ?_⟩
                rw [hp_1]
                refine aw_iinc cx 38 dX0_begin_35 rfl rfl (Nat.le_of_ble_eq_true rfl) rfl ?_
                dsimp only [List.set]
                refine aw_goto cx 14 dX0_begin_38 (by decide) ?_
                exact aw_weak (ih14 (b + 1) _ (by omega) ⟨by omega, by omega⟩ (fun x y x0 x1 y0 y1 hl => by
                  rw [up_at ⟨by omega, by omega⟩ ⟨by omega, by omega⟩]
                  by_cases e : x = a ∧ y = b
                  · rw [if_pos e, e.1, e.2]
                    unfold gB
                    first
                    | rw [if_pos (by omega)]
                    | rw [if_neg (by omega)]
                  · rw [if_neg e]
                    exact hy x y x0 x1 y0 y1 (by omega))) (by simp [zz_le])
              · refine aw_iconst cx 28 dX0_begin_27 rfl ?_
                refine aw_goto cx 32 dX0_begin_28 (by decide) ?_
                refine aw_V3n cx 35 mX0_paint (ci := 0) dX0_begin_32 rfl okmX0_paint lkX0_34 (by first | assumption | exact hc_0 | exact hc_1 | exact hc_2 | exact hc_3 | exact hc_4 | exact zz_gs _ _ _) ⟨rfl, by decide⟩ (zz_rc0 mX0_begin hRm hNS rfl rfl) (Nat.le_of_ble_eq_true rfl) ?_
                refine s_X0_paint (by first | assumption | exact hc_0 | exact hc_1 | exact hc_2 | exact hc_3 | exact hc_4 | exact (hc_x (by omega)).trans (by first | assumption | exact hc_0 | exact hc_1 | exact hc_2 | exact hc_3 | exact hc_4)) (by first | assumption | exact hc_0 | exact hc_1 | exact hc_2 | exact hc_3 | exact hc_4 | exact (hc_x (by omega)).trans (by first | assumption | exact hc_0 | exact hc_1 | exact hc_2 | exact hc_3 | exact hc_4)) ⟨by omega, by omega⟩ ⟨by omega, by omega⟩ ⟨rfl, ?_⟩
                rw [hp_1]
                refine aw_iinc cx 38 dX0_begin_35 rfl rfl (Nat.le_of_ble_eq_true rfl) rfl ?_
                dsimp only [List.set]
                refine aw_goto cx 14 dX0_begin_38 (by decide) ?_
                exact aw_weak (ih14 (b + 1) _ (by omega) ⟨by omega, by omega⟩ (fun x y x0 x1 y0 y1 hl => by
                  rw [up_at ⟨by omega, by omega⟩ ⟨by omega, by omega⟩]
                  by_cases e : x = a ∧ y = b
                  · rw [if_pos e, e.1, e.2]
                    unfold gB
                    first
                    | rw [if_pos (by omega)]
                    | rw [if_neg (by omega)]
                  · rw [if_neg e]
                    exact hy x y x0 x1 y0 y1 (by omega))) (by simp [zz_le])
        exact aw_weak (lp14 (m.toNat + 1) 0 Ca (by omega) ⟨by omega, by omega⟩ (fun x y x0 x1 y0 y1 hl => hz x y x0 x1 y0 y1 (by omega))) (by simp [zz_le])
  exact aw_weak (lp7 (m.toNat + 1) 0 C (by omega) ⟨by omega, by omega⟩ (fun x y x0 x1 y0 y1 hl => by omega)) (by simp [zz_le])
set_option maxRecDepth 100000 in
set_option maxHeartbeats 4000000 in
theorem s_X0_fusedColour {h : AH} {Q : Option AV → AH → Prop} {mp c : Int} (hm : 0 ≤ mp ∧ mp < 2147483648) (hc : 0 ≤ c ∧ c ≤ 4) (k : ∀ v, v = fz mp c → Q (some (vI v)) h) : MC mX0_fusedColour [vI mp, vI c] h Q := by
  refine mc_start mX0_fusedColour RX0 "fusedColour" ⟨rfl, rfl, by decide +kernel⟩ [some (vI mp), some (vI c), none, none] ⟨2, rfl⟩ rfl (fun X cx hRm hNS hRet => ?_)
  refine aw_iload_n cx 1 dX0_fusedColour_0 rfl rfl ?_
  refine aw_if_ne cx 4 6 dX0_fusedColour_1 rfl (by decide) ⟨by omega, by omega⟩ (fun c1 => ?_) (fun c1 => ?_)
  · refine aw_iload_n cx 7 dX0_fusedColour_6 rfl rfl ?_
    refine aw_istore_n cx 8 2 dX0_fusedColour_7 rfl rfl ⟨Nat.le_of_ble_eq_true rfl, Nat.le_of_ble_eq_true rfl⟩ rfl ?_
    dsimp only [List.set]
    refine aw_iconst cx 9 dX0_fusedColour_8 rfl ?_
    refine aw_istore_n cx 10 3 dX0_fusedColour_9 rfl rfl ⟨Nat.le_of_ble_eq_true rfl, Nat.le_of_ble_eq_true rfl⟩ rfl ?_
    dsimp only [List.set]
    have lp10 : ∀ (kf : Nat) (l e : Int), (c - l < (kf : Int)) → (1 ≤ l ∧ l ≤ c) → e = dv mp l → AW X 10 [some (vI mp), some (vI c), some (vI e), some (vI l)] [] (h) := by
      intro kf
      induction kf with
      | zero =>
        intro l e hk hl he
        exfalso
        omega
      | succ kf ih10 =>
        intro l e hk hl he
        have hd := dv_b (mp := mp) (l := l) hm.1
        refine aw_iload_n cx 11 dX0_fusedColour_10 rfl rfl ?_
        refine aw_iload_n cx 12 dX0_fusedColour_11 rfl rfl ?_
        refine aw_icmp_ge cx 15 25 dX0_fusedColour_12 rfl (by decide) ⟨⟨by omega, by omega⟩, ⟨by omega, by omega⟩⟩ (fun c12 => ?_) (fun c12 => ?_)
        · refine aw_iload_n cx 26 dX0_fusedColour_25 rfl rfl ?_
          refine aw_iconst cx 27 dX0_fusedColour_26 rfl ?_
          refine aw_iremN cx 28 dX0_fusedColour_27 rfl ⟨by omega, by omega, by omega, by omega⟩ ?_
          refine aw_ireturn cx dX0_fusedColour_28 ?_
          refine hRet _ _ True.intro rfl ?_
          exact k _ (by unfold fz; rw [if_neg (by omega), he, show l = c by omega])
        · refine aw_iload_n cx 16 dX0_fusedColour_15 rfl rfl ?_
          refine aw_iconst cx 17 dX0_fusedColour_16 rfl ?_
          refine aw_idivN cx 18 dX0_fusedColour_17 rfl ⟨by omega, by omega, by omega, by omega⟩ ?_
          refine aw_istore_n cx 19 2 dX0_fusedColour_18 rfl rfl ⟨Nat.le_of_ble_eq_true rfl, Nat.le_of_ble_eq_true rfl⟩ rfl ?_
          dsimp only [List.set]
          refine aw_iinc cx 22 dX0_fusedColour_19 rfl rfl (Nat.le_of_ble_eq_true rfl) rfl ?_
          dsimp only [List.set]
          refine aw_goto cx 10 dX0_fusedColour_22 (by decide) ?_
          exact ih10 (l + 1) _ (by omega) ⟨by omega, by omega⟩ (by rw [dv_s hm.1 ⟨by omega, by omega⟩, he])
    exact lp10 5 1 mp (by omega) ⟨by omega, by omega⟩ rfl
  · refine aw_iconst cx 5 dX0_fusedColour_4 rfl ?_
    refine aw_ireturn cx dX0_fusedColour_5 ?_
    refine hRet _ _ True.intro rfl ?_
    exact k _ (by unfold fz; rw [if_pos (by omega)])
set_option maxRecDepth 100000 in
set_option maxHeartbeats 4000000 in
theorem s_X0_paintFused {h : AH} {Q : Option AV → AH → Prop} {o q : Nat} {C F Nu Co C2 F2 Nu2 Co2 : Int → Int} {n r f n2 r2 f2 mp : Int} {g : Gr} (hq : q + 4 < o ∨ o + 4 < q) (hn : 1 ≤ n ∧ n ≤ 8) (hA : ag n C g) (hg : rgn n g) (hm : 0 ≤ mp ∧ mp < 2147483648) (k : ∀ C' F' Nu' Co' r' f', msd n (gF mp g) C' F' Nu' r' f' → Q none (hcol (hcol h q C F Nu Co n r f) o C' F' Nu' Co' n r' f')) : MC mX0_paintFused [vR o, vR q, vI mp] (hcol (hcol h q C F Nu Co n r f) o C2 F2 Nu2 Co2 n2 r2 f2) Q := by
  refine mc_start mX0_paintFused RX0 "paintFused" ⟨rfl, rfl, by decide +kernel⟩ [some (vR o), some (vR q), some (vI mp), none, none] ⟨2, rfl⟩ rfl (fun X cx hRm hNS hRet => ?_)
  refine aw_aload_n cx 1 dX0_paintFused_0 rfl rfl ?_
  refine aw_aload_n cx 2 dX0_paintFused_1 rfl rfl ?_
  refine aw_getfield cx 5 dX0_paintFused_2 rfl fdX0_24 (by first | assumption | exact hc_0 | exact hc_1 | exact hc_2 | exact hc_3 | exact hc_4 | exact (hc_x (by omega)).trans (by first | assumption | exact hc_0 | exact hc_1 | exact hc_2 | exact hc_3 | exact hc_4)) (by rfl) ?_
  refine aw_putfield cx 8 dX0_paintFused_5 rfl fdX0_24 (by first | assumption | exact hc_0 | exact hc_1 | exact hc_2 | exact hc_3 | exact hc_4 | exact (hc_x (by omega)).trans (by first | assumption | exact hc_0 | exact hc_1 | exact hc_2 | exact hc_3 | exact hc_4)) (by exact Nat.le_of_ble_eq_true rfl) rfl ?_
  dsimp only [List.set]
  first | rw [hp_1] | rw [hp_2] | rw [hp_3] | rw [hp_4] | rw [hp_0]
  refine aw_iconst cx 9 dX0_paintFused_8 rfl ?_
  refine aw_istore_n cx 10 3 dX0_paintFused_9 rfl rfl ⟨Nat.le_of_ble_eq_true rfl, Nat.le_of_ble_eq_true rfl⟩ rfl ?_
  dsimp only [List.set]
  have lp10 : ∀ (kf : Nat) (a : Int) (Ca : Int → Int), (n - a < (kf : Int)) → (0 ≤ a ∧ a ≤ n) → (∀ x y, 0 ≤ x → x < n → 0 ≤ y → y < n → x < a → Ca (8 * x + y) = gF mp g x y) → AW X 10 [some (vR o), some (vR q), some (vI mp), some (vI a), none] [] (hcol (hcol h q C F Nu Co n r f) o Ca F2 Nu2 Co2 n r2 f2) := by
    intro kf
    induction kf with
    | zero =>
      intro a Ca hk ha hz
      exfalso
      omega
    | succ kf ih10 =>
      intro a Ca hk ha hz
      refine aw_iload_n cx 11 dX0_paintFused_10 rfl rfl ?_
      refine aw_aload_n cx 12 dX0_paintFused_11 rfl rfl ?_
      refine aw_getfield cx 15 dX0_paintFused_12 rfl fdX0_24 (by first | assumption | exact hc_0 | exact hc_1 | exact hc_2 | exact hc_3 | exact hc_4 | exact (hc_x (by omega)).trans (by first | assumption | exact hc_0 | exact hc_1 | exact hc_2 | exact hc_3 | exact hc_4)) (by rfl) ?_
      refine aw_icmp_ge cx 18 60 dX0_paintFused_15 rfl (by decide) ⟨⟨by omega, by omega⟩, ⟨by omega, by omega⟩⟩ (fun c15 => ?_) (fun c15 => ?_)
      · refine aw_aload_n cx 61 dX0_paintFused_60 rfl rfl ?_
        have hA2 : ag n Ca (gF mp g) := fun x y x0 x1 y0 y1 => hz x y x0 x1 y0 y1 (by omega)
        refine aw_V0n cx 64 mX0_measure (ci := 0) dX0_paintFused_61 rfl okmX0_measure lkX0_38 (by first | assumption | exact hc_0 | exact hc_1 | exact hc_2 | exact hc_3 | exact hc_4 | exact (hc_x (by omega)).trans (by first | assumption | exact hc_0 | exact hc_1 | exact hc_2 | exact hc_3 | exact hc_4)) ⟨rfl, by decide⟩ (zz_rc0 mX0_paintFused hRm hNS rfl rfl) (Nat.le_of_ble_eq_true rfl) ?_
        refine s_X0_measure hn hA2 (gF_r hm.1) (fun F61 Nu61 Co61 r61 f61 m61 => ⟨rfl, ?_⟩)
        refine aw_return cx dX0_paintFused_64 ?_
        refine hRet _ _ rfl rfl ?_
        exact k _ _ _ _ _ _ m61
      · refine aw_iconst cx 19 dX0_paintFused_18 rfl ?_
        refine aw_istore cx 21 dX0_paintFused_19 rfl ⟨Nat.le_of_ble_eq_true rfl, Nat.le_of_ble_eq_true rfl⟩ rfl ?_
        dsimp only [List.set]
        have lp21 : ∀ (kf : Nat) (b : Int) (Cb : Int → Int), (n - b < (kf : Int)) → (0 ≤ b ∧ b ≤ n) → (∀ x y, 0 ≤ x → x < n → 0 ≤ y → y < n → lx x y a b → Cb (8 * x + y) = gF mp g x y) → AW X 21 [some (vR o), some (vR q), some (vI mp), some (vI a), some (vI b)] [] (hcol (hcol h q C F Nu Co n r f) o Cb F2 Nu2 Co2 n r2 f2) := by
          intro kf
          induction kf with
          | zero =>
            intro b Cb hk hb hy
            exfalso
            omega
          | succ kf ih21 =>
            intro b Cb hk hb hy
            refine aw_iload cx 23 dX0_paintFused_21 rfl rfl ?_
            refine aw_aload_n cx 24 dX0_paintFused_23 rfl rfl ?_
            refine aw_getfield cx 27 dX0_paintFused_24 rfl fdX0_24 (by first | assumption | exact hc_0 | exact hc_1 | exact hc_2 | exact hc_3 | exact hc_4 | exact (hc_x (by omega)).trans (by first | assumption | exact hc_0 | exact hc_1 | exact hc_2 | exact hc_3 | exact hc_4)) (by rfl) ?_
            refine aw_icmp_ge cx 30 54 dX0_paintFused_27 rfl (by decide) ⟨⟨by omega, by omega⟩, ⟨by omega, by omega⟩⟩ (fun c27 => ?_) (fun c27 => ?_)
            · refine aw_iinc cx 57 dX0_paintFused_54 rfl rfl (Nat.le_of_ble_eq_true rfl) rfl ?_
              dsimp only [List.set]
              refine aw_goto cx 10 dX0_paintFused_57 (by decide) ?_
              exact aw_weak (ih10 (a + 1) _ (by omega) ⟨by omega, by omega⟩ (fun x y x0 x1 y0 y1 hl => hy x y x0 x1 y0 y1 (by omega))) (by simp [zz_le])
            · refine aw_aload_n cx 31 dX0_paintFused_30 rfl rfl ?_
              refine aw_iload_n cx 32 dX0_paintFused_31 rfl rfl ?_
              refine aw_iload cx 34 dX0_paintFused_32 rfl rfl ?_
              refine aw_iload_n cx 35 dX0_paintFused_34 rfl rfl ?_
              refine aw_aload_n cx 36 dX0_paintFused_35 rfl rfl ?_
              refine aw_iload_n cx 37 dX0_paintFused_36 rfl rfl ?_
              refine aw_iload cx 39 dX0_paintFused_37 rfl rfl ?_
              refine aw_V2v cx 42 mX0_colourOf (ci := 0) dX0_paintFused_39 rfl okmX0_colourOf lkX0_41 (by first | assumption | exact hc_0 | exact hc_1 | exact hc_2 | exact hc_3 | exact hc_4 | exact (hc_x (by omega)).trans (by first | assumption | exact hc_0 | exact hc_1 | exact hc_2 | exact hc_3 | exact hc_4)) ⟨rfl, by decide⟩ (zz_rc0 mX0_paintFused hRm hNS rfl rfl) (Nat.le_of_ble_eq_true rfl) ?_
              refine s_X0_colourOf (by first | assumption | exact hc_0 | exact hc_1 | exact hc_2 | exact hc_3 | exact hc_4 | exact (hc_x (by omega)).trans (by first | assumption | exact hc_0 | exact hc_1 | exact hc_2 | exact hc_3 | exact hc_4)) (by first | assumption | exact hc_0 | exact hc_1 | exact hc_2 | exact hc_3 | exact hc_4 | exact (hc_x (by omega)).trans (by first | assumption | exact hc_0 | exact hc_1 | exact hc_2 | exact hc_3 | exact hc_4)) ⟨by omega, by omega⟩ ⟨by omega, by omega⟩ (fun v39 e39 => ⟨_, rfl, ?_⟩)
              rw [hA a b (by omega) (by omega) (by omega) (by omega)] at e39
              have w39 := hg a b (by omega) (by omega) (by omega) (by omega)
              refine aw_S2v cx 45 mX0_fusedColour dX0_paintFused_42 rfl okmX0_fusedColour lkX0_45 (zz_rc0 mX0_paintFused hRm hNS rfl rfl) (Nat.le_of_ble_eq_true rfl) ?_
              refine s_X0_fusedColour ⟨by omega, by omega⟩ ⟨by omega, by omega⟩ (fun v42 e42 => ⟨_, rfl, ?_⟩)
              refine aw_V3n cx 48 mX0_paint (ci := 0) dX0_paintFused_45 rfl okmX0_paint lkX0_34 (by first | assumption | exact hc_0 | exact hc_1 | exact hc_2 | exact hc_3 | exact hc_4 | exact (hc_x (by omega)).trans (by first | assumption | exact hc_0 | exact hc_1 | exact hc_2 | exact hc_3 | exact hc_4)) ⟨rfl, by decide⟩ (zz_rc0 mX0_paintFused hRm hNS rfl rfl) (Nat.le_of_ble_eq_true rfl) ?_
              refine s_X0_paint (by first | assumption | exact hc_0 | exact hc_1 | exact hc_2 | exact hc_3 | exact hc_4 | exact (hc_x (by omega)).trans (by first | assumption | exact hc_0 | exact hc_1 | exact hc_2 | exact hc_3 | exact hc_4)) (by first | assumption | exact hc_0 | exact hc_1 | exact hc_2 | exact hc_3 | exact hc_4 | exact (hc_x (by omega)).trans (by first | assumption | exact hc_0 | exact hc_1 | exact hc_2 | exact hc_3 | exact hc_4)) ⟨by omega, by omega⟩ ⟨by omega, by omega⟩ ⟨rfl, ?_⟩
              rw [hp_1]
              refine aw_iinc cx 51 dX0_paintFused_48 rfl rfl (Nat.le_of_ble_eq_true rfl) rfl ?_
              dsimp only [List.set]
              refine aw_goto cx 21 dX0_paintFused_51 (by decide) ?_
              exact aw_weak (ih21 (b + 1) _ (by omega) ⟨by omega, by omega⟩ (fun x y x0 x1 y0 y1 hl => by
                rw [up_at ⟨by omega, by omega⟩ ⟨by omega, by omega⟩]
                by_cases e : x = a ∧ y = b
                · rw [if_pos e, e.1, e.2]
                  unfold gF
                  rw [e42, e39]
                · rw [if_neg e]
                  exact hy x y x0 x1 y0 y1 (by omega))) (by simp [zz_le])
        exact aw_weak (lp21 (n.toNat + 1) 0 Ca (by omega) ⟨by omega, by omega⟩ (fun x y x0 x1 y0 y1 hl => hz x y x0 x1 y0 y1 (by omega))) (by simp [zz_le])
  exact aw_weak (lp10 (n.toNat + 1) 0 C2 (by omega) ⟨by omega, by omega⟩ (fun x y x0 x1 y0 y1 hl => by omega)) (by simp [zz_le])
set_option maxRecDepth 100000 in
set_option maxHeartbeats 4000000 in
theorem s_X0_paintRing {h : AH} {Q : Option AV → AH → Prop} {o : Nat} {C F Nu Co : Int → Int} {n r f d : Int} (hn : 1 ≤ n ∧ n ≤ 8) (hd : 0 ≤ d ∧ d < 2147483648) (k : ∀ C' F' Nu' Co' r' f', msd n (gR n d) C' F' Nu' r' f' → Q none (hcol h o C' F' Nu' Co' n r' f')) : MC mX0_paintRing [vR o, vI d] (hcol h o C F Nu Co n r f) Q := by
  refine mc_start mX0_paintRing RX0 "paintRing" ⟨rfl, rfl, by decide +kernel⟩ [some (vR o), some (vI d), none, none, none, none, none] ⟨5, rfl⟩ rfl (fun X cx hRm hNS hRet => ?_)
  refine aw_iload_n cx 1 dX0_paintRing_0 rfl rfl ?_
  refine aw_istore_n cx 2 2 dX0_paintRing_1 rfl rfl ⟨Nat.le_of_ble_eq_true rfl, Nat.le_of_ble_eq_true rfl⟩ rfl ?_
  dsimp only [List.set]
  refine aw_iconst cx 3 dX0_paintRing_2 rfl ?_
  refine aw_istore_n cx 4 3 dX0_paintRing_3 rfl rfl ⟨Nat.le_of_ble_eq_true rfl, Nat.le_of_ble_eq_true rfl⟩ rfl ?_
  dsimp only [List.set]
  have lp4 : ∀ (kf : Nat) (a : Int) (Ca : Int → Int), (n - a < (kf : Int)) → (0 ≤ a ∧ a ≤ n) → (∀ x y, 0 ≤ x → x < n → 0 ≤ y → y < n → x = y ∧ x < a → Ca (8 * x + y) = gR n d x y) → AW X 4 [some (vR o), some (vI d), some (vI d), some (vI a), none, none, none] [] (hcol h o Ca F Nu Co n r f) := by
    intro kf
    induction kf with
    | zero =>
      intro a Ca hk ha hz
      exfalso
      omega
    | succ kf ih4 =>
      intro a Ca hk ha hz
      refine aw_iload_n cx 5 dX0_paintRing_4 rfl rfl ?_
      refine aw_aload_n cx 6 dX0_paintRing_5 rfl rfl ?_
      refine aw_getfield cx 9 dX0_paintRing_6 rfl fdX0_24 (by first | assumption | exact hc_0 | exact hc_1 | exact hc_2 | exact hc_3 | exact hc_4 | exact zz_gs _ _ _) (by rfl) ?_
      refine aw_icmp_ge cx 12 25 dX0_paintRing_9 rfl (by decide) ⟨⟨by omega, by omega⟩, ⟨by omega, by omega⟩⟩ (fun c9 => ?_) (fun c9 => ?_)
      · refine aw_iconst cx 26 dX0_paintRing_25 rfl ?_
        refine aw_istore_n cx 27 3 dX0_paintRing_26 rfl rfl ⟨Nat.le_of_ble_eq_true rfl, Nat.le_of_ble_eq_true rfl⟩ rfl ?_
        dsimp only [List.set]
        have lp27 : ∀ (kf : Nat) (s e : Int) (Cs : Int → Int), (n - s < (kf : Int)) → (1 ≤ s ∧ s ≤ n) → e = dq d (s - 1) → (∀ x y, 0 ≤ x → x < n → 0 ≤ y → y < n → x = y ∨ kR n x y < s → Cs (8 * x + y) = gR n d x y) → AW X 27 [some (vR o), some (vI d), some (vI e), some (vI s), none, none, none] [] (hcol h o Cs F Nu Co n r f) := by
          intro kf
          induction kf with
          | zero =>
            intro s e Cs hk hs he hy
            exfalso
            omega
          | succ kf ih27 =>
            intro s e Cs hk hs he hy
            have hdb := dq_b (d := d) (s := s - 1) hd.1 (by omega)
            refine aw_iload_n cx 28 dX0_paintRing_27 rfl rfl ?_
            refine aw_aload_n cx 29 dX0_paintRing_28 rfl rfl ?_
            refine aw_getfield cx 32 dX0_paintRing_29 rfl fdX0_24 (by first | assumption | exact hc_0 | exact hc_1 | exact hc_2 | exact hc_3 | exact hc_4 | exact zz_gs _ _ _) (by rfl) ?_
            refine aw_icmp_ge cx 35 103 dX0_paintRing_32 rfl (by decide) ⟨⟨by omega, by omega⟩, ⟨by omega, by omega⟩⟩ (fun c32 => ?_) (fun c32 => ?_)
            · refine aw_aload_n cx 104 dX0_paintRing_103 rfl rfl ?_
              have hA : ag n Cs (gR n d) := fun x y x0 x1 y0 y1 => hy x y x0 x1 y0 y1 (by
                refine Or.inr ?_
                unfold kR
                split <;> omega)
              refine aw_V0n cx 107 mX0_measure (ci := 0) dX0_paintRing_104 rfl okmX0_measure lkX0_38 (by first | assumption | exact hc_0 | exact hc_1 | exact hc_2 | exact hc_3 | exact hc_4 | exact zz_gs _ _ _) ⟨rfl, by decide⟩ (zz_rc0 mX0_paintRing hRm hNS rfl rfl) (Nat.le_of_ble_eq_true rfl) ?_
              refine s_X0_measure hn hA gR_r (fun F104 Nu104 Co104 r104 f104 m104 => ⟨rfl, ?_⟩)
              refine aw_return cx dX0_paintRing_107 ?_
              refine hRet _ _ rfl rfl ?_
              exact k _ _ _ _ _ _ m104
            · refine aw_iload_n cx 36 dX0_paintRing_35 rfl rfl ?_
              refine aw_iconst cx 37 dX0_paintRing_36 rfl ?_
              refine aw_iremN cx 38 dX0_paintRing_37 rfl ⟨by omega, by omega, by omega, by omega⟩ ?_
              refine aw_istore cx 40 dX0_paintRing_38 rfl ⟨Nat.le_of_ble_eq_true rfl, Nat.le_of_ble_eq_true rfl⟩ rfl ?_
              dsimp only [List.set]
              refine aw_iload_n cx 41 dX0_paintRing_40 rfl rfl ?_
              refine aw_iconst cx 42 dX0_paintRing_41 rfl ?_
              refine aw_idivN cx 43 dX0_paintRing_42 rfl ⟨by omega, by omega, by omega, by omega⟩ ?_
              refine aw_istore_n cx 44 2 dX0_paintRing_43 rfl rfl ⟨Nat.le_of_ble_eq_true rfl, Nat.le_of_ble_eq_true rfl⟩ rfl ?_
              dsimp only [List.set]
              refine aw_iconst cx 45 dX0_paintRing_44 rfl ?_
              refine aw_istore cx 47 dX0_paintRing_45 rfl ⟨Nat.le_of_ble_eq_true rfl, Nat.le_of_ble_eq_true rfl⟩ rfl ?_
              dsimp only [List.set]
              have lp47 : ∀ (kf : Nat) (a1 : Int) (Cx : Int → Int), (n - a1 < (kf : Int)) → (0 ≤ a1 ∧ a1 ≤ n) → (∀ x y, 0 ≤ x → x < n → 0 ≤ y → y < n → x = y ∨ kR n x y < s ∨ (kR n x y = s ∧ x < a1) → Cx (8 * x + y) = gR n d x y) → AW X 47 [some (vR o), some (vI d), some (vI (e / 5)), some (vI s), some (vI (e % 5)), some (vI a1), none] [] (hcol h o Cx F Nu Co n r f) := by
                intro kf
                induction kf with
                | zero =>
                  intro a1 Cx hk ha1 hx
                  exfalso
                  omega
                | succ kf ih47 =>
                  intro a1 Cx hk ha1 hx
                  refine aw_iload cx 49 dX0_paintRing_47 rfl rfl ?_
                  refine aw_aload_n cx 50 dX0_paintRing_49 rfl rfl ?_
                  refine aw_getfield cx 53 dX0_paintRing_50 rfl fdX0_24 (by first | assumption | exact hc_0 | exact hc_1 | exact hc_2 | exact hc_3 | exact hc_4 | exact zz_gs _ _ _) (by rfl) ?_
                  refine aw_icmp_ge cx 56 97 dX0_paintRing_53 rfl (by decide) ⟨⟨by omega, by omega⟩, ⟨by omega, by omega⟩⟩ (fun c53 => ?_) (fun c53 => ?_)
                  · refine aw_iinc cx 100 dX0_paintRing_97 rfl rfl (Nat.le_of_ble_eq_true rfl) rfl ?_
                    dsimp only [List.set]
                    refine aw_goto cx 27 dX0_paintRing_100 (by decide) ?_
                    exact aw_weak (ih27 (s + 1) (e / 5) _ (by omega) ⟨by omega, by omega⟩ (by rw [he, ← dq_s (by omega), show s - 1 + 1 = s + 1 - 1 by omega]) (fun x y x0 x1 y0 y1 hl => hx x y x0 x1 y0 y1 (by omega))) (by simp [zz_le])
                  · refine aw_iload cx 58 dX0_paintRing_56 rfl rfl ?_
                    refine aw_iload_n cx 59 dX0_paintRing_58 rfl rfl ?_
                    refine aw_iadd cx 60 dX0_paintRing_59 rfl ?_
                    refine aw_istore cx 62 dX0_paintRing_60 rfl ⟨Nat.le_of_ble_eq_true rfl, Nat.le_of_ble_eq_true rfl⟩ rfl ?_
                    dsimp only [List.set]
                    refine aw_aload_n cx 63 dX0_paintRing_62 rfl rfl ?_
                    refine aw_iload cx 65 dX0_paintRing_63 rfl rfl ?_
                    refine aw_iload cx 67 dX0_paintRing_65 rfl rfl ?_
                    refine aw_aload_n cx 68 dX0_paintRing_67 rfl rfl ?_
                    refine aw_getfield cx 71 dX0_paintRing_68 rfl fdX0_24 (by first | assumption | exact hc_0 | exact hc_1 | exact hc_2 | exact hc_3 | exact hc_4 | exact zz_gs _ _ _) (by rfl) ?_
                    refine aw_icmp_ge cx 74 79 dX0_paintRing_71 rfl (by decide) ⟨⟨by omega, by omega⟩, ⟨by omega, by omega⟩⟩ (fun c71 => ?_) (fun c71 => ?_)
                    · refine aw_iload cx 81 dX0_paintRing_79 rfl rfl ?_
                      refine aw_aload_n cx 82 dX0_paintRing_81 rfl rfl ?_
                      refine aw_getfield cx 85 dX0_paintRing_82 rfl fdX0_24 (by first | assumption | exact hc_0 | exact hc_1 | exact hc_2 | exact hc_3 | exact hc_4 | exact zz_gs _ _ _) (by rfl) ?_
                      refine aw_isub cx 86 dX0_paintRing_85 rfl ?_
                      refine aw_iload cx 88 dX0_paintRing_86 rfl rfl ?_
                      refine aw_V3n cx 91 mX0_paint (ci := 0) dX0_paintRing_88 rfl okmX0_paint lkX0_34 (by first | assumption | exact hc_0 | exact hc_1 | exact hc_2 | exact hc_3 | exact hc_4 | exact zz_gs _ _ _) ⟨rfl, by decide⟩ (zz_rc0 mX0_paintRing hRm hNS rfl rfl) (Nat.le_of_ble_eq_true rfl) ?_
                      refine s_X0_paint (by first | assumption | exact hc_0 | exact hc_1 | exact hc_2 | exact hc_3 | exact hc_4 | exact (hc_x (by omega)).trans (by first | assumption | exact hc_0 | exact hc_1 | exact hc_2 | exact hc_3 | exact hc_4)) (by first | assumption | exact hc_0 | exact hc_1 | exact hc_2 | exact hc_3 | exact hc_4 | exact (hc_x (by omega)).trans (by first | assumption | exact hc_0 | exact hc_1 | exact hc_2 | exact hc_3 | exact hc_4)) ⟨by omega, by omega⟩ ⟨by omega, by omega⟩ ⟨rfl, ?_⟩
                      rw [hp_1]
                      refine aw_iinc cx 94 dX0_paintRing_91 rfl rfl (Nat.le_of_ble_eq_true rfl) rfl ?_
                      dsimp only [List.set]
                      refine aw_goto cx 47 dX0_paintRing_94 (by decide) ?_
                      exact aw_weak (ih47 (a1 + 1) _ (by omega) ⟨by omega, by omega⟩ (fun x y x0 x1 y0 y1 hl => by
                        rw [up_at ⟨by omega, by omega⟩ ⟨by omega, by omega⟩]
                        split
                        · rename_i e9
                          unfold gR
                          have e10 : kR n x y = s := by
                            unfold kR
                            split <;> omega
                          rw [if_neg (by omega), e10, he]
                        · rename_i e9
                          refine hx x y x0 x1 y0 y1 ?_
                          unfold kR at hl ⊢
                          split at hl <;> omega)) (by simp [zz_le])
                    · refine aw_iload cx 76 dX0_paintRing_74 rfl rfl ?_
                      refine aw_goto cx 86 dX0_paintRing_76 (by decide) ?_
                      refine aw_iload cx 88 dX0_paintRing_86 rfl rfl ?_
                      refine aw_V3n cx 91 mX0_paint (ci := 0) dX0_paintRing_88 rfl okmX0_paint lkX0_34 (by first | assumption | exact hc_0 | exact hc_1 | exact hc_2 | exact hc_3 | exact hc_4 | exact zz_gs _ _ _) ⟨rfl, by decide⟩ (zz_rc0 mX0_paintRing hRm hNS rfl rfl) (Nat.le_of_ble_eq_true rfl) ?_
                      refine s_X0_paint (by first | assumption | exact hc_0 | exact hc_1 | exact hc_2 | exact hc_3 | exact hc_4 | exact (hc_x (by omega)).trans (by first | assumption | exact hc_0 | exact hc_1 | exact hc_2 | exact hc_3 | exact hc_4)) (by first | assumption | exact hc_0 | exact hc_1 | exact hc_2 | exact hc_3 | exact hc_4 | exact (hc_x (by omega)).trans (by first | assumption | exact hc_0 | exact hc_1 | exact hc_2 | exact hc_3 | exact hc_4)) ⟨by omega, by omega⟩ ⟨by omega, by omega⟩ ⟨rfl, ?_⟩
                      rw [hp_1]
                      refine aw_iinc cx 94 dX0_paintRing_91 rfl rfl (Nat.le_of_ble_eq_true rfl) rfl ?_
                      dsimp only [List.set]
                      refine aw_goto cx 47 dX0_paintRing_94 (by decide) ?_
                      exact aw_weak (ih47 (a1 + 1) _ (by omega) ⟨by omega, by omega⟩ (fun x y x0 x1 y0 y1 hl => by
                        rw [up_at ⟨by omega, by omega⟩ ⟨by omega, by omega⟩]
                        split
                        · rename_i e9
                          unfold gR
                          have e10 : kR n x y = s := by
                            unfold kR
                            split <;> omega
                          rw [if_neg (by omega), e10, he]
                        · rename_i e9
                          refine hx x y x0 x1 y0 y1 ?_
                          unfold kR at hl ⊢
                          split at hl <;> omega)) (by simp [zz_le])
              exact aw_weak (lp47 (n.toNat + 1) 0 Cs (by omega) ⟨by omega, by omega⟩ (fun x y x0 x1 y0 y1 hl => hy x y x0 x1 y0 y1 (by omega))) (by simp [zz_le])
        exact aw_weak (lp27 (n.toNat + 1) 1 d Ca (by omega) ⟨by omega, by omega⟩ rfl (fun x y x0 x1 y0 y1 hl => hz x y x0 x1 y0 y1 (by
          refine ⟨?_, by omega⟩
          rcases hl with hl | hl
          · exact hl
          · unfold kR at hl
            split at hl <;> omega))) (by simp [zz_le])
      · refine aw_aload_n cx 13 dX0_paintRing_12 rfl rfl ?_
        refine aw_iload_n cx 14 dX0_paintRing_13 rfl rfl ?_
        refine aw_iload_n cx 15 dX0_paintRing_14 rfl rfl ?_
        refine aw_iconst cx 16 dX0_paintRing_15 rfl ?_
        refine aw_V3n cx 19 mX0_paint (ci := 0) dX0_paintRing_16 rfl okmX0_paint lkX0_34 (by first | assumption | exact hc_0 | exact hc_1 | exact hc_2 | exact hc_3 | exact hc_4 | exact zz_gs _ _ _) ⟨rfl, by decide⟩ (zz_rc0 mX0_paintRing hRm hNS rfl rfl) (Nat.le_of_ble_eq_true rfl) ?_
        refine s_X0_paint (by first | assumption | exact hc_0 | exact hc_1 | exact hc_2 | exact hc_3 | exact hc_4 | exact (hc_x (by omega)).trans (by first | assumption | exact hc_0 | exact hc_1 | exact hc_2 | exact hc_3 | exact hc_4)) (by first | assumption | exact hc_0 | exact hc_1 | exact hc_2 | exact hc_3 | exact hc_4 | exact (hc_x (by omega)).trans (by first | assumption | exact hc_0 | exact hc_1 | exact hc_2 | exact hc_3 | exact hc_4)) ⟨by omega, by omega⟩ ⟨by omega, by omega⟩ ⟨rfl, ?_⟩
        rw [hp_1]
        refine aw_iinc cx 22 dX0_paintRing_19 rfl rfl (Nat.le_of_ble_eq_true rfl) rfl ?_
        dsimp only [List.set]
        refine aw_goto cx 4 dX0_paintRing_22 (by decide) ?_
        exact ih4 (a + 1) _ (by omega) ⟨by omega, by omega⟩ (fun x y x0 x1 y0 y1 hl => by
          rw [up_at ⟨by omega, by omega⟩ ⟨by omega, by omega⟩]
          by_cases e : x = a ∧ y = a
          · rw [if_pos e]
            unfold gR
            rw [if_pos hl.1]
          · rw [if_neg e]
            exact hz x y x0 x1 y0 y1 (by omega))
  exact lp4 (n.toNat + 1) 0 C (by omega) ⟨by omega, by omega⟩ (fun x y x0 x1 y0 y1 hl => by omega)
end
section
/-! sets of colours as bits -/
abbrev bm (v i : Int) : Prop := zz_and (zz_shr v i) 1 = 1
def pc (v : Int) : Int := (if bm v 0 then 1 else 0) + (if bm v 1 then 1 else 0) + (if bm v 2 then 1 else 0) + (if bm v 3 then 1 else 0) + (if bm v 4 then 1 else 0)
theorem m_f {N : Nat} {P : Int → Prop} (h : ∀ v : Fin N, P (v.val : Int)) {v : Int} (hv : 0 ≤ v ∧ v < N) : P v := by
  have h1 := h ⟨v.toNat, by omega⟩
  have h2 : ((v.toNat : Nat) : Int) = v := by omega
  have h3 : P ((v.toNat : Nat) : Int) := h1
  rwa [h2] at h3
theorem m_b {N : Nat} {P : Int → Prop} : (∀ v : Fin N, P (v.val : Int)) ↔ ∀ v : Int, 0 ≤ v → v < N → P v :=
  ⟨fun h _ h0 h1 => m_f h ⟨h0, h1⟩, fun h v => h v.val (by omega) (by have := v.isLt; omega)⟩
set_option maxRecDepth 100000 in
theorem bm_or0 : ∀ v : Fin 32, ∀ w : Fin 32, (0 ≤ zz_or (v.val : Int) (w.val : Int) ∧ zz_or (v.val : Int) (w.val : Int) < 32) ∧ ∀ i : Fin 5, (bm (zz_or (v.val : Int) (w.val : Int)) (i.val : Int) ↔ bm (v.val : Int) (i.val : Int) ∨ bm (w.val : Int) (i.val : Int)) := by decide +kernel
set_option maxRecDepth 100000 in
theorem bm_shl0 : ∀ k : Fin 5, (0 ≤ zz_shl 1 (k.val : Int) ∧ zz_shl 1 (k.val : Int) < 32) ∧ ∀ i : Fin 5, (bm (zz_shl 1 (k.val : Int)) (i.val : Int) ↔ (i.val : Int) = (k.val : Int)) := by decide +kernel
set_option maxRecDepth 100000 in
theorem bm_ext0 : ∀ v : Fin 32, ∀ w : Fin 32, (∀ i : Fin 5, (bm (v.val : Int) (i.val : Int) ↔ bm (w.val : Int) (i.val : Int))) → (v.val : Int) = (w.val : Int) := by decide +kernel
set_option maxRecDepth 100000 in
theorem bm_sub0 : ∀ v : Fin 32, ∀ w : Fin 32, (zz_and (v.val : Int) (zz_xor (w.val : Int) (-1)) = 0 ↔ ∀ i : Fin 5, bm (v.val : Int) (i.val : Int) → bm (w.val : Int) (i.val : Int)) := by decide +kernel
set_option maxRecDepth 100000 in
theorem pc_lt0 : ∀ v : Fin 32, ∀ w : Fin 32, (∀ i : Fin 5, bm (v.val : Int) (i.val : Int) → bm (w.val : Int) (i.val : Int)) → (v.val : Int) ≠ (w.val : Int) → pc (v.val : Int) < pc (w.val : Int) := by decide +kernel
set_option maxRecDepth 100000 in
theorem pc_le0 : ∀ v : Fin 32, ∀ R : Fin 6, (∀ i : Fin 5, (R.val : Int) ≤ (i.val : Int) → ¬ bm (v.val : Int) (i.val : Int)) → pc (v.val : Int) ≤ (R.val : Int) := by decide +kernel
set_option maxRecDepth 100000 in
theorem shl_lt0 : ∀ R : Fin 6, (1 ≤ zz_shl 1 (R.val : Int) ∧ zz_shl 1 (R.val : Int) ≤ 32) ∧ ∀ v : Fin 32, (v.val : Int) < zz_shl 1 (R.val : Int) → ∀ i : Fin 5, (R.val : Int) ≤ (i.val : Int) → ¬ bm (v.val : Int) (i.val : Int) := by decide +kernel
set_option maxRecDepth 100000 in
theorem bm_10 : (∀ i : Fin 5, (bm 1 (i.val : Int) ↔ (i.val : Int) = 0)) ∧ (∀ i : Fin 5, ¬ bm 0 (i.val : Int)) ∧ ∀ v : Fin 32, zz_or (v.val : Int) 0 = (v.val : Int) := by decide +kernel
theorem or_b {v w : Int} (hv : 0 ≤ v ∧ v < 32) (hw : 0 ≤ w ∧ w < 32) : 0 ≤ zz_or v w ∧ zz_or v w < 32 :=
  (m_f (N := 32) (P := fun v => 0 ≤ zz_or v w ∧ zz_or v w < 32) (fun v => (m_f (N := 32) (P := fun w => 0 ≤ zz_or (v.val : Int) w ∧ zz_or (v.val : Int) w < 32) (fun w => (bm_or0 v w).1) hw)) hv)
theorem bm_or {v w i : Int} (hv : 0 ≤ v ∧ v < 32) (hw : 0 ≤ w ∧ w < 32) (hi : 0 ≤ i ∧ i < 5) : bm (zz_or v w) i ↔ bm v i ∨ bm w i :=
  m_f (N := 32) (P := fun v => bm (zz_or v w) i ↔ bm v i ∨ bm w i) (fun v => m_f (N := 32) (P := fun w => bm (zz_or (v.val : Int) w) i ↔ bm (v.val : Int) i ∨ bm w i) (fun w => m_f (N := 5) (P := fun i => bm (zz_or (v.val : Int) (w.val : Int)) i ↔ bm (v.val : Int) i ∨ bm (w.val : Int) i) (fun i => (bm_or0 v w).2 i) hi) hw) hv
theorem shl_b {k : Int} (hk : 0 ≤ k ∧ k < 5) : 0 ≤ zz_shl 1 k ∧ zz_shl 1 k < 32 := m_f (N := 5) (P := fun k => 0 ≤ zz_shl 1 k ∧ zz_shl 1 k < 32) (fun k => (bm_shl0 k).1) hk
theorem bm_shl {k i : Int} (hk : 0 ≤ k ∧ k < 5) (hi : 0 ≤ i ∧ i < 5) : bm (zz_shl 1 k) i ↔ i = k :=
  m_f (N := 5) (P := fun k => bm (zz_shl 1 k) i ↔ i = k) (fun k => m_f (N := 5) (P := fun i => bm (zz_shl 1 (k.val : Int)) i ↔ i = (k.val : Int)) (fun i => (bm_shl0 k).2 i) hi) hk
theorem bm_1 {i : Int} (hi : 0 ≤ i ∧ i < 5) : bm 1 i ↔ i = 0 := m_f (N := 5) (P := fun i => bm 1 i ↔ i = 0) (fun i => bm_10.1 i) hi
theorem bm_0 {i : Int} (hi : 0 ≤ i ∧ i < 5) : ¬ bm 0 i := m_f (N := 5) (P := fun i => ¬ bm 0 i) (fun i => bm_10.2.1 i) hi
theorem or_0 {v : Int} (hv : 0 ≤ v ∧ v < 32) : zz_or v 0 = v := m_f (N := 32) (P := fun v => zz_or v 0 = v) (fun v => bm_10.2.2 v) hv
theorem bm_ext {v w : Int} (hv : 0 ≤ v ∧ v < 32) (hw : 0 ≤ w ∧ w < 32) (h : ∀ i, 0 ≤ i → i < 5 → (bm v i ↔ bm w i)) : v = w :=
  m_f (N := 32) (P := fun v => (∀ i, 0 ≤ i → i < 5 → (bm v i ↔ bm w i)) → v = w) (fun v => m_f (N := 32) (P := fun w => (∀ i, 0 ≤ i → i < 5 → (bm (v.val : Int) i ↔ bm w i)) → (v.val : Int) = w) (fun w h => bm_ext0 v w ((m_b (N := 5)).mpr h)) hw) hv h
theorem bm_sub {v w : Int} (hv : 0 ≤ v ∧ v < 32) (hw : 0 ≤ w ∧ w < 32) : zz_and v (zz_xor w (-1)) = 0 ↔ ∀ i, 0 ≤ i → i < 5 → bm v i → bm w i :=
  m_f (N := 32) (P := fun v => zz_and v (zz_xor w (-1)) = 0 ↔ ∀ i, 0 ≤ i → i < 5 → bm v i → bm w i) (fun v => m_f (N := 32) (P := fun w => zz_and (v.val : Int) (zz_xor w (-1)) = 0 ↔ ∀ i, 0 ≤ i → i < 5 → bm (v.val : Int) i → bm w i) (fun w => (bm_sub0 v w).trans (m_b (N := 5) (P := fun i => bm (v.val : Int) i → bm (w.val : Int) i))) hw) hv
theorem pc_lt {v w : Int} (hv : 0 ≤ v ∧ v < 32) (hw : 0 ≤ w ∧ w < 32) (h : ∀ i, 0 ≤ i → i < 5 → bm v i → bm w i) (hne : v ≠ w) : pc v < pc w :=
  m_f (N := 32) (P := fun v => (∀ i, 0 ≤ i → i < 5 → bm v i → bm w i) → v ≠ w → pc v < pc w) (fun v => m_f (N := 32) (P := fun w => (∀ i, 0 ≤ i → i < 5 → bm (v.val : Int) i → bm w i) → (v.val : Int) ≠ w → pc (v.val : Int) < pc w) (fun w h hne => pc_lt0 v w ((m_b (N := 5) (P := fun i => bm (v.val : Int) i → bm (w.val : Int) i)).mpr h) hne) hw) hv h hne
theorem pc_le {v R : Int} (hv : 0 ≤ v ∧ v < 32) (hR : 0 ≤ R ∧ R < 6) (h : ∀ i, 0 ≤ i → i < 5 → R ≤ i → ¬ bm v i) : pc v ≤ R :=
  m_f (N := 32) (P := fun v => (∀ i, 0 ≤ i → i < 5 → R ≤ i → ¬ bm v i) → pc v ≤ R) (fun v => m_f (N := 6) (P := fun R => (∀ i, 0 ≤ i → i < 5 → R ≤ i → ¬ bm (v.val : Int) i) → pc (v.val : Int) ≤ R) (fun R h => pc_le0 v R ((m_b (N := 5) (P := fun i => (R.val : Int) ≤ i → ¬ bm (v.val : Int) i)).mpr h)) hR) hv h
theorem shl_r {R : Int} (hR : 0 ≤ R ∧ R < 6) : 1 ≤ zz_shl 1 R ∧ zz_shl 1 R ≤ 32 := m_f (N := 6) (P := fun R => 1 ≤ zz_shl 1 R ∧ zz_shl 1 R ≤ 32) (fun R => (shl_lt0 R).1) hR
theorem shl_lt {v R : Int} (hR : 0 ≤ R ∧ R < 6) (h0 : 0 ≤ v) (h1 : v < zz_shl 1 R) : (0 ≤ v ∧ v < 32) ∧ ∀ i, 0 ≤ i → i < 5 → R ≤ i → ¬ bm v i := by
  have hv : 0 ≤ v ∧ v < 32 := by have := shl_r hR; omega
  refine ⟨hv, ?_⟩
  exact m_f (N := 32) (P := fun v => v < zz_shl 1 R → ∀ i, 0 ≤ i → i < 5 → R ≤ i → ¬ bm v i) (fun v => m_f (N := 6) (P := fun R => (v.val : Int) < zz_shl 1 R → ∀ i, 0 ≤ i → i < 5 → R ≤ i → ¬ bm (v.val : Int) i) (fun R h => (m_b (N := 5) (P := fun i => (R.val : Int) ≤ i → ¬ bm (v.val : Int) i)).mp ((shl_lt0 R).2 v h)) hR) hv h1
theorem pc_nn (v : Int) : 0 ≤ pc v := by
  unfold pc
  split <;> split <;> split <;> split <;> split <;> decide
theorem pc_1 {v : Int} (h : bm v 0) : 1 ≤ pc v := by
  unfold pc
  rw [if_pos h]
  split <;> split <;> split <;> split <;> decide
theorem i32_r (x : Int32) : R32 x.toInt := ⟨Int32.le_toInt x, Int32.toInt_lt x⟩
theorem and_r (x y : Int) : R32 (zz_and x y) := i32_r _
theorem shl_rr (x y : Int) : R32 (zz_shl x y) := i32_r _
theorem or_r (x y : Int) : R32 (zz_or x y) := i32_r _
/-! what comes of a set by products of two -/
theorem acc_bits {f : Int → Int → Int} {P : Int → Int → Prop} {n r0 : Int} (hn : 0 ≤ n) (h0 : 0 ≤ r0 ∧ r0 < 32) (hs : ∀ i r, 0 ≤ i → i < n → (0 ≤ r ∧ r < 32) → (0 ≤ f i r ∧ f i r < 32) ∧ ∀ k, 0 ≤ k → k < 5 → (bm (f i r) k ↔ bm r k ∨ P i k)) :
    (0 ≤ zi f r0 n ∧ zi f r0 n < 32) ∧ ∀ k, 0 ≤ k → k < 5 → (bm (zi f r0 n) k ↔ bm r0 k ∨ ∃ i, 0 ≤ i ∧ i < n ∧ P i k) := by
  refine zi_inv (P := fun m r => (0 ≤ r ∧ r < 32) ∧ ∀ k, 0 ≤ k → k < 5 → (bm r k ↔ bm r0 k ∨ ∃ i, 0 ≤ i ∧ i < m ∧ P i k)) hn ⟨h0, fun k k0 k1 => ⟨Or.inl, fun h => h.elim id (fun ⟨i, i0, i1, _⟩ => by omega)⟩⟩ (fun i r i0 i1 ⟨h1, h2⟩ => ?_)
  obtain ⟨g1, g2⟩ := hs i r i0 i1 h1
  refine ⟨g1, fun k k0 k1 => ?_⟩
  rw [g2 k k0 k1, h2 k k0 k1]
  constructor
  · rintro ((h | ⟨j, j0, j1, h⟩) | h)
    · exact Or.inl h
    · exact Or.inr ⟨j, j0, by omega, h⟩
    · exact Or.inr ⟨i, i0, by omega, h⟩
  · rintro (h | ⟨j, j0, j1, h⟩)
    · exact Or.inl (Or.inl h)
    · by_cases e : j = i
      · subst e; exact Or.inr h
      · exact Or.inl (Or.inr ⟨j, j0, by omega, h⟩)
def gwk (n : Int) (g : Gr) (v i j R r : Int) : Int := zi (fun k r => if bm v i ∧ bm v j ∧ 0 < nu n g i j k then zz_or r (zz_shl 1 k) else r) r R
def gwj (n : Int) (g : Gr) (v i R J r : Int) : Int := zi (fun j r => gwk n g v i j R r) r J
def gwi (n : Int) (g : Gr) (v R I r : Int) : Int := zi (fun i r => gwj n g v i R R r) r I
def gw (n : Int) (g : Gr) (v : Int) : Int := gwi n g v (rk n g) (rk n g) (zz_or v 1)
theorem gwk_s {n : Int} {g : Gr} {v i j R r : Int} (h : 0 ≤ R) : gwk n g v i j (R + 1) r = if bm v i ∧ bm v j ∧ 0 < nu n g i j R then zz_or (gwk n g v i j R r) (zz_shl 1 R) else gwk n g v i j R r := zi_s _ _ h
theorem gwj_s {n : Int} {g : Gr} {v i R J r : Int} (h : 0 ≤ J) : gwj n g v i R (J + 1) r = gwk n g v i J R (gwj n g v i R J r) := zi_s _ _ h
theorem gwi_s {n : Int} {g : Gr} {v R I r : Int} (h : 0 ≤ I) : gwi n g v R (I + 1) r = gwj n g v I R R (gwi n g v R I r) := zi_s _ _ h
theorem gwk_b {n : Int} {g : Gr} {v i j R r : Int} (hR : 0 ≤ R ∧ R ≤ 5) (hr : 0 ≤ r ∧ r < 32) : (0 ≤ gwk n g v i j R r ∧ gwk n g v i j R r < 32) ∧ ∀ l, 0 ≤ l → l < 5 → (bm (gwk n g v i j R r) l ↔ bm r l ∨ ∃ k, 0 ≤ k ∧ k < R ∧ ((bm v i ∧ bm v j ∧ 0 < nu n g i j k) ∧ l = k)) := by
  refine acc_bits hR.1 hr (fun k r k0 k1 hr => ?_)
  by_cases e : bm v i ∧ bm v j ∧ 0 < nu n g i j k
  · rw [if_pos e]
    have hk := shl_b (k := k) ⟨k0, by omega⟩
    refine ⟨or_b hr hk, fun l l0 l1 => ?_⟩
    rw [bm_or hr hk ⟨l0, l1⟩, bm_shl ⟨k0, by omega⟩ ⟨l0, l1⟩]
    exact ⟨fun h => h.elim Or.inl (fun h => Or.inr ⟨e, h⟩), fun h => h.elim Or.inl (fun h => Or.inr h.2)⟩
  · rw [if_neg e]
    exact ⟨hr, fun l l0 l1 => ⟨Or.inl, fun h => h.elim id (fun h => absurd h.1 e)⟩⟩
theorem gwj_b {n : Int} {g : Gr} {v i R J r : Int} (hR : 0 ≤ R ∧ R ≤ 5) (hJ : 0 ≤ J) (hr : 0 ≤ r ∧ r < 32) : (0 ≤ gwj n g v i R J r ∧ gwj n g v i R J r < 32) ∧ ∀ l, 0 ≤ l → l < 5 → (bm (gwj n g v i R J r) l ↔ bm r l ∨ ∃ j, 0 ≤ j ∧ j < J ∧ ∃ k, 0 ≤ k ∧ k < R ∧ ((bm v i ∧ bm v j ∧ 0 < nu n g i j k) ∧ l = k)) :=
  acc_bits hJ hr (fun _ _ _ _ hr => gwk_b hR hr)
theorem gwi_b {n : Int} {g : Gr} {v R I r : Int} (hR : 0 ≤ R ∧ R ≤ 5) (hI : 0 ≤ I) (hr : 0 ≤ r ∧ r < 32) : (0 ≤ gwi n g v R I r ∧ gwi n g v R I r < 32) ∧ ∀ l, 0 ≤ l → l < 5 → (bm (gwi n g v R I r) l ↔ bm r l ∨ ∃ i, 0 ≤ i ∧ i < I ∧ ∃ j, 0 ≤ j ∧ j < R ∧ ∃ k, 0 ≤ k ∧ k < R ∧ ((bm v i ∧ bm v j ∧ 0 < nu n g i j k) ∧ l = k)) :=
  acc_bits hI hr (fun _ _ _ _ hr => gwj_b hR hR.1 hr)
/-- products of two of a set -/
def pd (n : Int) (g : Gr) (v l : Int) : Prop := l < rk n g ∧ ∃ i j, (0 ≤ i ∧ i < rk n g) ∧ (0 ≤ j ∧ j < rk n g) ∧ bm v i ∧ bm v j ∧ 0 < nu n g i j l
theorem gw_b {n : Int} {g : Gr} {v : Int} (hR : 1 ≤ rk n g ∧ rk n g ≤ 5) (hv : 0 ≤ v ∧ v < 32) : (0 ≤ gw n g v ∧ gw n g v < 32) ∧ ∀ l, 0 ≤ l → l < 5 → (bm (gw n g v) l ↔ (bm v l ∨ l = 0) ∨ pd n g v l) := by
  obtain ⟨h1, h2⟩ := gwi_b (n := n) (g := g) (v := v) (R := rk n g) (I := rk n g) (r := zz_or v 1) ⟨by omega, hR.2⟩ (by omega) (or_b hv ⟨by decide, by decide⟩)
  refine ⟨h1, fun l l0 l1 => ?_⟩
  show bm (gwi n g v (rk n g) (rk n g) (zz_or v 1)) l ↔ _
  rw [h2 l l0 l1, bm_or hv ⟨by decide, by decide⟩ ⟨l0, l1⟩, bm_1 ⟨l0, l1⟩]
  constructor
  · rintro (h | ⟨i, i0, i1, j, j0, j1, k, k0, k1, ⟨a, b, c⟩, rfl⟩)
    · exact Or.inl h
    · exact Or.inr ⟨k1, i, j, ⟨i0, i1⟩, ⟨j0, j1⟩, a, b, c⟩
  · rintro (h | ⟨k1, i, j, ⟨i0, i1⟩, ⟨j0, j1⟩, a, b, c⟩)
    · exact Or.inl h
    · exact Or.inr ⟨i, i0, i1, j, j0, j1, l, l0, k1, ⟨a, b, c⟩, rfl⟩
/-- the bits lie below the rank -/
abbrev blw (n : Int) (g : Gr) (v : Int) : Prop := ∀ i, 0 ≤ i → i < 5 → rk n g ≤ i → ¬ bm v i
theorem gw_blw {n : Int} {g : Gr} {v : Int} (hR : 1 ≤ rk n g ∧ rk n g ≤ 5) (hv : 0 ≤ v ∧ v < 32) (hb : blw n g v) : blw n g (gw n g v) := by
  intro i i0 i1 hi h
  rcases ((gw_b hR hv).2 i i0 i1).mp h with (h | h) | h
  · exact hb i i0 i1 hi h
  · omega
  · exact absurd h.1 (by omega)
theorem gw_eq {n : Int} {g : Gr} {v p : Int} (hR : 1 ≤ rk n g ∧ rk n g ≤ 5) (hv : 0 ≤ v ∧ v < 32) (h0 : bm v 0) (hp : 0 ≤ p ∧ p < 32) (hb : ∀ l, 0 ≤ l → l < 5 → (bm p l ↔ pd n g v l)) : zz_or v p = gw n g v := by
  obtain ⟨h1, h2⟩ := gw_b (n := n) (g := g) hR hv
  refine bm_ext (or_b hv hp) h1 (fun l l0 l1 => ?_)
  rw [bm_or hv hp ⟨l0, l1⟩, h2 l l0 l1, hb l l0 l1]
  constructor
  · rintro (h | h)
    · exact Or.inl (Or.inl h)
    · exact Or.inr h
  · rintro ((h | h) | h)
    · exact Or.inl h
    · subst h; exact Or.inl h0
    · exact Or.inr h
/-- m steps of growing -/
def it (n : Int) (g : Gr) (v m : Int) : Int := zi (fun _ r => gw n g r) (zz_or v 1) m
theorem it_s {n : Int} {g : Gr} {v m : Int} (h : 0 ≤ m) : it n g v (m + 1) = gw n g (it n g v m) := zi_s _ _ h
/-- the hull -/
def hl (n : Int) (g : Gr) (v : Int) : Int := it n g v 5
theorem it_p {n : Int} {g : Gr} {v m : Int} (hR : 1 ≤ rk n g ∧ rk n g ≤ 5) (hv : 0 ≤ v ∧ v < 32) (hb : blw n g v) (hm : 0 ≤ m) : (0 ≤ it n g v m ∧ it n g v m < 32) ∧ blw n g (it n g v m) ∧ bm (it n g v m) 0 ∧ (gw n g (it n g v m) = it n g v m ∨ 1 + m ≤ pc (it n g v m)) := by
  have up : ∀ w, (0 ≤ w ∧ w < 32) → (∀ i, 0 ≤ i → i < 5 → bm w i → bm (gw n g w) i) := fun w hw i i0 i1 h => ((gw_b hR hw).2 i i0 i1).mpr (Or.inl (Or.inl h))
  refine zi_inv (P := fun m r => (0 ≤ r ∧ r < 32) ∧ blw n g r ∧ bm r 0 ∧ (gw n g r = r ∨ 1 + m ≤ pc r)) hm ?_ (fun i r i0 i1 ⟨h1, h2, h3, h4⟩ => ?_)
  · have h1 := or_b hv (w := 1) ⟨by decide, by decide⟩
    have h0 : bm (zz_or v 1) 0 := (bm_or hv ⟨by decide, by decide⟩ ⟨by decide, by decide⟩).mpr (Or.inr ((bm_1 ⟨by decide, by decide⟩).mpr rfl))
    refine ⟨h1, fun i i0 i1 hi h => ?_, h0, Or.inr ?_⟩
    · rcases (bm_or hv ⟨by decide, by decide⟩ ⟨i0, i1⟩).mp h with h | h
      · exact hb i i0 i1 hi h
      · have := (bm_1 ⟨i0, i1⟩).mp h
        omega
    · have := pc_1 h0
      omega
  · have g1 := (gw_b (n := n) (g := g) hR h1).1
    refine ⟨g1, gw_blw hR h1 h2, up r h1 0 (by decide) (by decide) h3, ?_⟩
    rcases h4 with h4 | h4
    · exact Or.inl (by rw [h4, h4])
    · by_cases e : gw n g (gw n g r) = gw n g r
      · exact Or.inl e
      · by_cases e2 : gw n g r = r
        · exact absurd (by rw [e2, e2]) e
        · have := pc_lt h1 g1 (up r h1) (Ne.symm e2)
          exact Or.inr (by omega)
theorem it_fix {n : Int} {g : Gr} {v m : Int} (h0 : 0 ≤ m) (hf : gw n g (it n g v m) = it n g v m) : ∀ k : Nat, it n g v (m + k) = it n g v m := by
  intro k
  induction k with
  | zero => rw [Int.natCast_zero, Int.add_zero]
  | succ k ih =>
    rw [show m + ((k + 1 : Nat) : Int) = m + k + 1 by omega, it_s (by omega), ih, hf]
theorem it_rk {n : Int} {g : Gr} {v : Int} (hR : 1 ≤ rk n g ∧ rk n g ≤ 5) (hv : 0 ≤ v ∧ v < 32) (hb : blw n g v) : gw n g (it n g v (rk n g)) = it n g v (rk n g) := by
  obtain ⟨h1, h2, h3, h4⟩ := it_p (m := rk n g) hR hv hb (by omega)
  rcases h4 with h4 | h4
  · exact h4
  · have := pc_le (R := rk n g) h1 ⟨by omega, by omega⟩ h2
    omega
theorem hl_rk {n : Int} {g : Gr} {v : Int} (hR : 1 ≤ rk n g ∧ rk n g ≤ 5) (hv : 0 ≤ v ∧ v < 32) (hb : blw n g v) : it n g v (rk n g) = hl n g v := by
  have := it_fix (n := n) (g := g) (v := v) (m := rk n g) (by omega) (it_rk hR hv hb) (5 - rk n g).toNat
  rw [show rk n g + ((5 - rk n g).toNat : Int) = 5 by omega] at this
  exact this.symm
theorem hl_fix {n : Int} {g : Gr} {v : Int} (hR : 1 ≤ rk n g ∧ rk n g ≤ 5) (hv : 0 ≤ v ∧ v < 32) (hb : blw n g v) : gw n g (hl n g v) = hl n g v := by
  rw [← hl_rk hR hv hb]
  exact it_rk hR hv hb
theorem hl_p {n : Int} {g : Gr} {v : Int} (hR : 1 ≤ rk n g ∧ rk n g ≤ 5) (hv : 0 ≤ v ∧ v < 32) (hb : blw n g v) : (0 ≤ hl n g v ∧ hl n g v < 32) ∧ blw n g (hl n g v) ∧ bm (hl n g v) 0 := by
  obtain ⟨h1, h2, h3, -⟩ := it_p (m := 5) hR hv hb (by decide)
  exact ⟨h1, h2, h3⟩
theorem hl_it {n : Int} {g : Gr} {v m : Int} (hm : 0 ≤ m ∧ m ≤ 5) (hf : gw n g (it n g v m) = it n g v m) : it n g v m = hl n g v := by
  have := it_fix (n := n) (g := g) (v := v) (m := m) hm.1 hf (5 - m).toNat
  rw [show m + ((5 - m).toNat : Int) = 5 by omega] at this
  exact this.symm
theorem gw_0 {n : Int} {g : Gr} {v : Int} (hR : 1 ≤ rk n g ∧ rk n g ≤ 5) (hv : 0 ≤ v ∧ v < 32) : bm (gw n g v) 0 := ((gw_b hR hv).2 0 (by decide) (by decide)).mpr (Or.inl (Or.inr rfl))
theorem hl_cl {n : Int} {g : Gr} {v : Int} (hR : 1 ≤ rk n g ∧ rk n g ≤ 5) (hv : 0 ≤ v ∧ v < 32) (hb : blw n g v) : hl n g v = v ↔ gw n g v = v := by
  constructor
  · intro h
    have := hl_fix hR hv hb
    rwa [h] at this
  · intro h
    have h0 : bm v 0 := by have := gw_0 (n := n) (g := g) hR hv; rwa [h] at this
    have h1 : zz_or v 1 = v := by
      refine bm_ext (or_b hv ⟨by decide, by decide⟩) hv (fun i i0 i1 => ?_)
      rw [bm_or hv ⟨by decide, by decide⟩ ⟨i0, i1⟩, bm_1 ⟨i0, i1⟩]
      exact ⟨fun h => h.elim id (fun h => by subst h; exact h0), Or.inl⟩
    have h2 : it n g v 0 = v := h1
    have := hl_it (n := n) (g := g) (v := v) (m := 0) ⟨by decide, by decide⟩ (by rw [h2]; exact h)
    rw [← this]
    exact h2
theorem cl_iff {n : Int} {g : Gr} {v : Int} (hR : 1 ≤ rk n g ∧ rk n g ≤ 5) (hv : 0 ≤ v ∧ v < 32) : gw n g v = v ↔ bm v 0 ∧ ∀ l, 0 ≤ l → l < 5 → pd n g v l → bm v l := by
  obtain ⟨h1, h2⟩ := gw_b (n := n) (g := g) hR hv
  constructor
  · intro h
    refine ⟨by have := gw_0 (n := n) (g := g) hR hv; rwa [h] at this, fun l l0 l1 hp => ?_⟩
    have := (h2 l l0 l1).mpr (Or.inr hp)
    rwa [h] at this
  · rintro ⟨h0, h3⟩
    refine bm_ext h1 hv (fun l l0 l1 => ?_)
    rw [h2 l l0 l1]
    constructor
    · rintro ((h | h) | h)
      · exact h
      · subst h; exact h0
      · exact h3 l l0 l1 h
    · exact fun h => Or.inl (Or.inl h)
/-- how many closed sets -/
def cs (n : Int) (g : Gr) (m : Int) : Int := zi (fun v s => if gw n g v = v then s + 1 else s) 0 m
theorem cs_s {n : Int} {g : Gr} {m : Int} (h : 0 ≤ m) : cs n g (m + 1) = if gw n g m = m then cs n g m + 1 else cs n g m := zi_s _ _ h
theorem cs_b {n : Int} {g : Gr} {m : Int} (h : 0 ≤ m) : 0 ≤ cs n g m ∧ cs n g m ≤ m := by
  refine zi_inv (P := fun i r => 0 ≤ r ∧ r ≤ i) h ⟨by decide, by decide⟩ (fun i r i0 i1 h => ?_)
  split <;> omega
/-- the order of a set -/
def od (n : Int) (g : Gr) (v m : Int) : Int := zi (fun i s => if bm v i then s + dg n g i else s) 0 m
theorem od_s {n : Int} {g : Gr} {v m : Int} (h : 0 ≤ m) : od n g v (m + 1) = if bm v m then od n g v m + dg n g m else od n g v m := zi_s _ _ h
theorem dg_0 {n : Int} {g : Gr} {i : Int} (hn : 0 ≤ n) (h : rk n g ≤ i) : dg n g i = 0 := by
  refine zi_inv (P := fun m r => r = 0) hn rfl (fun b r b0 b1 h2 => ?_)
  rw [if_neg (by have := rk_gt (n := n) (g := g) hn (a := 0) (b := b) ⟨by decide, by omega⟩ ⟨b0, b1⟩; omega)]
  exact h2
theorem od_rk {n : Int} {g : Gr} {v : Int} (hn : 0 ≤ n) (hR : 1 ≤ rk n g ∧ rk n g ≤ 5) : od n g v (rk n g) = od n g v 5 := by
  have key : ∀ k : Nat, od n g v (rk n g + k) = od n g v (rk n g) := by
    intro k
    induction k with
    | zero => rw [Int.natCast_zero, Int.add_zero]
    | succ k ih =>
      rw [show rk n g + ((k + 1 : Nat) : Int) = rk n g + k + 1 by omega, od_s (by omega), dg_0 hn (by omega), Int.add_zero, ih]
      split <;> rfl
  have := key (5 - rk n g).toNat
  rw [show rk n g + ((5 - rk n g).toNat : Int) = 5 by omega] at this
  exact this.symm
theorem od_b {n : Int} {g : Gr} {v m : Int} (hn : 0 ≤ n ∧ n ≤ 8) (h : 0 ≤ m) : 0 ≤ od n g v m ∧ od n g v m ≤ 8 * m := by
  refine zi_inv (P := fun i r => 0 ≤ r ∧ r ≤ 8 * i) h ⟨by decide, by decide⟩ (fun i r i0 i1 h => ?_)
  have := dg_b hn.1 g i
  split <;> omega
/-- whether N(i, j, k) is N(j, i, k) for all -/
def tu (n : Int) (g : Gr) : Int := if ∀ i ∈ zl5, ∀ j ∈ zl5, ∀ k ∈ zl5, i < rk n g → j < rk n g → k < rk n g → nu n g i j k = nu n g j i k then 1 else 0
theorem tu_1 {n : Int} {g : Gr} (hR : rk n g ≤ 5) (h : ∀ i j k, 0 ≤ i → i < rk n g → 0 ≤ j → j < rk n g → 0 ≤ k → k < rk n g → nu n g i j k = nu n g j i k) : tu n g = 1 :=
  if_pos (zl5_all.mpr fun i i0 i1 => zl5_all.mpr fun j j0 j1 => zl5_all.mpr fun k k0 k1 a b c => h i j k i0 a j0 b k0 c)
theorem tu_0 {n : Int} {g : Gr} (hR : rk n g ≤ 5) {i j k : Int} (hi : 0 ≤ i ∧ i < rk n g) (hj : 0 ≤ j ∧ j < rk n g) (hk : 0 ≤ k ∧ k < rk n g) (h : nu n g i j k ≠ nu n g j i k) : tu n g = 0 :=
  if_neg fun q => h ((zl5_all (P := fun k => i < rk n g → j < rk n g → k < rk n g → nu n g i j k = nu n g j i k)).mp ((zl5_all (P := fun j => ∀ k ∈ zl5, i < rk n g → j < rk n g → k < rk n g → nu n g i j k = nu n g j i k)).mp ((zl5_all (P := fun i => ∀ j ∈ zl5, ∀ k ∈ zl5, i < rk n g → j < rk n g → k < rk n g → nu n g i j k = nu n g j i k)).mp q i hi.1 (by omega)) j hj.1 (by omega)) k hk.1 (by omega) hi.2 hj.2 hk.2)
/-- products of two of a set, of which the first lies ahead of (i, j) -/
def pdx (n : Int) (g : Gr) (v i j l : Int) : Prop := l < rk n g ∧ ∃ a b, (0 ≤ a ∧ a < rk n g) ∧ (0 ≤ b ∧ b < rk n g) ∧ lx a b i j ∧ bm v a ∧ bm v b ∧ 0 < nu n g a b l
theorem pdx_y {n : Int} {g : Gr} {v i j p q : Int} (hp : 0 ≤ p ∧ p < 32) (hq : 0 ≤ q ∧ q < 32) (hi : 0 ≤ i ∧ i < rk n g) (hj : 0 ≤ j ∧ j < rk n g) (h1 : ∀ l, 0 ≤ l → l < 5 → (bm p l ↔ pdx n g v i j l)) (h2 : ∀ l, 0 ≤ l → l < 5 → (bm q l ↔ l < rk n g ∧ 0 < nu n g i j l)) (hbi : bm v i) (hbj : bm v j) : ∀ l, 0 ≤ l → l < 5 → (bm (zz_or p q) l ↔ pdx n g v i (j + 1) l) := by
  intro l l0 l1
  rw [bm_or hp hq ⟨l0, l1⟩, h1 l l0 l1, h2 l l0 l1]
  constructor
  · rintro (⟨a, x, y, hx, hy, hl, q⟩ | ⟨a, b⟩)
    · exact ⟨a, x, y, hx, hy, by omega, q⟩
    · exact ⟨a, i, j, hi, hj, by omega, hbi, hbj, b⟩
  · rintro ⟨a, x, y, hx, hy, hl, q⟩
    by_cases e : x = i ∧ y = j
    · rw [e.1, e.2] at q
      exact Or.inr ⟨a, q.2.2⟩
    · exact Or.inl ⟨a, x, y, hx, hy, by omega, q⟩
theorem pdx_n {n : Int} {g : Gr} {v i j p : Int} (h1 : ∀ l, 0 ≤ l → l < 5 → (bm p l ↔ pdx n g v i j l)) (hb : ¬ (bm v i ∧ bm v j)) : ∀ l, 0 ≤ l → l < 5 → (bm p l ↔ pdx n g v i (j + 1) l) := by
  intro l l0 l1
  rw [h1 l l0 l1]
  constructor
  · rintro ⟨a, x, y, hx, hy, hl, q⟩
    exact ⟨a, x, y, hx, hy, by omega, q⟩
  · rintro ⟨a, x, y, hx, hy, hl, q⟩
    by_cases e : x = i ∧ y = j
    · rw [e.1, e.2] at q
      exact absurd ⟨q.1, q.2.1⟩ hb
    · exact ⟨a, x, y, hx, hy, by omega, q⟩
theorem pdx_r {n : Int} {g : Gr} {v i p : Int} (h1 : ∀ l, 0 ≤ l → l < 5 → (bm p l ↔ pdx n g v i (rk n g) l)) : ∀ l, 0 ≤ l → l < 5 → (bm p l ↔ pdx n g v (i + 1) 0 l) := by
  intro l l0 l1
  rw [h1 l l0 l1]
  constructor
  · rintro ⟨a, x, y, hx, hy, hl, q⟩
    exact ⟨a, x, y, hx, hy, by omega, q⟩
  · rintro ⟨a, x, y, hx, hy, hl, q⟩
    exact ⟨a, x, y, hx, hy, by omega, q⟩
theorem pdx_e {n : Int} {g : Gr} {v p : Int} (h1 : ∀ l, 0 ≤ l → l < 5 → (bm p l ↔ pdx n g v (rk n g) 0 l)) : ∀ l, 0 ≤ l → l < 5 → (bm p l ↔ pd n g v l) := by
  intro l l0 l1
  rw [h1 l l0 l1]
  constructor
  · rintro ⟨a, x, y, hx, hy, hl, q⟩
    exact ⟨a, x, y, hx, hy, q⟩
  · rintro ⟨a, x, y, hx, hy, q⟩
    exact ⟨a, x, y, hx, hy, by omega, q⟩
theorem pdx_0 {n : Int} {g : Gr} {v : Int} : ∀ l, 0 ≤ l → l < 5 → (bm 0 l ↔ pdx n g v 0 0 l) := by
  intro l l0 l1
  constructor
  · intro h
    exact absurd h (bm_0 ⟨l0, l1⟩)
  · rintro ⟨a, x, y, hx, hy, hl, q⟩
    omega
end
section
set_option maxRecDepth 100000 in
set_option maxHeartbeats 4000000 in
theorem s_X0_has {h : AH} {Q : Option AV → AH → Prop} {v i : Int} (k : ∀ b, ((b = 1 ∧ bm v i) ∨ (b = 0 ∧ ¬ bm v i)) → Q (some (vI b)) h) : MC mX0_has [vI v, vI i] h Q := by
  refine mc_start mX0_has RX0 "has" ⟨rfl, rfl, by decide +kernel⟩ [some (vI v), some (vI i)] ⟨0, rfl⟩ rfl (fun X cx hRm hNS hRet => ?_)
  refine aw_iload_n cx 1 dX0_has_0 rfl rfl ?_
  refine aw_iload_n cx 2 dX0_has_1 rfl rfl ?_
  refine aw_ishr cx 3 dX0_has_2 rfl ?_
  refine aw_iconst cx 4 dX0_has_3 rfl ?_
  refine aw_iand cx 5 dX0_has_4 rfl ?_
  refine aw_iconst cx 6 dX0_has_5 rfl ?_
  refine aw_icmp_ne cx 9 13 dX0_has_6 rfl (by decide) ⟨and_r _ _, by constructor <;> omega⟩ (fun c6 => ?_) (fun c6 => ?_)
  · refine aw_iconst cx 14 dX0_has_13 rfl ?_
    refine aw_ireturn cx dX0_has_14 ?_
    refine hRet _ _ (by first | exact Or.inl rfl | exact Or.inr rfl | assumption) rfl ?_
    first | exact k _ (Or.inl ⟨rfl, c6⟩) | exact k _ (Or.inr ⟨rfl, c6⟩)
  · refine aw_iconst cx 10 dX0_has_9 rfl ?_
    refine aw_goto cx 14 dX0_has_10 (by decide) ?_
    refine aw_ireturn cx dX0_has_14 ?_
    refine hRet _ _ (by first | exact Or.inl rfl | exact Or.inr rfl | assumption) rfl ?_
    first | exact k _ (Or.inl ⟨rfl, c6⟩) | exact k _ (Or.inr ⟨rfl, c6⟩)
set_option maxRecDepth 100000 in
set_option maxHeartbeats 4000000 in
theorem s_X0_productsOfTwo {h : AH} {Q : Option AV → AH → Prop} {o : Nat} {C F Nu Co : Int → Int} {n r f : Int} {g : Gr} (hn : 1 ≤ n ∧ n ≤ 8) (hA : ag n C g) (hg : rgn n g) (hr : r = rk n g) (hN : ∀ i j k, 0 ≤ i → i < 5 → 0 ≤ j → j < 5 → 0 ≤ k → k < rk n g → Nu (25 * k + 5 * i + j) = nu n g i j k) {i j : Int} (hi : 0 ≤ i ∧ i < 5) (hj : 0 ≤ j ∧ j < 5) (k : ∀ v, (0 ≤ v ∧ v < 32) → (∀ l, 0 ≤ l → l < 5 → (bm v l ↔ l < rk n g ∧ 0 < nu n g i j l)) → Q (some (vI v)) (hcol h o C F Nu Co n r f)) : MC mX0_productsOfTwo [vR o, vI i, vI j] (hcol h o C F Nu Co n r f) Q := by
  refine mc_start mX0_productsOfTwo RX0 "productsOfTwo" ⟨rfl, rfl, by decide +kernel⟩ [some (vR o), some (vI i), some (vI j), none, none] ⟨2, rfl⟩ rfl (fun X cx hRm hNS hRet => ?_)
  have hR := rk_b (n := n) (g := g) (by omega) hg
  refine aw_iconst cx 1 dX0_productsOfTwo_0 rfl ?_
  refine aw_istore_n cx 2 3 dX0_productsOfTwo_1 rfl rfl ⟨Nat.le_of_ble_eq_true rfl, Nat.le_of_ble_eq_true rfl⟩ rfl ?_
  dsimp only [List.set]
  refine aw_iconst cx 3 dX0_productsOfTwo_2 rfl ?_
  refine aw_istore cx 5 dX0_productsOfTwo_3 rfl ⟨Nat.le_of_ble_eq_true rfl, Nat.le_of_ble_eq_true rfl⟩ rfl ?_
  dsimp only [List.set]
  have lp5 : ∀ (kf : Nat) (k1 v : Int), (r - k1 < (kf : Int)) → (0 ≤ k1 ∧ k1 ≤ r) → (0 ≤ v ∧ v < 32) → (∀ l, 0 ≤ l → l < 5 → (bm v l ↔ l < k1 ∧ 0 < nu n g i j l)) → AW X 5 [some (vR o), some (vI i), some (vI j), some (vI v), some (vI k1)] [] ((hcol h o C F Nu Co n r f)) := by
    intro kf
    induction kf with
    | zero =>
      intro k1 v hk hk1 hv hb
      exfalso
      omega
    | succ kf ih5 =>
      intro k1 v hk hk1 hv hb
      refine aw_iload cx 7 dX0_productsOfTwo_5 rfl rfl ?_
      refine aw_aload_n cx 8 dX0_productsOfTwo_7 rfl rfl ?_
      refine aw_getfield cx 11 dX0_productsOfTwo_8 rfl fdX0_28 (by first | assumption | exact hc_0 | exact hc_1 | exact hc_2 | exact hc_3 | exact hc_4 | exact zz_gs _ _ _ | exact (hc_x (by omega)).trans (by first | assumption | exact hc_0 | exact hc_1 | exact hc_2 | exact hc_3 | exact hc_4 | exact zz_gs _ _ _) | exact (zz_gn (by omega)).trans (by first | assumption | exact hc_0 | exact hc_1 | exact hc_2 | exact hc_3 | exact hc_4 | exact zz_gs _ _ _)) (by rfl) ?_
      refine aw_icmp_ge cx 14 38 dX0_productsOfTwo_11 rfl (by decide) ⟨⟨by omega, by omega⟩, ⟨by omega, by omega⟩⟩ (fun c11 => ?_) (fun c11 => ?_)
      · refine aw_iload_n cx 39 dX0_productsOfTwo_38 rfl rfl ?_
        refine aw_ireturn cx dX0_productsOfTwo_39 ?_
        refine hRet _ _ True.intro rfl ?_
        rw [show k1 = rk n g by omega] at hb
        exact k _ hv hb
      · refine aw_aload_n cx 15 dX0_productsOfTwo_14 rfl rfl ?_
        refine aw_iload_n cx 16 dX0_productsOfTwo_15 rfl rfl ?_
        refine aw_iload_n cx 17 dX0_productsOfTwo_16 rfl rfl ?_
        refine aw_iload cx 19 dX0_productsOfTwo_17 rfl rfl ?_
        refine aw_V3v cx 22 mX0_numberOf (ci := 0) dX0_productsOfTwo_19 rfl okmX0_numberOf lkX0_92 (by first | assumption | exact hc_0 | exact hc_1 | exact hc_2 | exact hc_3 | exact hc_4 | exact zz_gs _ _ _ | exact (hc_x (by omega)).trans (by first | assumption | exact hc_0 | exact hc_1 | exact hc_2 | exact hc_3 | exact hc_4 | exact zz_gs _ _ _) | exact (zz_gn (by omega)).trans (by first | assumption | exact hc_0 | exact hc_1 | exact hc_2 | exact hc_3 | exact hc_4 | exact zz_gs _ _ _)) ⟨rfl, by decide⟩ (zz_rc0 mX0_productsOfTwo hRm hNS rfl rfl) (Nat.le_of_ble_eq_true rfl) ?_
        refine s_X0_numberOf (by first | assumption | exact hc_0 | exact hc_1 | exact hc_2 | exact hc_3 | exact hc_4 | exact (hc_x (by omega)).trans (by first | assumption | exact hc_0 | exact hc_1 | exact hc_2 | exact hc_3 | exact hc_4)) (by first | assumption | exact hc_0 | exact hc_1 | exact hc_2 | exact hc_3 | exact hc_4 | exact (hc_x (by omega)).trans (by first | assumption | exact hc_0 | exact hc_1 | exact hc_2 | exact hc_3 | exact hc_4)) ⟨by omega, by omega⟩ ⟨by omega, by omega⟩ ⟨by omega, by omega⟩ (fun v19 e19 => ⟨_, rfl, ?_⟩)
        have q19 := hN i j k1 (by omega) (by omega) (by omega) (by omega) (by omega) (by omega)
        have w19 := nu_b (n := n) (g := g) (by omega) i j k1
        refine aw_if_le cx 25 32 dX0_productsOfTwo_22 rfl (by decide) ⟨by omega, by omega⟩ (fun c22 => ?_) (fun c22 => ?_)
        · have w35 := hv
          have b35 : ∀ l, 0 ≤ l → l < 5 → (bm v l ↔ l < k1 + 1 ∧ 0 < nu n g i j l) := by
            intro l l0 l1
            rw [hb l l0 l1]
            constructor
            · rintro ⟨a, b⟩
              exact ⟨by omega, b⟩
            · rintro ⟨a, b⟩
              by_cases e : l = k1
              · rw [e] at b
                omega
              · exact ⟨by omega, b⟩
          refine aw_iinc cx 35 dX0_productsOfTwo_32 rfl rfl (Nat.le_of_ble_eq_true rfl) rfl ?_
          dsimp only [List.set]
          refine aw_goto cx 5 dX0_productsOfTwo_35 (by decide) ?_
          exact ih5 (k1 + 1) _ (by omega) ⟨by omega, by omega⟩ w35 b35
        · have s35 := shl_b (k := k1) ⟨by omega, by omega⟩
          have w35 := or_b hv s35
          have b35 : ∀ l, 0 ≤ l → l < 5 → (bm (zz_or v (zz_shl 1 k1)) l ↔ l < k1 + 1 ∧ 0 < nu n g i j l) := by
            intro l l0 l1
            rw [bm_or hv s35 ⟨l0, l1⟩, bm_shl ⟨by omega, by omega⟩ ⟨l0, l1⟩, hb l l0 l1]
            constructor
            · rintro (⟨a, b⟩ | e)
              · exact ⟨by omega, b⟩
              · exact ⟨by omega, by rw [e]; omega⟩
            · rintro ⟨a, b⟩
              by_cases e : l = k1
              · exact Or.inr e
              · exact Or.inl ⟨by omega, b⟩
          refine aw_iload_n cx 26 dX0_productsOfTwo_25 rfl rfl ?_
          refine aw_iconst cx 27 dX0_productsOfTwo_26 rfl ?_
          refine aw_iload cx 29 dX0_productsOfTwo_27 rfl rfl ?_
          refine aw_ishl cx 30 dX0_productsOfTwo_29 rfl ?_
          refine aw_ior cx 31 dX0_productsOfTwo_30 rfl ?_
          refine aw_istore_n cx 32 3 dX0_productsOfTwo_31 rfl rfl ⟨Nat.le_of_ble_eq_true rfl, Nat.le_of_ble_eq_true rfl⟩ rfl ?_
          dsimp only [List.set]
          refine aw_iinc cx 35 dX0_productsOfTwo_32 rfl rfl (Nat.le_of_ble_eq_true rfl) rfl ?_
          dsimp only [List.set]
          refine aw_goto cx 5 dX0_productsOfTwo_35 (by decide) ?_
          exact ih5 (k1 + 1) _ (by omega) ⟨by omega, by omega⟩ w35 b35
  exact lp5 6 0 0 (by omega) ⟨by omega, by omega⟩ ⟨by decide, by decide⟩ (fun l l0 l1 => ⟨fun h9 => absurd h9 (bm_0 ⟨l0, l1⟩), fun h9 => by omega⟩)
set_option maxRecDepth 100000 in
set_option maxHeartbeats 4000000 in
theorem s_X0_productsOf {h : AH} {Q : Option AV → AH → Prop} {o : Nat} {C F Nu Co : Int → Int} {n r f : Int} {g : Gr} (hn : 1 ≤ n ∧ n ≤ 8) (hA : ag n C g) (hg : rgn n g) (hr : r = rk n g) (hN : ∀ i j k, 0 ≤ i → i < 5 → 0 ≤ j → j < 5 → 0 ≤ k → k < rk n g → Nu (25 * k + 5 * i + j) = nu n g i j k) {v : Int} (k : ∀ p, (0 ≤ p ∧ p < 32) → (∀ l, 0 ≤ l → l < 5 → (bm p l ↔ pd n g v l)) → Q (some (vI p)) (hcol h o C F Nu Co n r f)) : MC mX0_productsOf [vR o, vI v] (hcol h o C F Nu Co n r f) Q := by
  refine mc_start mX0_productsOf RX0 "productsOf" ⟨rfl, rfl, by decide +kernel⟩ [some (vR o), some (vI v), none, none, none] ⟨3, rfl⟩ rfl (fun X cx hRm hNS hRet => ?_)
  have hR := rk_b (n := n) (g := g) (by omega) hg
  refine aw_iconst cx 1 dX0_productsOf_0 rfl ?_
  refine aw_istore_n cx 2 2 dX0_productsOf_1 rfl rfl ⟨Nat.le_of_ble_eq_true rfl, Nat.le_of_ble_eq_true rfl⟩ rfl ?_
  dsimp only [List.set]
  refine aw_iconst cx 3 dX0_productsOf_2 rfl ?_
  refine aw_istore_n cx 4 3 dX0_productsOf_3 rfl rfl ⟨Nat.le_of_ble_eq_true rfl, Nat.le_of_ble_eq_true rfl⟩ rfl ?_
  dsimp only [List.set]
  have lp4 : ∀ (kf : Nat) (i p : Int), (r - i < (kf : Int)) → (0 ≤ i ∧ i ≤ r) → (0 ≤ p ∧ p < 32) → (∀ l, 0 ≤ l → l < 5 → (bm p l ↔ pdx n g v i 0 l)) → AW X 4 [some (vR o), some (vI v), some (vI p), some (vI i), none] [] ((hcol h o C F Nu Co n r f)) := by
    intro kf
    induction kf with
    | zero =>
      intro i p hk hi hp hb
      exfalso
      omega
    | succ kf ih4 =>
      intro i p hk hi hp hb
      refine aw_iload_n cx 5 dX0_productsOf_4 rfl rfl ?_
      refine aw_aload_n cx 6 dX0_productsOf_5 rfl rfl ?_
      refine aw_getfield cx 9 dX0_productsOf_6 rfl fdX0_28 (by first | assumption | exact hc_0 | exact hc_1 | exact hc_2 | exact hc_3 | exact hc_4 | exact zz_gs _ _ _ | exact (hc_x (by omega)).trans (by first | assumption | exact hc_0 | exact hc_1 | exact hc_2 | exact hc_3 | exact hc_4 | exact zz_gs _ _ _) | exact (zz_gn (by omega)).trans (by first | assumption | exact hc_0 | exact hc_1 | exact hc_2 | exact hc_3 | exact hc_4 | exact zz_gs _ _ _)) (by rfl) ?_
      refine aw_icmp_ge cx 12 63 dX0_productsOf_9 rfl (by decide) ⟨⟨by omega, by omega⟩, ⟨by omega, by omega⟩⟩ (fun c9 => ?_) (fun c9 => ?_)
      · refine aw_iload_n cx 64 dX0_productsOf_63 rfl rfl ?_
        refine aw_ireturn cx dX0_productsOf_64 ?_
        refine hRet _ _ True.intro rfl ?_
        exact k _ hp (pdx_e (by rw [show i = rk n g by omega] at hb; exact hb))
      · refine aw_iconst cx 13 dX0_productsOf_12 rfl ?_
        refine aw_istore cx 15 dX0_productsOf_13 rfl ⟨Nat.le_of_ble_eq_true rfl, Nat.le_of_ble_eq_true rfl⟩ rfl ?_
        dsimp only [List.set]
        have lp15 : ∀ (kf : Nat) (j p2 : Int), (r - j < (kf : Int)) → (0 ≤ j ∧ j ≤ r) → (0 ≤ p2 ∧ p2 < 32) → (∀ l, 0 ≤ l → l < 5 → (bm p2 l ↔ pdx n g v i j l)) → AW X 15 [some (vR o), some (vI v), some (vI p2), some (vI i), some (vI j)] [] ((hcol h o C F Nu Co n r f)) := by
          intro kf
          induction kf with
          | zero =>
            intro j p2 hk hj hp2 hb2
            exfalso
            omega
          | succ kf ih15 =>
            intro j p2 hk hj hp2 hb2
            refine aw_iload cx 17 dX0_productsOf_15 rfl rfl ?_
            refine aw_aload_n cx 18 dX0_productsOf_17 rfl rfl ?_
            refine aw_getfield cx 21 dX0_productsOf_18 rfl fdX0_28 (by first | assumption | exact hc_0 | exact hc_1 | exact hc_2 | exact hc_3 | exact hc_4 | exact zz_gs _ _ _ | exact (hc_x (by omega)).trans (by first | assumption | exact hc_0 | exact hc_1 | exact hc_2 | exact hc_3 | exact hc_4 | exact zz_gs _ _ _) | exact (zz_gn (by omega)).trans (by first | assumption | exact hc_0 | exact hc_1 | exact hc_2 | exact hc_3 | exact hc_4 | exact zz_gs _ _ _)) (by rfl) ?_
            refine aw_icmp_ge cx 24 57 dX0_productsOf_21 rfl (by decide) ⟨⟨by omega, by omega⟩, ⟨by omega, by omega⟩⟩ (fun c21 => ?_) (fun c21 => ?_)
            · refine aw_iinc cx 60 dX0_productsOf_57 rfl rfl (Nat.le_of_ble_eq_true rfl) rfl ?_
              dsimp only [List.set]
              refine aw_goto cx 4 dX0_productsOf_60 (by decide) ?_
              exact aw_weak (ih4 (i + 1) p2 (by omega) ⟨by omega, by omega⟩ hp2 (pdx_r (by rw [show j = rk n g by omega] at hb2; exact hb2))) (by simp [zz_le])
            · refine aw_iload_n cx 25 dX0_productsOf_24 rfl rfl ?_
              refine aw_iload_n cx 26 dX0_productsOf_25 rfl rfl ?_
              refine aw_S2v cx 29 mX0_has dX0_productsOf_26 rfl okmX0_has lkX0_95 (zz_rc0 mX0_productsOf hRm hNS rfl rfl) (Nat.le_of_ble_eq_true rfl) ?_
              refine s_X0_has (fun v26 e26 => ⟨_, rfl, ?_⟩)
              refine aw_if_eq cx 32 51 dX0_productsOf_29 rfl (by decide) ⟨by omega, by omega⟩ (fun c29 => ?_) (fun c29 => ?_)
              · refine aw_iinc cx 54 dX0_productsOf_51 rfl rfl (Nat.le_of_ble_eq_true rfl) rfl ?_
                dsimp only [List.set]
                refine aw_goto cx 15 dX0_productsOf_54 (by decide) ?_
                first
                | exact ih15 (j + 1) _ (by omega) ⟨by omega, by omega⟩ (or_b hp2 w46) (pdx_y hp2 w46 ⟨by omega, by omega⟩ ⟨by omega, by omega⟩ hb2 b46 (e26.resolve_right (fun q => c29 q.1)).2 (e35.resolve_right (fun q => c38 q.1)).2)
                | exact ih15 (j + 1) _ (by omega) ⟨by omega, by omega⟩ hp2 (pdx_n hb2 (fun q => by omega))
              · refine aw_iload_n cx 33 dX0_productsOf_32 rfl rfl ?_
                refine aw_iload cx 35 dX0_productsOf_33 rfl rfl ?_
                refine aw_S2v cx 38 mX0_has dX0_productsOf_35 rfl okmX0_has lkX0_95 (zz_rc0 mX0_productsOf hRm hNS rfl rfl) (Nat.le_of_ble_eq_true rfl) ?_
                refine s_X0_has (fun v35 e35 => ⟨_, rfl, ?_⟩)
                refine aw_if_eq cx 41 51 dX0_productsOf_38 rfl (by decide) ⟨by omega, by omega⟩ (fun c38 => ?_) (fun c38 => ?_)
                · refine aw_iinc cx 54 dX0_productsOf_51 rfl rfl (Nat.le_of_ble_eq_true rfl) rfl ?_
                  dsimp only [List.set]
                  refine aw_goto cx 15 dX0_productsOf_54 (by decide) ?_
                  first
                  | exact ih15 (j + 1) _ (by omega) ⟨by omega, by omega⟩ (or_b hp2 w46) (pdx_y hp2 w46 ⟨by omega, by omega⟩ ⟨by omega, by omega⟩ hb2 b46 (e26.resolve_right (fun q => c29 q.1)).2 (e35.resolve_right (fun q => c38 q.1)).2)
                  | exact ih15 (j + 1) _ (by omega) ⟨by omega, by omega⟩ hp2 (pdx_n hb2 (fun q => by omega))
                · refine aw_iload_n cx 42 dX0_productsOf_41 rfl rfl ?_
                  refine aw_aload_n cx 43 dX0_productsOf_42 rfl rfl ?_
                  refine aw_iload_n cx 44 dX0_productsOf_43 rfl rfl ?_
                  refine aw_iload cx 46 dX0_productsOf_44 rfl rfl ?_
                  refine aw_V2v cx 49 mX0_productsOfTwo (ci := 0) dX0_productsOf_46 rfl okmX0_productsOfTwo lkX0_102 (by first | assumption | exact hc_0 | exact hc_1 | exact hc_2 | exact hc_3 | exact hc_4 | exact zz_gs _ _ _ | exact (hc_x (by omega)).trans (by first | assumption | exact hc_0 | exact hc_1 | exact hc_2 | exact hc_3 | exact hc_4 | exact zz_gs _ _ _) | exact (zz_gn (by omega)).trans (by first | assumption | exact hc_0 | exact hc_1 | exact hc_2 | exact hc_3 | exact hc_4 | exact zz_gs _ _ _)) ⟨rfl, by decide⟩ (zz_rc0 mX0_productsOf hRm hNS rfl rfl) (Nat.le_of_ble_eq_true rfl) ?_
                  refine s_X0_productsOfTwo hn hA hg hr hN ⟨by omega, by omega⟩ ⟨by omega, by omega⟩ (fun v46 w46 b46 => ⟨_, rfl, ?_⟩)
                  refine aw_ior cx 50 dX0_productsOf_49 rfl ?_
                  refine aw_istore_n cx 51 2 dX0_productsOf_50 rfl rfl ⟨Nat.le_of_ble_eq_true rfl, Nat.le_of_ble_eq_true rfl⟩ rfl ?_
                  dsimp only [List.set]
                  refine aw_iinc cx 54 dX0_productsOf_51 rfl rfl (Nat.le_of_ble_eq_true rfl) rfl ?_
                  dsimp only [List.set]
                  refine aw_goto cx 15 dX0_productsOf_54 (by decide) ?_
                  first
                  | exact ih15 (j + 1) _ (by omega) ⟨by omega, by omega⟩ (or_b hp2 w46) (pdx_y hp2 w46 ⟨by omega, by omega⟩ ⟨by omega, by omega⟩ hb2 b46 (e26.resolve_right (fun q => c29 q.1)).2 (e35.resolve_right (fun q => c38 q.1)).2)
                  | exact ih15 (j + 1) _ (by omega) ⟨by omega, by omega⟩ hp2 (pdx_n hb2 (fun q => by omega))
        exact lp15 6 0 p (by omega) ⟨by omega, by omega⟩ hp hb
  exact aw_weak (lp4 6 0 0 (by omega) ⟨by omega, by omega⟩ ⟨by decide, by decide⟩ pdx_0) (by simp [zz_le])
set_option maxRecDepth 100000 in
set_option maxHeartbeats 4000000 in
theorem s_X0_isClosed {h : AH} {Q : Option AV → AH → Prop} {o : Nat} {C F Nu Co : Int → Int} {n r f : Int} {g : Gr} (hn : 1 ≤ n ∧ n ≤ 8) (hA : ag n C g) (hg : rgn n g) (hr : r = rk n g) (hN : ∀ i j k, 0 ≤ i → i < 5 → 0 ≤ j → j < 5 → 0 ≤ k → k < rk n g → Nu (25 * k + 5 * i + j) = nu n g i j k) {v : Int} (hv : 0 ≤ v ∧ v < 32) (k : ∀ b, ((b = 1 ∧ gw n g v = v) ∨ (b = 0 ∧ ¬ gw n g v = v)) → Q (some (vI b)) (hcol h o C F Nu Co n r f)) : MC mX0_isClosed [vR o, vI v] (hcol h o C F Nu Co n r f) Q := by
  refine mc_start mX0_isClosed RX0 "isClosed" ⟨rfl, rfl, by decide +kernel⟩ [some (vR o), some (vI v)] ⟨0, rfl⟩ rfl (fun X cx hRm hNS hRet => ?_)
  have hR := rk_b (n := n) (g := g) (by omega) hg
  refine aw_iload_n cx 1 dX0_isClosed_0 rfl rfl ?_
  refine aw_iconst cx 2 dX0_isClosed_1 rfl ?_
  refine aw_S2v cx 5 mX0_has dX0_isClosed_2 rfl okmX0_has lkX0_95 (zz_rc0 mX0_isClosed hRm hNS rfl rfl) (Nat.le_of_ble_eq_true rfl) ?_
  refine s_X0_has (fun v2 e2 => ⟨_, rfl, ?_⟩)
  refine aw_if_eq cx 8 24 dX0_isClosed_5 rfl (by decide) ⟨by omega, by omega⟩ (fun c5 => ?_) (fun c5 => ?_)
  · refine aw_iconst cx 25 dX0_isClosed_24 rfl ?_
    refine aw_ireturn cx dX0_isClosed_25 ?_
    refine hRet _ _ (by first | exact Or.inl rfl | exact Or.inr rfl | assumption) rfl ?_
    first
    | exact k _ (Or.inl ⟨rfl, (cl_iff hR hv).mpr ⟨(e2.resolve_right (fun q => c5 q.1)).2, fun l l0 l1 q => (bm_sub w10 hv).mp c17 l l0 l1 ((b10 l l0 l1).mpr q)⟩⟩)
    | exact k _ (Or.inr ⟨rfl, fun q => c17 ((bm_sub w10 hv).mpr (fun l l0 l1 q2 => ((cl_iff hR hv).mp q).2 l l0 l1 ((b10 l l0 l1).mp q2)))⟩)
    | exact k _ (Or.inr ⟨rfl, fun q => by have := ((cl_iff hR hv).mp q).1; omega⟩)
  · refine aw_aload_n cx 9 dX0_isClosed_8 rfl rfl ?_
    refine aw_iload_n cx 10 dX0_isClosed_9 rfl rfl ?_
    refine aw_V1v cx 13 mX0_productsOf (ci := 0) dX0_isClosed_10 rfl okmX0_productsOf lkX0_99 (by first | assumption | exact hc_0 | exact hc_1 | exact hc_2 | exact hc_3 | exact hc_4 | exact zz_gs _ _ _ | exact (hc_x (by omega)).trans (by first | assumption | exact hc_0 | exact hc_1 | exact hc_2 | exact hc_3 | exact hc_4 | exact zz_gs _ _ _) | exact (zz_gn (by omega)).trans (by first | assumption | exact hc_0 | exact hc_1 | exact hc_2 | exact hc_3 | exact hc_4 | exact zz_gs _ _ _)) ⟨rfl, by decide⟩ (zz_rc0 mX0_isClosed hRm hNS rfl rfl) (Nat.le_of_ble_eq_true rfl) ?_
    refine s_X0_productsOf hn hA hg hr hN (fun v10 w10 b10 => ⟨_, rfl, ?_⟩)
    refine aw_iload_n cx 14 dX0_isClosed_13 rfl rfl ?_
    refine aw_iconst cx 15 dX0_isClosed_14 rfl ?_
    refine aw_ixor cx 16 dX0_isClosed_15 rfl ?_
    refine aw_iand cx 17 dX0_isClosed_16 rfl ?_
    refine aw_if_ne cx 20 24 dX0_isClosed_17 rfl (by decide) (and_r _ _) (fun c17 => ?_) (fun c17 => ?_)
    · refine aw_iconst cx 25 dX0_isClosed_24 rfl ?_
      refine aw_ireturn cx dX0_isClosed_25 ?_
      refine hRet _ _ (by first | exact Or.inl rfl | exact Or.inr rfl | assumption) rfl ?_
      first
      | exact k _ (Or.inl ⟨rfl, (cl_iff hR hv).mpr ⟨(e2.resolve_right (fun q => c5 q.1)).2, fun l l0 l1 q => (bm_sub w10 hv).mp c17 l l0 l1 ((b10 l l0 l1).mpr q)⟩⟩)
      | exact k _ (Or.inr ⟨rfl, fun q => c17 ((bm_sub w10 hv).mpr (fun l l0 l1 q2 => ((cl_iff hR hv).mp q).2 l l0 l1 ((b10 l l0 l1).mp q2)))⟩)
      | exact k _ (Or.inr ⟨rfl, fun q => by have := ((cl_iff hR hv).mp q).1; omega⟩)
    · refine aw_iconst cx 21 dX0_isClosed_20 rfl ?_
      refine aw_goto cx 25 dX0_isClosed_21 (by decide) ?_
      refine aw_ireturn cx dX0_isClosed_25 ?_
      refine hRet _ _ (by first | exact Or.inl rfl | exact Or.inr rfl | assumption) rfl ?_
      first
      | exact k _ (Or.inl ⟨rfl, (cl_iff hR hv).mpr ⟨(e2.resolve_right (fun q => c5 q.1)).2, fun l l0 l1 q => (bm_sub w10 hv).mp c17 l l0 l1 ((b10 l l0 l1).mpr q)⟩⟩)
      | exact k _ (Or.inr ⟨rfl, fun q => c17 ((bm_sub w10 hv).mpr (fun l l0 l1 q2 => ((cl_iff hR hv).mp q).2 l l0 l1 ((b10 l l0 l1).mp q2)))⟩)
      | exact k _ (Or.inr ⟨rfl, fun q => by have := ((cl_iff hR hv).mp q).1; omega⟩)
set_option maxRecDepth 100000 in
set_option maxHeartbeats 4000000 in
theorem s_X0_hullOf {h : AH} {Q : Option AV → AH → Prop} {o : Nat} {C F Nu Co : Int → Int} {n r f : Int} {g : Gr} (hn : 1 ≤ n ∧ n ≤ 8) (hA : ag n C g) (hg : rgn n g) (hr : r = rk n g) (hN : ∀ i j k, 0 ≤ i → i < 5 → 0 ≤ j → j < 5 → 0 ≤ k → k < rk n g → Nu (25 * k + 5 * i + j) = nu n g i j k) {v : Int} (hv : 0 ≤ v ∧ v < 32) (hb : blw n g v) (k : ∀ w, w = hl n g v → Q (some (vI w)) (hcol h o C F Nu Co n r f)) : MC mX0_hullOf [vR o, vI v] (hcol h o C F Nu Co n r f) Q := by
  refine mc_start mX0_hullOf RX0 "hullOf" ⟨rfl, rfl, by decide +kernel⟩ [some (vR o), some (vI v), none, none] ⟨2, rfl⟩ rfl (fun X cx hRm hNS hRet => ?_)
  have hR := rk_b (n := n) (g := g) (by omega) hg
  refine aw_iload_n cx 1 dX0_hullOf_0 rfl rfl ?_
  refine aw_iconst cx 2 dX0_hullOf_1 rfl ?_
  refine aw_ior cx 3 dX0_hullOf_2 rfl ?_
  refine aw_istore_n cx 4 2 dX0_hullOf_3 rfl rfl ⟨Nat.le_of_ble_eq_true rfl, Nat.le_of_ble_eq_true rfl⟩ rfl ?_
  dsimp only [List.set]
  refine aw_iconst cx 5 dX0_hullOf_4 rfl ?_
  refine aw_istore_n cx 6 3 dX0_hullOf_5 rfl rfl ⟨Nat.le_of_ble_eq_true rfl, Nat.le_of_ble_eq_true rfl⟩ rfl ?_
  dsimp only [List.set]
  have lp6 : ∀ (kf : Nat) (m w : Int), (r - m < (kf : Int)) → (0 ≤ m ∧ m ≤ r) → w = it n g v m → AW X 6 [some (vR o), some (vI v), some (vI w), some (vI m)] [] ((hcol h o C F Nu Co n r f)) := by
    intro kf
    induction kf with
    | zero =>
      intro m w hk hm hw
      exfalso
      omega
    | succ kf ih6 =>
      intro m w hk hm hw
      obtain ⟨w0, w1, w2, -⟩ := it_p (m := m) hR hv hb hm.1
      rw [← hw] at w0 w2
      refine aw_iload_n cx 7 dX0_hullOf_6 rfl rfl ?_
      refine aw_aload_n cx 8 dX0_hullOf_7 rfl rfl ?_
      refine aw_getfield cx 11 dX0_hullOf_8 rfl fdX0_28 (by first | assumption | exact hc_0 | exact hc_1 | exact hc_2 | exact hc_3 | exact hc_4 | exact zz_gs _ _ _ | exact (hc_x (by omega)).trans (by first | assumption | exact hc_0 | exact hc_1 | exact hc_2 | exact hc_3 | exact hc_4 | exact zz_gs _ _ _) | exact (zz_gn (by omega)).trans (by first | assumption | exact hc_0 | exact hc_1 | exact hc_2 | exact hc_3 | exact hc_4 | exact zz_gs _ _ _)) (by rfl) ?_
      refine aw_icmp_ge cx 14 28 dX0_hullOf_11 rfl (by decide) ⟨⟨by omega, by omega⟩, ⟨by omega, by omega⟩⟩ (fun c11 => ?_) (fun c11 => ?_)
      · refine aw_iload_n cx 29 dX0_hullOf_28 rfl rfl ?_
        refine aw_ireturn cx dX0_hullOf_29 ?_
        refine hRet _ _ True.intro rfl ?_
        exact k _ (by rw [hw, ← hl_rk hR hv hb, show m = rk n g by omega])
      · refine aw_iload_n cx 15 dX0_hullOf_14 rfl rfl ?_
        refine aw_aload_n cx 16 dX0_hullOf_15 rfl rfl ?_
        refine aw_iload_n cx 17 dX0_hullOf_16 rfl rfl ?_
        refine aw_V1v cx 20 mX0_productsOf (ci := 0) dX0_hullOf_17 rfl okmX0_productsOf lkX0_99 (by first | assumption | exact hc_0 | exact hc_1 | exact hc_2 | exact hc_3 | exact hc_4 | exact zz_gs _ _ _ | exact (hc_x (by omega)).trans (by first | assumption | exact hc_0 | exact hc_1 | exact hc_2 | exact hc_3 | exact hc_4 | exact zz_gs _ _ _) | exact (zz_gn (by omega)).trans (by first | assumption | exact hc_0 | exact hc_1 | exact hc_2 | exact hc_3 | exact hc_4 | exact zz_gs _ _ _)) ⟨rfl, by decide⟩ (zz_rc0 mX0_hullOf hRm hNS rfl rfl) (Nat.le_of_ble_eq_true rfl) ?_
        refine s_X0_productsOf hn hA hg hr hN (fun v17 w17 b17 => ⟨_, rfl, ?_⟩)
        refine aw_ior cx 21 dX0_hullOf_20 rfl ?_
        refine aw_istore_n cx 22 2 dX0_hullOf_21 rfl rfl ⟨Nat.le_of_ble_eq_true rfl, Nat.le_of_ble_eq_true rfl⟩ rfl ?_
        dsimp only [List.set]
        refine aw_iinc cx 25 dX0_hullOf_22 rfl rfl (Nat.le_of_ble_eq_true rfl) rfl ?_
        dsimp only [List.set]
        refine aw_goto cx 6 dX0_hullOf_25 (by decide) ?_
        exact ih6 (m + 1) _ (by omega) ⟨by omega, by omega⟩ (by rw [gw_eq hR w0 w2 w17 b17, it_s hm.1, hw])
  exact lp6 6 0 _ (by omega) ⟨by omega, by omega⟩ rfl
set_option maxRecDepth 100000 in
set_option maxHeartbeats 4000000 in
theorem s_X0_closedSets {h : AH} {Q : Option AV → AH → Prop} {o : Nat} {C F Nu Co : Int → Int} {n r f : Int} {g : Gr} (hn : 1 ≤ n ∧ n ≤ 8) (hA : ag n C g) (hg : rgn n g) (hr : r = rk n g) (hN : ∀ i j k, 0 ≤ i → i < 5 → 0 ≤ j → j < 5 → 0 ≤ k → k < rk n g → Nu (25 * k + 5 * i + j) = nu n g i j k) (k : ∀ w, w = cs n g (zz_shl 1 (rk n g)) → Q (some (vI w)) (hcol h o C F Nu Co n r f)) : MC mX0_closedSets [vR o] (hcol h o C F Nu Co n r f) Q := by
  refine mc_start mX0_closedSets RX0 "closedSets" ⟨rfl, rfl, by decide +kernel⟩ [some (vR o), none, none] ⟨2, rfl⟩ rfl (fun X cx hRm hNS hRet => ?_)
  have hR := rk_b (n := n) (g := g) (by omega) hg
  have hS := shl_r (R := r) ⟨by omega, by omega⟩
  refine aw_iconst cx 1 dX0_closedSets_0 rfl ?_
  refine aw_istore_n cx 2 1 dX0_closedSets_1 rfl rfl ⟨Nat.le_of_ble_eq_true rfl, Nat.le_of_ble_eq_true rfl⟩ rfl ?_
  dsimp only [List.set]
  refine aw_iconst cx 3 dX0_closedSets_2 rfl ?_
  refine aw_istore_n cx 4 2 dX0_closedSets_3 rfl rfl ⟨Nat.le_of_ble_eq_true rfl, Nat.le_of_ble_eq_true rfl⟩ rfl ?_
  dsimp only [List.set]
  have lp4 : ∀ (kf : Nat) (s v : Int), (zz_shl 1 r - v < (kf : Int)) → (0 ≤ v ∧ v ≤ zz_shl 1 r) → s = cs n g v → AW X 4 [some (vR o), some (vI s), some (vI v)] [] ((hcol h o C F Nu Co n r f)) := by
    intro kf
    induction kf with
    | zero =>
      intro s v hk hv hs
      exfalso
      omega
    | succ kf ih4 =>
      intro s v hk hv hs
      have hs1 := cs_b (n := n) (g := g) hv.1
      refine aw_iload_n cx 5 dX0_closedSets_4 rfl rfl ?_
      refine aw_iconst cx 6 dX0_closedSets_5 rfl ?_
      refine aw_aload_n cx 7 dX0_closedSets_6 rfl rfl ?_
      refine aw_getfield cx 10 dX0_closedSets_7 rfl fdX0_28 (by first | assumption | exact hc_0 | exact hc_1 | exact hc_2 | exact hc_3 | exact hc_4 | exact zz_gs _ _ _ | exact (hc_x (by omega)).trans (by first | assumption | exact hc_0 | exact hc_1 | exact hc_2 | exact hc_3 | exact hc_4 | exact zz_gs _ _ _) | exact (zz_gn (by omega)).trans (by first | assumption | exact hc_0 | exact hc_1 | exact hc_2 | exact hc_3 | exact hc_4 | exact zz_gs _ _ _)) (by rfl) ?_
      refine aw_ishl cx 11 dX0_closedSets_10 rfl ?_
      refine aw_icmp_ge cx 14 31 dX0_closedSets_11 rfl (by decide) ⟨⟨by omega, by omega⟩, ⟨by omega, by omega⟩⟩ (fun c11 => ?_) (fun c11 => ?_)
      · refine aw_iload_n cx 32 dX0_closedSets_31 rfl rfl ?_
        refine aw_ireturn cx dX0_closedSets_32 ?_
        refine hRet _ _ True.intro rfl ?_
        exact k _ (by rw [hs, show v = zz_shl 1 r by omega, hr])
      · refine aw_aload_n cx 15 dX0_closedSets_14 rfl rfl ?_
        refine aw_iload_n cx 16 dX0_closedSets_15 rfl rfl ?_
        refine aw_V1v cx 19 mX0_isClosed (ci := 0) dX0_closedSets_16 rfl okmX0_isClosed lkX0_105 (by first | assumption | exact hc_0 | exact hc_1 | exact hc_2 | exact hc_3 | exact hc_4 | exact zz_gs _ _ _ | exact (hc_x (by omega)).trans (by first | assumption | exact hc_0 | exact hc_1 | exact hc_2 | exact hc_3 | exact hc_4 | exact zz_gs _ _ _) | exact (zz_gn (by omega)).trans (by first | assumption | exact hc_0 | exact hc_1 | exact hc_2 | exact hc_3 | exact hc_4 | exact zz_gs _ _ _)) ⟨rfl, by decide⟩ (zz_rc0 mX0_closedSets hRm hNS rfl rfl) (Nat.le_of_ble_eq_true rfl) ?_
        refine s_X0_isClosed hn hA hg hr hN ⟨by omega, by omega⟩ (fun v16 e16 => ⟨_, rfl, ?_⟩)
        refine aw_if_eq cx 22 25 dX0_closedSets_19 rfl (by decide) ⟨by omega, by omega⟩ (fun c19 => ?_) (fun c19 => ?_)
        · refine aw_iinc cx 28 dX0_closedSets_25 rfl rfl (Nat.le_of_ble_eq_true rfl) rfl ?_
          dsimp only [List.set]
          refine aw_goto cx 4 dX0_closedSets_28 (by decide) ?_
          exact ih4 _ (v + 1) (by omega) ⟨by omega, by omega⟩ (by rw [cs_s hv.1]; split <;> omega)
        · refine aw_iinc cx 25 dX0_closedSets_22 rfl rfl (Nat.le_of_ble_eq_true rfl) rfl ?_
          dsimp only [List.set]
          refine aw_iinc cx 28 dX0_closedSets_25 rfl rfl (Nat.le_of_ble_eq_true rfl) rfl ?_
          dsimp only [List.set]
          refine aw_goto cx 4 dX0_closedSets_28 (by decide) ?_
          exact ih4 _ (v + 1) (by omega) ⟨by omega, by omega⟩ (by rw [cs_s hv.1]; split <;> omega)
  exact lp4 33 0 0 (by omega) ⟨by omega, by omega⟩ rfl
set_option maxRecDepth 100000 in
set_option maxHeartbeats 4000000 in
theorem s_X0_orderOf {h : AH} {Q : Option AV → AH → Prop} {o : Nat} {C F Nu Co : Int → Int} {n r f : Int} {g : Gr} (hn : 1 ≤ n ∧ n ≤ 8) (hA : ag n C g) (hg : rgn n g) (hr : r = rk n g) (hN : ∀ i j k, 0 ≤ i → i < 5 → 0 ≤ j → j < 5 → 0 ≤ k → k < rk n g → Nu (25 * k + 5 * i + j) = nu n g i j k) {v : Int} (k : ∀ w, w = od n g v 5 → Q (some (vI w)) (hcol h o C F Nu Co n r f)) : MC mX0_orderOf [vR o, vI v] (hcol h o C F Nu Co n r f) Q := by
  refine mc_start mX0_orderOf RX0 "orderOf" ⟨rfl, rfl, by decide +kernel⟩ [some (vR o), some (vI v), none, none] ⟨2, rfl⟩ rfl (fun X cx hRm hNS hRet => ?_)
  have hR := rk_b (n := n) (g := g) (by omega) hg
  refine aw_iconst cx 1 dX0_orderOf_0 rfl ?_
  refine aw_istore_n cx 2 2 dX0_orderOf_1 rfl rfl ⟨Nat.le_of_ble_eq_true rfl, Nat.le_of_ble_eq_true rfl⟩ rfl ?_
  dsimp only [List.set]
  refine aw_iconst cx 3 dX0_orderOf_2 rfl ?_
  refine aw_istore_n cx 4 3 dX0_orderOf_3 rfl rfl ⟨Nat.le_of_ble_eq_true rfl, Nat.le_of_ble_eq_true rfl⟩ rfl ?_
  dsimp only [List.set]
  have lp4 : ∀ (kf : Nat) (s i : Int), (r - i < (kf : Int)) → (0 ≤ i ∧ i ≤ r) → s = od n g v i → AW X 4 [some (vR o), some (vI v), some (vI s), some (vI i)] [] ((hcol h o C F Nu Co n r f)) := by
    intro kf
    induction kf with
    | zero =>
      intro s i hk hi hs
      exfalso
      omega
    | succ kf ih4 =>
      intro s i hk hi hs
      refine aw_iload_n cx 5 dX0_orderOf_4 rfl rfl ?_
      refine aw_aload_n cx 6 dX0_orderOf_5 rfl rfl ?_
      refine aw_getfield cx 9 dX0_orderOf_6 rfl fdX0_28 (by first | assumption | exact hc_0 | exact hc_1 | exact hc_2 | exact hc_3 | exact hc_4 | exact zz_gs _ _ _ | exact (hc_x (by omega)).trans (by first | assumption | exact hc_0 | exact hc_1 | exact hc_2 | exact hc_3 | exact hc_4 | exact zz_gs _ _ _) | exact (zz_gn (by omega)).trans (by first | assumption | exact hc_0 | exact hc_1 | exact hc_2 | exact hc_3 | exact hc_4 | exact zz_gs _ _ _)) (by rfl) ?_
      refine aw_icmp_ge cx 12 34 dX0_orderOf_9 rfl (by decide) ⟨⟨by omega, by omega⟩, ⟨by omega, by omega⟩⟩ (fun c9 => ?_) (fun c9 => ?_)
      · refine aw_iload_n cx 35 dX0_orderOf_34 rfl rfl ?_
        refine aw_ireturn cx dX0_orderOf_35 ?_
        refine hRet _ _ True.intro rfl ?_
        exact k _ (by rw [← od_rk (by omega) hR, hs, show i = rk n g by omega])
      · refine aw_iload_n cx 13 dX0_orderOf_12 rfl rfl ?_
        refine aw_iload_n cx 14 dX0_orderOf_13 rfl rfl ?_
        refine aw_S2v cx 17 mX0_has dX0_orderOf_14 rfl okmX0_has lkX0_95 (zz_rc0 mX0_orderOf hRm hNS rfl rfl) (Nat.le_of_ble_eq_true rfl) ?_
        refine s_X0_has (fun v14 e14 => ⟨_, rfl, ?_⟩)
        refine aw_if_eq cx 20 28 dX0_orderOf_17 rfl (by decide) ⟨by omega, by omega⟩ (fun c17 => ?_) (fun c17 => ?_)
        · refine aw_iinc cx 31 dX0_orderOf_28 rfl rfl (Nat.le_of_ble_eq_true rfl) rfl ?_
          dsimp only [List.set]
          refine aw_goto cx 4 dX0_orderOf_31 (by decide) ?_
          first
          | exact ih4 _ (i + 1) (by omega) ⟨by omega, by omega⟩ (by rw [od_s hi.1, if_pos (e14.resolve_right (fun q => c17 q.1)).2, hs, e23])
          | exact ih4 _ (i + 1) (by omega) ⟨by omega, by omega⟩ (by rw [od_s hi.1, if_neg (fun q => by omega), hs])
        · refine aw_iload_n cx 21 dX0_orderOf_20 rfl rfl ?_
          refine aw_aload_n cx 22 dX0_orderOf_21 rfl rfl ?_
          refine aw_iload_n cx 23 dX0_orderOf_22 rfl rfl ?_
          refine aw_V1v cx 26 mX0_degreeOf (ci := 0) dX0_orderOf_23 rfl okmX0_degreeOf lkX0_108 (by first | assumption | exact hc_0 | exact hc_1 | exact hc_2 | exact hc_3 | exact hc_4 | exact zz_gs _ _ _ | exact (hc_x (by omega)).trans (by first | assumption | exact hc_0 | exact hc_1 | exact hc_2 | exact hc_3 | exact hc_4 | exact zz_gs _ _ _) | exact (zz_gn (by omega)).trans (by first | assumption | exact hc_0 | exact hc_1 | exact hc_2 | exact hc_3 | exact hc_4 | exact zz_gs _ _ _)) ⟨rfl, by decide⟩ (zz_rc0 mX0_orderOf hRm hNS rfl rfl) (Nat.le_of_ble_eq_true rfl) ?_
          refine s_X0_degreeOf hn hA hg ⟨by omega, by omega⟩ (fun v23 e23 => ⟨_, rfl, ?_⟩)
          refine aw_iadd cx 27 dX0_orderOf_26 rfl ?_
          refine aw_istore_n cx 28 2 dX0_orderOf_27 rfl rfl ⟨Nat.le_of_ble_eq_true rfl, Nat.le_of_ble_eq_true rfl⟩ rfl ?_
          dsimp only [List.set]
          refine aw_iinc cx 31 dX0_orderOf_28 rfl rfl (Nat.le_of_ble_eq_true rfl) rfl ?_
          dsimp only [List.set]
          refine aw_goto cx 4 dX0_orderOf_31 (by decide) ?_
          first
          | exact ih4 _ (i + 1) (by omega) ⟨by omega, by omega⟩ (by rw [od_s hi.1, if_pos (e14.resolve_right (fun q => c17 q.1)).2, hs, e23])
          | exact ih4 _ (i + 1) (by omega) ⟨by omega, by omega⟩ (by rw [od_s hi.1, if_neg (fun q => by omega), hs])
  exact lp4 6 0 0 (by omega) ⟨by omega, by omega⟩ rfl
set_option maxRecDepth 100000 in
set_option maxHeartbeats 4000000 in
theorem s_X0_multipliesEitherWay {h : AH} {Q : Option AV → AH → Prop} {o : Nat} {C F Nu Co : Int → Int} {n r f : Int} {g : Gr} (hn : 1 ≤ n ∧ n ≤ 8) (hA : ag n C g) (hg : rgn n g) (hr : r = rk n g) (hN : ∀ i j k, 0 ≤ i → i < 5 → 0 ≤ j → j < 5 → 0 ≤ k → k < rk n g → Nu (25 * k + 5 * i + j) = nu n g i j k) (k : ∀ w, w = tu n g → (w = 0 ∨ w = 1) → Q (some (vI w)) (hcol h o C F Nu Co n r f)) : MC mX0_multipliesEitherWay [vR o] (hcol h o C F Nu Co n r f) Q := by
  refine mc_start mX0_multipliesEitherWay RX0 "multipliesEitherWay" ⟨rfl, rfl, by decide +kernel⟩ [some (vR o), none, none, none] ⟨3, rfl⟩ rfl (fun X cx hRm hNS hRet => ?_)
  have hR := rk_b (n := n) (g := g) (by omega) hg
  refine aw_iconst cx 1 dX0_multipliesEitherWay_0 rfl ?_
  refine aw_istore_n cx 2 1 dX0_multipliesEitherWay_1 rfl rfl ⟨Nat.le_of_ble_eq_true rfl, Nat.le_of_ble_eq_true rfl⟩ rfl ?_
  dsimp only [List.set]
  have lp2 : ∀ (kf : Nat) (i : Int), (r - i < (kf : Int)) → (0 ≤ i ∧ i ≤ r) → (∀ a b c, a < i → 0 ≤ b → b < a → 0 ≤ c → c < r → nu n g a b c = nu n g b a c) → AW X 2 [some (vR o), some (vI i), none, none] [] ((hcol h o C F Nu Co n r f)) := by
    intro kf
    induction kf with
    | zero =>
      intro i hk hi hx
      exfalso
      omega
    | succ kf ih2 =>
      intro i hk hi hx
      refine aw_iload_n cx 3 dX0_multipliesEitherWay_2 rfl rfl ?_
      refine aw_aload_n cx 4 dX0_multipliesEitherWay_3 rfl rfl ?_
      refine aw_getfield cx 7 dX0_multipliesEitherWay_4 rfl fdX0_28 (by first | assumption | exact hc_0 | exact hc_1 | exact hc_2 | exact hc_3 | exact hc_4 | exact zz_gs _ _ _ | exact (hc_x (by omega)).trans (by first | assumption | exact hc_0 | exact hc_1 | exact hc_2 | exact hc_3 | exact hc_4 | exact zz_gs _ _ _) | exact (zz_gn (by omega)).trans (by first | assumption | exact hc_0 | exact hc_1 | exact hc_2 | exact hc_3 | exact hc_4 | exact zz_gs _ _ _)) (by rfl) ?_
      refine aw_icmp_ge cx 10 64 dX0_multipliesEitherWay_7 rfl (by decide) ⟨⟨by omega, by omega⟩, ⟨by omega, by omega⟩⟩ (fun c7 => ?_) (fun c7 => ?_)
      · refine aw_iconst cx 65 dX0_multipliesEitherWay_64 rfl ?_
        refine aw_ireturn cx dX0_multipliesEitherWay_65 ?_
        refine hRet _ _ (by first | exact Or.inl rfl | exact Or.inr rfl | assumption) rfl ?_
        exact k _ (tu_1 hR.2 (fun a b c a0 a1 b0 b1 c0 c1 => by
          by_cases e1 : b < a
          · exact hx a b c (by omega) b0 e1 c0 (by omega)
          · by_cases e2 : a < b
            · exact (hx b a c (by omega) a0 e2 c0 (by omega)).symm
            · rw [show a = b by omega])).symm (Or.inr rfl)
      · refine aw_iconst cx 11 dX0_multipliesEitherWay_10 rfl ?_
        refine aw_istore_n cx 12 2 dX0_multipliesEitherWay_11 rfl rfl ⟨Nat.le_of_ble_eq_true rfl, Nat.le_of_ble_eq_true rfl⟩ rfl ?_
        dsimp only [List.set]
        have lp12 : ∀ (kf : Nat) (j : Int), (i - j < (kf : Int)) → (0 ≤ j ∧ j ≤ i) → (∀ b c, 0 ≤ b → b < j → 0 ≤ c → c < r → nu n g i b c = nu n g b i c) → AW X 12 [some (vR o), some (vI i), some (vI j), none] [] ((hcol h o C F Nu Co n r f)) := by
          intro kf
          induction kf with
          | zero =>
            intro j hk hj hy
            exfalso
            omega
          | succ kf ih12 =>
            intro j hk hj hy
            refine aw_iload_n cx 13 dX0_multipliesEitherWay_12 rfl rfl ?_
            refine aw_iload_n cx 14 dX0_multipliesEitherWay_13 rfl rfl ?_
            refine aw_icmp_ge cx 17 58 dX0_multipliesEitherWay_14 rfl (by decide) ⟨⟨by omega, by omega⟩, ⟨by omega, by omega⟩⟩ (fun c14 => ?_) (fun c14 => ?_)
            · refine aw_iinc cx 61 dX0_multipliesEitherWay_58 rfl rfl (Nat.le_of_ble_eq_true rfl) rfl ?_
              dsimp only [List.set]
              refine aw_goto cx 2 dX0_multipliesEitherWay_61 (by decide) ?_
              exact aw_weak (ih2 (i + 1) (by omega) ⟨by omega, by omega⟩ (fun a b c a1 b0 b1 c0 c1 => by
                by_cases e : a = i
                · rw [e]; exact hy b c b0 (by omega) c0 c1
                · exact hx a b c (by omega) b0 b1 c0 c1)) (by simp [zz_le])
            · refine aw_iconst cx 18 dX0_multipliesEitherWay_17 rfl ?_
              refine aw_istore_n cx 19 3 dX0_multipliesEitherWay_18 rfl rfl ⟨Nat.le_of_ble_eq_true rfl, Nat.le_of_ble_eq_true rfl⟩ rfl ?_
              dsimp only [List.set]
              have lp19 : ∀ (kf : Nat) (k1 : Int), (r - k1 < (kf : Int)) → (0 ≤ k1 ∧ k1 ≤ r) → (∀ c, 0 ≤ c → c < k1 → nu n g i j c = nu n g j i c) → AW X 19 [some (vR o), some (vI i), some (vI j), some (vI k1)] [] ((hcol h o C F Nu Co n r f)) := by
                intro kf
                induction kf with
                | zero =>
                  intro k1 hk hk1 hz
                  exfalso
                  omega
                | succ kf ih19 =>
                  intro k1 hk hk1 hz
                  refine aw_iload_n cx 20 dX0_multipliesEitherWay_19 rfl rfl ?_
                  refine aw_aload_n cx 21 dX0_multipliesEitherWay_20 rfl rfl ?_
                  refine aw_getfield cx 24 dX0_multipliesEitherWay_21 rfl fdX0_28 (by first | assumption | exact hc_0 | exact hc_1 | exact hc_2 | exact hc_3 | exact hc_4 | exact zz_gs _ _ _ | exact (hc_x (by omega)).trans (by first | assumption | exact hc_0 | exact hc_1 | exact hc_2 | exact hc_3 | exact hc_4 | exact zz_gs _ _ _) | exact (zz_gn (by omega)).trans (by first | assumption | exact hc_0 | exact hc_1 | exact hc_2 | exact hc_3 | exact hc_4 | exact zz_gs _ _ _)) (by rfl) ?_
                  refine aw_icmp_ge cx 27 52 dX0_multipliesEitherWay_24 rfl (by decide) ⟨⟨by omega, by omega⟩, ⟨by omega, by omega⟩⟩ (fun c24 => ?_) (fun c24 => ?_)
                  · refine aw_iinc cx 55 dX0_multipliesEitherWay_52 rfl rfl (Nat.le_of_ble_eq_true rfl) rfl ?_
                    dsimp only [List.set]
                    refine aw_goto cx 12 dX0_multipliesEitherWay_55 (by decide) ?_
                    exact aw_weak (ih12 (j + 1) (by omega) ⟨by omega, by omega⟩ (fun b c b0 b1 c0 c1 => by
                      by_cases e : b = j
                      · rw [e]; exact hz c c0 (by omega)
                      · exact hy b c b0 (by omega) c0 c1)) (by simp [zz_le])
                  · refine aw_aload_n cx 28 dX0_multipliesEitherWay_27 rfl rfl ?_
                    refine aw_iload_n cx 29 dX0_multipliesEitherWay_28 rfl rfl ?_
                    refine aw_iload_n cx 30 dX0_multipliesEitherWay_29 rfl rfl ?_
                    refine aw_iload_n cx 31 dX0_multipliesEitherWay_30 rfl rfl ?_
                    refine aw_V3v cx 34 mX0_numberOf (ci := 0) dX0_multipliesEitherWay_31 rfl okmX0_numberOf lkX0_92 (by first | assumption | exact hc_0 | exact hc_1 | exact hc_2 | exact hc_3 | exact hc_4 | exact zz_gs _ _ _ | exact (hc_x (by omega)).trans (by first | assumption | exact hc_0 | exact hc_1 | exact hc_2 | exact hc_3 | exact hc_4 | exact zz_gs _ _ _) | exact (zz_gn (by omega)).trans (by first | assumption | exact hc_0 | exact hc_1 | exact hc_2 | exact hc_3 | exact hc_4 | exact zz_gs _ _ _)) ⟨rfl, by decide⟩ (zz_rc0 mX0_multipliesEitherWay hRm hNS rfl rfl) (Nat.le_of_ble_eq_true rfl) ?_
                    refine s_X0_numberOf (by first | assumption | exact hc_0 | exact hc_1 | exact hc_2 | exact hc_3 | exact hc_4 | exact (hc_x (by omega)).trans (by first | assumption | exact hc_0 | exact hc_1 | exact hc_2 | exact hc_3 | exact hc_4)) (by first | assumption | exact hc_0 | exact hc_1 | exact hc_2 | exact hc_3 | exact hc_4 | exact (hc_x (by omega)).trans (by first | assumption | exact hc_0 | exact hc_1 | exact hc_2 | exact hc_3 | exact hc_4)) ⟨by omega, by omega⟩ ⟨by omega, by omega⟩ ⟨by omega, by omega⟩ (fun v31 e31 => ⟨_, rfl, ?_⟩)
                    have q31 := hN i j k1 (by omega) (by omega) (by omega) (by omega) (by omega) (by omega)
                    have w31 := nu_b (n := n) (g := g) (by omega) i j k1
                    refine aw_aload_n cx 35 dX0_multipliesEitherWay_34 rfl rfl ?_
                    refine aw_iload_n cx 36 dX0_multipliesEitherWay_35 rfl rfl ?_
                    refine aw_iload_n cx 37 dX0_multipliesEitherWay_36 rfl rfl ?_
                    refine aw_iload_n cx 38 dX0_multipliesEitherWay_37 rfl rfl ?_
                    refine aw_V3v cx 41 mX0_numberOf (ci := 0) dX0_multipliesEitherWay_38 rfl okmX0_numberOf lkX0_92 (by first | assumption | exact hc_0 | exact hc_1 | exact hc_2 | exact hc_3 | exact hc_4 | exact zz_gs _ _ _ | exact (hc_x (by omega)).trans (by first | assumption | exact hc_0 | exact hc_1 | exact hc_2 | exact hc_3 | exact hc_4 | exact zz_gs _ _ _) | exact (zz_gn (by omega)).trans (by first | assumption | exact hc_0 | exact hc_1 | exact hc_2 | exact hc_3 | exact hc_4 | exact zz_gs _ _ _)) ⟨rfl, by decide⟩ (zz_rc0 mX0_multipliesEitherWay hRm hNS rfl rfl) (Nat.le_of_ble_eq_true rfl) ?_
                    refine s_X0_numberOf (by first | assumption | exact hc_0 | exact hc_1 | exact hc_2 | exact hc_3 | exact hc_4 | exact (hc_x (by omega)).trans (by first | assumption | exact hc_0 | exact hc_1 | exact hc_2 | exact hc_3 | exact hc_4)) (by first | assumption | exact hc_0 | exact hc_1 | exact hc_2 | exact hc_3 | exact hc_4 | exact (hc_x (by omega)).trans (by first | assumption | exact hc_0 | exact hc_1 | exact hc_2 | exact hc_3 | exact hc_4)) ⟨by omega, by omega⟩ ⟨by omega, by omega⟩ ⟨by omega, by omega⟩ (fun v38 e38 => ⟨_, rfl, ?_⟩)
                    have q38 := hN j i k1 (by omega) (by omega) (by omega) (by omega) (by omega) (by omega)
                    have w38 := nu_b (n := n) (g := g) (by omega) j i k1
                    refine aw_icmp_eq cx 44 46 dX0_multipliesEitherWay_41 rfl (by decide) ⟨⟨by omega, by omega⟩, ⟨by omega, by omega⟩⟩ (fun c41 => ?_) (fun c41 => ?_)
                    · refine aw_iinc cx 49 dX0_multipliesEitherWay_46 rfl rfl (Nat.le_of_ble_eq_true rfl) rfl ?_
                      dsimp only [List.set]
                      refine aw_goto cx 19 dX0_multipliesEitherWay_49 (by decide) ?_
                      exact ih19 (k1 + 1) (by omega) ⟨by omega, by omega⟩ (fun c c0 c1 => by
                        by_cases e : c = k1
                        · rw [e]; omega
                        · exact hz c c0 (by omega))
                    · refine aw_iconst cx 45 dX0_multipliesEitherWay_44 rfl ?_
                      refine aw_ireturn cx dX0_multipliesEitherWay_45 ?_
                      refine hRet _ _ (by first | exact Or.inl rfl | exact Or.inr rfl | assumption) rfl ?_
                      exact k _ (tu_0 (i := i) (j := j) (k := k1) hR.2 ⟨by omega, by omega⟩ ⟨by omega, by omega⟩ ⟨by omega, by omega⟩ (by omega)).symm (Or.inl rfl)
              exact aw_weak (lp19 6 0 (by omega) ⟨by omega, by omega⟩ (fun c c0 c1 => by omega)) (by simp [zz_le])
        exact aw_weak (lp12 6 0 (by omega) ⟨by omega, by omega⟩ (fun b c b0 b1 c0 c1 => by omega)) (by simp [zz_le])
  exact aw_weak (lp2 6 0 (by omega) ⟨by omega, by omega⟩ (fun a b c a1 b0 b1 c0 c1 => by omega)) (by simp [zz_le])
end
section
/-! the sieve, as numbers -/
theorem mb {x y : Int} (A B : Int) (hx : -A ≤ x ∧ x ≤ A) (hy : -B ≤ y ∧ y ≤ B) : -(A * B) ≤ x * y ∧ x * y ≤ A * B := by
  have h1 : x.natAbs ≤ A.toNat := by omega
  have h2 : y.natAbs ≤ B.toNat := by omega
  have h3 := Nat.mul_le_mul h1 h2
  rw [← Int.natAbs_mul] at h3
  have h4 : ((A.toNat * B.toNat : Nat) : Int) = A * B := by
    rw [Int.natCast_mul, Int.toNat_of_nonneg (by omega), Int.toNat_of_nonneg (by omega)]
  have h5 : (((x * y).natAbs : Nat) : Int) ≤ ((A.toNat * B.toNat : Nat) : Int) := by omega
  rw [h4] at h5
  omega
theorem sq_nn (x : Int) : 0 ≤ x * x := by
  rw [← Int.natAbs_mul_self]
  omega
theorem sq_le {a b : Int} (h0 : 0 ≤ a) (h : a ≤ b) : a * a ≤ b * b := Int.mul_le_mul h h h0 (by omega)
theorem sq_lt {a b : Int} (h0 : 0 ≤ a) (h : a < b) : a * a < b * b := by
  have h1 := sq_le h0 (show a ≤ b - 1 by omega)
  have h2 : (b - 1) * (b - 1) = b * b - 2 * b + 1 := by
    rw [Int.sub_mul, Int.mul_sub]
    omega
  omega
theorem tdiv_b {x y : Int} (B : Int) (hx : -B ≤ x ∧ x ≤ B) (hy : 0 < y) : -B ≤ x.tdiv y ∧ x.tdiv y ≤ B := by
  by_cases h : 0 ≤ x
  · rw [Int.tdiv_eq_ediv_of_nonneg h]
    have h1 := Int.ediv_nonneg h (Int.le_of_lt hy)
    have h2 := Int.ediv_le_self y h
    omega
  · have e : x = -(-x) := by omega
    rw [e, Int.neg_tdiv, Int.tdiv_eq_ediv_of_nonneg (by omega)]
    have h1 := Int.ediv_nonneg (show 0 ≤ -x by omega) (Int.le_of_lt hy)
    have h2 := Int.ediv_le_self y (show 0 ≤ -x by omega)
    omega
theorem tmod_b {x y : Int} (B : Int) (hx : -B ≤ x ∧ x ≤ B) (hy : 0 < y ∧ y ≤ 1000) : -1000 ≤ x.tmod y ∧ x.tmod y ≤ 1000 := by
  by_cases h : 0 ≤ x
  · rw [Int.tmod_eq_emod_of_nonneg h]
    have h1 := Int.emod_nonneg x (show y ≠ 0 by omega)
    have h2 := Int.emod_lt_of_pos x hy.1
    omega
  · have e : x = -(-x) := by omega
    rw [e, Int.neg_tmod, Int.tmod_eq_emod_of_nonneg (by omega)]
    have h1 := Int.emod_nonneg (-x) (show y ≠ 0 by omega)
    have h2 := Int.emod_lt_of_pos (-x) hy.1
    omega
/-- the least root not below -/
def rt (d : Int) : Int := zi (fun _ r => if r * r < d then r + 1 else r) 0 201
theorem rt_p {d : Int} (hd : 0 ≤ d ∧ d ≤ 40000) : (0 ≤ rt d ∧ rt d ≤ 200) ∧ d ≤ rt d * rt d ∧ ∀ s, 0 ≤ s → s < rt d → s * s < d := by
  have := zi_inv (f := fun _ r => if r * r < d then r + 1 else r) (s := 0) (P := fun i r => (0 ≤ r ∧ r ≤ 200 ∧ r ≤ i) ∧ (r = i ∨ d ≤ r * r) ∧ ∀ s, 0 ≤ s → s < r → s * s < d) (n := 201) (by decide) ⟨⟨by decide, by decide, by decide⟩, Or.inl rfl, fun s a b => by omega⟩ (fun i r i0 i1 ⟨h1, h2, h3⟩ => by
    by_cases e : r * r < d
    · rw [if_pos e]
      have hr : r < 200 := by
        rcases Int.lt_or_le r 200 with q | q
        · exact q
        · have := sq_le (a := 200) (by decide) q
          omega
      refine ⟨⟨by omega, by omega, by omega⟩, ?_, fun s s0 s1 => ?_⟩
      · rcases h2 with h2 | h2
        · exact Or.inl (by omega)
        · omega
      · by_cases e2 : s = r
        · rw [e2]; exact e
        · exact h3 s s0 (by omega)
    · rw [if_neg e]
      exact ⟨⟨h1.1, h1.2.1, by omega⟩, Or.inr (by omega), h3⟩)
  obtain ⟨h1, h2, h3⟩ := this
  refine ⟨⟨h1.1, h1.2.1⟩, ?_, h3⟩
  rcases h2 with h2 | h2
  · have : rt d = 201 := h2
    have h9 : rt d ≤ 200 := h1.2.1
    omega
  · exact h2
theorem rt_u {d q : Int} (hd : 0 ≤ d ∧ d ≤ 40000) (hq : 0 ≤ q) (h1 : d ≤ q * q) (h2 : ∀ s, 0 ≤ s → s < q → s * s < d) : q = rt d := by
  obtain ⟨g1, g2, g3⟩ := rt_p hd
  rcases Int.lt_trichotomy q (rt d) with h | h | h
  · have := g3 q hq h
    omega
  · exact h
  · have := h2 (rt d) g1.1 h
    omega
theorem rt_e {d q : Int} (hd : 0 ≤ d ∧ d ≤ 40000) (hq : 0 ≤ q) (h1 : q * q = d) : q = rt d := rt_u hd hq (by omega) (fun s s0 s1 => by have := sq_lt s0 s1; omega)
abbrev bb (k r s : Int) : Prop := (k + r) * (s + 1) * (s + 1) < (r + 1) * (k + r + 2 * r * s)
abbrev sD (k l m : Int) : Int := (l - m) * (l - m) + 4 * (k - m)
abbrev sC (n k l m : Int) : Int := 2 * k + (n - 1) * (l - m)
def sv3 (n k m f g : Int) : Int := if (0 < m ∧ m < k) ∧ (f * (f + 3) < 2 * n ∨ g * (g + 3) < 2 * n) then 4 else 0
def sv2 (n k m c r s q : Int) : Int := if bb k r s ∨ bb k s r then 3 else sv3 n k m ((n - 1 - c.tdiv q).tdiv 2) ((n - 1 + c.tdiv q).tdiv 2)
/-- by which condition a table fails -/
def sv (n k l m : Int) : Int := if k * (k - l - 1) ≠ (n - k - 1) * m then 1 else if sD k l m = 0 then 2 else if sC n k l m = 0 then (if n % 2 = 0 then 2 else 0) else
  if rt (sD k l m) * rt (sD k l m) ≠ sD k l m ∨ (sC n k l m).tmod (rt (sD k l m)) ≠ 0 ∨ (n - 1 + (sC n k l m).tdiv (rt (sD k l m))).tmod 2 ≠ 0 then 2 else
    sv2 n k m (sC n k l m) ((l - m + rt (sD k l m)).tdiv 2) ((l - m - rt (sD k l m)).tdiv 2) (rt (sD k l m))
abbrev svI (n k l m : Int) : Prop := (2 ≤ n ∧ n ≤ 200) ∧ (1 ≤ k ∧ k ≤ n - 2) ∧ (0 ≤ l ∧ l ≤ k - 1) ∧ (0 ≤ m ∧ m ≤ k)
theorem sv_b {n k l m : Int} (h : svI n k l m) : (0 ≤ (l - m) * (l - m) ∧ (l - m) * (l - m) ≤ 39204) ∧ (-39402 ≤ (n - 1) * (l - m) ∧ (n - 1) * (l - m) ≤ 39402) ∧ (-40000 ≤ k * (k - l - 1) ∧ k * (k - l - 1) ≤ 40000) ∧ (-40000 ≤ (n - k - 1) * m ∧ (n - k - 1) * m ≤ 40000) := by
  have h1 := mb (x := l - m) (y := l - m) 198 198 (by omega) (by omega)
  have h2 := sq_nn (l - m)
  have h3 := mb (x := n - 1) (y := l - m) 199 198 (by omega) (by omega)
  have h4 := mb (x := k) (y := k - l - 1) 200 200 (by omega) (by omega)
  have h5 := mb (x := n - k - 1) (y := m) 200 200 (by omega) (by omega)
  refine ⟨⟨h2, by omega⟩, ⟨by omega, by omega⟩, ⟨by omega, by omega⟩, ⟨by omega, by omega⟩⟩
theorem bb_r {k r s : Int} (hk : 0 ≤ k ∧ k ≤ 200) (hr : -400 ≤ r ∧ r ≤ 400) (hs : -400 ≤ s ∧ s ≤ 400) : (-200000000 ≤ (k + r) * (s + 1) * (s + 1) ∧ (k + r) * (s + 1) * (s + 1) ≤ 200000000) ∧ (-200000000 ≤ (r + 1) * (k + r + 2 * r * s) ∧ (r + 1) * (k + r + 2 * r * s) ≤ 200000000) := by
  have h1 := mb (x := k + r) (y := s + 1) 600 401 (by omega) (by omega)
  have h2 := mb (x := (k + r) * (s + 1)) (y := s + 1) 240600 401 (by omega) (by omega)
  have h3 := mb (x := 2 * r) (y := s) 800 400 (by omega) (by omega)
  have h4 := mb (x := r + 1) (y := k + r + 2 * r * s) 401 320600 (by omega) (by omega)
  omega
theorem bb_c (r s : Int) : 2 * s * r = 2 * r * s := by rw [Int.mul_assoc, Int.mul_comm s r, ← Int.mul_assoc]
theorem ff_r {f : Int} (h : -40000 ≤ f ∧ f ≤ 40000) : -1601000000 ≤ f * (f + 3) ∧ f * (f + 3) ≤ 1601000000 := by
  have := mb (x := f) (y := f + 3) 40000 40003 (by omega) (by omega)
  omega
/-- how many pass -/
def mnm (n k l m : Int) (s : Int) : Int := zi (fun m s => if sv n k l m = 0 then s + 1 else s) s m
def mnl (n k l s : Int) : Int := zi (fun l s => mnm n k l (k + 1) s) s l
def mnk (n k s : Int) : Int := zi (fun i s => mnl n (i + 1) (i + 1) s) s k
def mn (n : Int) : Int := mnk n ((n - 1) / 2) 0
theorem mnm_s {n k l m s : Int} (h : 0 ≤ m) : mnm n k l (m + 1) s = if sv n k l m = 0 then mnm n k l m s + 1 else mnm n k l m s := zi_s _ _ h
theorem mnl_s {n k l s : Int} (h : 0 ≤ l) : mnl n k (l + 1) s = mnm n k l (k + 1) (mnl n k l s) := zi_s _ _ h
theorem mnk_s {n k s : Int} (h : 0 ≤ k) : mnk n (k + 1) s = mnl n (k + 1) (k + 1) (mnk n k s) := zi_s _ _ h
theorem sv_r (n k l m : Int) : 0 ≤ sv n k l m ∧ sv n k l m ≤ 4 := by
  unfold sv sv2 sv3
  repeat' split
  all_goals omega
end
section
theorem zz_cmp_r (x y : Int) : R32 (zz_cmp x y) := by
  unfold zz_cmp
  split
  · decide
  · split <;> decide
theorem zz_cmp_gt {x y : Int} : 0 < zz_cmp x y ↔ y < x := by
  unfold zz_cmp
  split
  · constructor <;> intro _ <;> omega
  · split <;> constructor <;> intro _ <;> omega
theorem zz_cmp_le {x y : Int} : zz_cmp x y ≤ 0 ↔ x ≤ y := by
  unfold zz_cmp
  split
  · constructor <;> intro _ <;> omega
  · split <;> constructor <;> intro _ <;> omega
theorem zz_cmp_eq {x y : Int} : zz_cmp x y = 0 ↔ x = y := by
  unfold zz_cmp
  split
  · constructor <;> intro _ <;> omega
  · split <;> constructor <;> intro _ <;> omega
set_option maxRecDepth 100000 in
set_option maxHeartbeats 4000000 in
theorem s_X2_wholeRoot {h : AH} {Q : Option AV → AH → Prop} {d : Int} (hd : 0 ≤ d ∧ d ≤ 40000) (k : ∀ v, ((0 ≤ v ∧ v = rt d ∧ v * v = d) ∨ (v = -1 ∧ rt d * rt d ≠ d)) → Q (some (vI v)) h) : MC mX2_wholeRoot [vI d] h Q := by
  refine mc_start mX2_wholeRoot RX2 "wholeRoot" ⟨rfl, rfl, by decide +kernel⟩ [some (vI d), none] ⟨1, rfl⟩ rfl (fun X cx hRm hNS hRet => ?_)
  refine aw_iconst cx 1 dX2_wholeRoot_0 rfl ?_
  refine aw_istore_n cx 2 1 dX2_wholeRoot_1 rfl rfl ⟨Nat.le_of_ble_eq_true rfl, Nat.le_of_ble_eq_true rfl⟩ rfl ?_
  dsimp only [List.set]
  have lp2 : ∀ (kf : Nat) (q : Int), (201 - q < (kf : Int)) → (0 ≤ q ∧ q ≤ 201) → (∀ s, 0 ≤ s → s < q → s * s ≠ d) → AW X 2 [some (vI d), some (vI q)] [] (h) := by
    intro kf
    induction kf with
    | zero =>
      intro q hk hq hs
      exfalso
      omega
    | succ kf ih2 =>
      intro q hk hq hs
      have hq2 := mb (x := q) (y := q) 201 201 (by omega) (by omega)
      refine aw_iload_n cx 3 dX2_wholeRoot_2 rfl rfl ?_
      refine aw_sipush cx 6 dX2_wholeRoot_3 rfl (by decide +kernel) ?_
      refine aw_icmp_gt cx 9 24 dX2_wholeRoot_6 rfl (by decide) ⟨⟨by omega, by omega⟩, ⟨by omega, by omega⟩⟩ (fun c6 => ?_) (fun c6 => ?_)
      · refine aw_iconst cx 25 dX2_wholeRoot_24 rfl ?_
        refine aw_ireturn cx dX2_wholeRoot_25 ?_
        refine hRet _ _ True.intro rfl ?_
        exact k _ (Or.inr ⟨rfl, hs _ (rt_p hd).1.1 (by have := (rt_p hd).1; omega)⟩)
      · refine aw_iload_n cx 10 dX2_wholeRoot_9 rfl rfl ?_
        refine aw_iload_n cx 11 dX2_wholeRoot_10 rfl rfl ?_
        refine aw_imul cx 12 dX2_wholeRoot_11 rfl ?_
        refine aw_iload_n cx 13 dX2_wholeRoot_12 rfl rfl ?_
        refine aw_icmp_ne cx 16 18 dX2_wholeRoot_13 rfl (by decide) ⟨⟨by omega, by omega⟩, ⟨by omega, by omega⟩⟩ (fun c13 => ?_) (fun c13 => ?_)
        · refine aw_iinc cx 21 dX2_wholeRoot_18 rfl rfl (Nat.le_of_ble_eq_true rfl) rfl ?_
          dsimp only [List.set]
          refine aw_goto cx 2 dX2_wholeRoot_21 (by decide) ?_
          exact ih2 (q + 1) (by omega) ⟨by omega, by omega⟩ (fun s s0 s1 => by
            by_cases e : s = q
            · rw [e]; exact c13
            · exact hs s s0 (by omega))
        · refine aw_iload_n cx 17 dX2_wholeRoot_16 rfl rfl ?_
          refine aw_ireturn cx dX2_wholeRoot_17 ?_
          refine hRet _ _ True.intro rfl ?_
          exact k _ (Or.inl ⟨hq.1, rt_e hd hq.1 c13, c13⟩)
  exact lp2 202 0 (by omega) ⟨by omega, by omega⟩ (fun s s0 s1 => by omega)
set_option maxRecDepth 100000 in
set_option maxHeartbeats 4000000 in
theorem s_X2_breaksBound {h : AH} {Q : Option AV → AH → Prop} {k0 r s : Int} (hk : 0 ≤ k0 ∧ k0 ≤ 200) (hr : -400 ≤ r ∧ r ≤ 400) (hs : -400 ≤ s ∧ s ≤ 400) (k : ∀ b, ((b = 1 ∧ bb k0 r s) ∨ (b = 0 ∧ ¬ bb k0 r s)) → Q (some (vI b)) h) : MC mX2_breaksBound [vI k0, vI r, vI s] h Q := by
  refine mc_start mX2_breaksBound RX2 "breaksBound" ⟨rfl, rfl, by decide +kernel⟩ [some (vI k0), some (vI r), some (vI s)] ⟨0, rfl⟩ rfl (fun X cx hRm hNS hRet => ?_)
  have hb := bb_r hk hr hs
  refine aw_iload_n cx 1 dX2_breaksBound_0 rfl rfl ?_
  refine aw_iconst cx 2 dX2_breaksBound_1 rfl ?_
  refine aw_iadd cx 3 dX2_breaksBound_2 rfl ?_
  refine aw_iload_n cx 4 dX2_breaksBound_3 rfl rfl ?_
  refine aw_iload_n cx 5 dX2_breaksBound_4 rfl rfl ?_
  refine aw_iadd cx 6 dX2_breaksBound_5 rfl ?_
  refine aw_iconst cx 7 dX2_breaksBound_6 rfl ?_
  refine aw_iload_n cx 8 dX2_breaksBound_7 rfl rfl ?_
  refine aw_imul cx 9 dX2_breaksBound_8 rfl ?_
  refine aw_iload_n cx 10 dX2_breaksBound_9 rfl rfl ?_
  refine aw_imul cx 11 dX2_breaksBound_10 rfl ?_
  refine aw_iadd cx 12 dX2_breaksBound_11 rfl ?_
  refine aw_imul cx 13 dX2_breaksBound_12 rfl ?_
  refine aw_iload_n cx 14 dX2_breaksBound_13 rfl rfl ?_
  refine aw_iload_n cx 15 dX2_breaksBound_14 rfl rfl ?_
  refine aw_iadd cx 16 dX2_breaksBound_15 rfl ?_
  refine aw_iload_n cx 17 dX2_breaksBound_16 rfl rfl ?_
  refine aw_iconst cx 18 dX2_breaksBound_17 rfl ?_
  refine aw_iadd cx 19 dX2_breaksBound_18 rfl ?_
  refine aw_imul cx 20 dX2_breaksBound_19 rfl ?_
  refine aw_iload_n cx 21 dX2_breaksBound_20 rfl rfl ?_
  refine aw_iconst cx 22 dX2_breaksBound_21 rfl ?_
  refine aw_iadd cx 23 dX2_breaksBound_22 rfl ?_
  refine aw_imul cx 24 dX2_breaksBound_23 rfl ?_
  refine aw_icmp_le cx 27 31 dX2_breaksBound_24 rfl (by decide) ⟨⟨by omega, by omega⟩, ⟨by omega, by omega⟩⟩ (fun c24 => ?_) (fun c24 => ?_)
  · refine aw_iconst cx 32 dX2_breaksBound_31 rfl ?_
    refine aw_ireturn cx dX2_breaksBound_32 ?_
    refine hRet _ _ (by first | exact Or.inl rfl | exact Or.inr rfl | assumption) rfl ?_
    first | exact k _ (Or.inl ⟨rfl, by show _ < _; omega⟩) | exact k _ (Or.inr ⟨rfl, by show ¬ _ < _; omega⟩)
  · refine aw_iconst cx 28 dX2_breaksBound_27 rfl ?_
    refine aw_goto cx 32 dX2_breaksBound_28 (by decide) ?_
    refine aw_ireturn cx dX2_breaksBound_32 ?_
    refine hRet _ _ (by first | exact Or.inl rfl | exact Or.inr rfl | assumption) rfl ?_
    first | exact k _ (Or.inl ⟨rfl, by show _ < _; omega⟩) | exact k _ (Or.inr ⟨rfl, by show ¬ _ < _; omega⟩)
set_option maxRecDepth 100000 in
set_option maxHeartbeats 4000000 in
theorem s_X2_firstFailure {h : AH} {Q : Option AV → AH → Prop} {n k0 l m : Int} (hI : svI n k0 l m) (k : ∀ v, v = sv n k0 l m → Q (some (vI v)) h) : MC mX2_firstFailure [vI n, vI k0, vI l, vI m] h Q := by
  refine mc_start mX2_firstFailure RX2 "firstFailure" ⟨rfl, rfl, by decide +kernel⟩ [some (vI n), some (vI k0), some (vI l), some (vI m), none, none, none, none, none, none, none, none] ⟨8, rfl⟩ rfl (fun X cx hRm hNS hRet => ?_)
  obtain ⟨hb1, hb2, hb3, hb4⟩ := sv_b hI
  refine aw_iload_n cx 1 dX2_firstFailure_0 rfl rfl ?_
  refine aw_iload_n cx 2 dX2_firstFailure_1 rfl rfl ?_
  refine aw_iload_n cx 3 dX2_firstFailure_2 rfl rfl ?_
  refine aw_isub cx 4 dX2_firstFailure_3 rfl ?_
  refine aw_iconst cx 5 dX2_firstFailure_4 rfl ?_
  refine aw_isub cx 6 dX2_firstFailure_5 rfl ?_
  refine aw_imul cx 7 dX2_firstFailure_6 rfl ?_
  refine aw_iload_n cx 8 dX2_firstFailure_7 rfl rfl ?_
  refine aw_iload_n cx 9 dX2_firstFailure_8 rfl rfl ?_
  refine aw_isub cx 10 dX2_firstFailure_9 rfl ?_
  refine aw_iconst cx 11 dX2_firstFailure_10 rfl ?_
  refine aw_isub cx 12 dX2_firstFailure_11 rfl ?_
  refine aw_iload_n cx 13 dX2_firstFailure_12 rfl rfl ?_
  refine aw_imul cx 14 dX2_firstFailure_13 rfl ?_
  refine aw_icmp_eq cx 17 19 dX2_firstFailure_14 rfl (by decide) ⟨⟨by omega, by omega⟩, ⟨by omega, by omega⟩⟩ (fun c14 => ?_) (fun c14 => ?_)
  · refine aw_iload_n cx 20 dX2_firstFailure_19 rfl rfl ?_
    refine aw_iload_n cx 21 dX2_firstFailure_20 rfl rfl ?_
    refine aw_isub cx 22 dX2_firstFailure_21 rfl ?_
    refine aw_iload_n cx 23 dX2_firstFailure_22 rfl rfl ?_
    refine aw_iload_n cx 24 dX2_firstFailure_23 rfl rfl ?_
    refine aw_isub cx 25 dX2_firstFailure_24 rfl ?_
    refine aw_imul cx 26 dX2_firstFailure_25 rfl ?_
    refine aw_iconst cx 27 dX2_firstFailure_26 rfl ?_
    refine aw_iload_n cx 28 dX2_firstFailure_27 rfl rfl ?_
    refine aw_iload_n cx 29 dX2_firstFailure_28 rfl rfl ?_
    refine aw_isub cx 30 dX2_firstFailure_29 rfl ?_
    refine aw_imul cx 31 dX2_firstFailure_30 rfl ?_
    refine aw_iadd cx 32 dX2_firstFailure_31 rfl ?_
    refine aw_istore cx 34 dX2_firstFailure_32 rfl ⟨Nat.le_of_ble_eq_true rfl, Nat.le_of_ble_eq_true rfl⟩ rfl ?_
    dsimp only [List.set]
    refine aw_iconst cx 35 dX2_firstFailure_34 rfl ?_
    refine aw_iload_n cx 36 dX2_firstFailure_35 rfl rfl ?_
    refine aw_imul cx 37 dX2_firstFailure_36 rfl ?_
    refine aw_iload_n cx 38 dX2_firstFailure_37 rfl rfl ?_
    refine aw_iconst cx 39 dX2_firstFailure_38 rfl ?_
    refine aw_isub cx 40 dX2_firstFailure_39 rfl ?_
    refine aw_iload_n cx 41 dX2_firstFailure_40 rfl rfl ?_
    refine aw_iload_n cx 42 dX2_firstFailure_41 rfl rfl ?_
    refine aw_isub cx 43 dX2_firstFailure_42 rfl ?_
    refine aw_imul cx 44 dX2_firstFailure_43 rfl ?_
    refine aw_iadd cx 45 dX2_firstFailure_44 rfl ?_
    refine aw_istore cx 47 dX2_firstFailure_45 rfl ⟨Nat.le_of_ble_eq_true rfl, Nat.le_of_ble_eq_true rfl⟩ rfl ?_
    dsimp only [List.set]
    refine aw_iload cx 49 dX2_firstFailure_47 rfl rfl ?_
    refine aw_if_gt cx 52 54 dX2_firstFailure_49 rfl (by decide) ⟨by omega, by omega⟩ (fun c49 => ?_) (fun c49 => ?_)
    · refine aw_iload cx 56 dX2_firstFailure_54 rfl rfl ?_
      refine aw_if_ne cx 59 71 dX2_firstFailure_56 rfl (by decide) ⟨by omega, by omega⟩ (fun c56 => ?_) (fun c56 => ?_)
      · refine aw_iload cx 73 dX2_firstFailure_71 rfl rfl ?_
        refine aw_S1v cx 76 mX2_wholeRoot dX2_firstFailure_73 rfl okmX2_wholeRoot lkX2_9 (zz_rc0 mX2_firstFailure hRm hNS rfl rfl) (Nat.le_of_ble_eq_true rfl) ?_
        refine s_X2_wholeRoot ⟨by omega, by omega⟩ (fun v73 e73 => ⟨_, rfl, ?_⟩)
        obtain ⟨tq1, tq2, -⟩ := rt_p (d := (l - m) * (l - m) + 4 * (k0 - m)) ⟨by omega, by omega⟩
        have q0 : 0 < v73 ∨ v73 = -1 := by
          rcases e73 with ⟨a, b, d⟩ | ⟨a, b⟩
          · left
            rcases Int.lt_or_le 0 v73 with q | q
            · exact q
            · rw [show v73 = 0 by omega] at d
              omega
          · exact Or.inr a
        refine aw_istore cx 78 dX2_firstFailure_76 rfl ⟨Nat.le_of_ble_eq_true rfl, Nat.le_of_ble_eq_true rfl⟩ rfl ?_
        dsimp only [List.set]
        refine aw_iload cx 80 dX2_firstFailure_78 rfl rfl ?_
        refine aw_if_le cx 83 105 dX2_firstFailure_80 rfl (by decide) ⟨by omega, by omega⟩ (fun c80 => ?_) (fun c80 => ?_)
        · refine aw_iconst cx 106 dX2_firstFailure_105 rfl ?_
          refine aw_ireturn cx dX2_firstFailure_106 ?_
          refine hRet _ _ True.intro rfl ?_
          first
          | exact k _ (by unfold sv; rw [if_neg (fun q => q c14), if_neg (by show ¬ ((l - m) * (l - m) + 4 * (k0 - m) = 0); omega), if_neg (by show ¬ (2 * k0 + (n - 1) * (l - m) = 0); omega), if_pos (Or.inr (Or.inl (by show (2 * k0 + (n - 1) * (l - m)).tmod (rt ((l - m) * (l - m) + 4 * (k0 - m))) ≠ 0; rw [← q1.1]; exact c88)))])
          | exact k _ (by unfold sv; rw [if_neg (fun q => q c14), if_neg (by show ¬ ((l - m) * (l - m) + 4 * (k0 - m) = 0); omega), if_neg (by show ¬ (2 * k0 + (n - 1) * (l - m) = 0); omega), if_pos (Or.inr (Or.inr (by show (n - 1 + (2 * k0 + (n - 1) * (l - m)).tdiv (rt ((l - m) * (l - m) + 4 * (k0 - m)))).tmod 2 ≠ 0; rw [← q1.1]; exact c102)))])
          | exact k _ (by unfold sv; rw [if_neg (fun q => q c14), if_neg (by show ¬ ((l - m) * (l - m) + 4 * (k0 - m) = 0); omega), if_neg (by show ¬ (2 * k0 + (n - 1) * (l - m) = 0); omega), if_pos (Or.inl (by
              rcases e73 with ⟨a, b, d⟩ | ⟨a, b⟩
              · omega
              · exact b))])
        · have q1 : v73 = rt ((l - m) * (l - m) + 4 * (k0 - m)) ∧ v73 * v73 = (l - m) * (l - m) + 4 * (k0 - m) := by
            rcases e73 with ⟨a, b, d⟩ | ⟨a, b⟩
            · exact ⟨b, d⟩
            · omega
          have b0 := tdiv_b (x := 2 * k0 + (n - 1) * (l - m)) (y := v73) 39798 ⟨by omega, by omega⟩ (by omega)
          have m0 := tmod_b (x := 2 * k0 + (n - 1) * (l - m)) (y := v73) 39798 ⟨by omega, by omega⟩ ⟨by omega, by omega⟩
          have m1 := tmod_b (x := n - 1 + (2 * k0 + (n - 1) * (l - m)).tdiv v73) (y := 2) 40000 ⟨by omega, by omega⟩ ⟨by decide, by decide⟩
          refine aw_iload cx 85 dX2_firstFailure_83 rfl rfl ?_
          refine aw_iload cx 87 dX2_firstFailure_85 rfl rfl ?_
          refine aw_irem cx 88 dX2_firstFailure_87 rfl ⟨⟨by omega, by omega⟩, ⟨by omega, by omega⟩, by omega⟩ ?_
          refine aw_if_ne cx 91 105 dX2_firstFailure_88 rfl (by decide) ⟨by omega, by omega⟩ (fun c88 => ?_) (fun c88 => ?_)
          · refine aw_iconst cx 106 dX2_firstFailure_105 rfl ?_
            refine aw_ireturn cx dX2_firstFailure_106 ?_
            refine hRet _ _ True.intro rfl ?_
            first
            | exact k _ (by unfold sv; rw [if_neg (fun q => q c14), if_neg (by show ¬ ((l - m) * (l - m) + 4 * (k0 - m) = 0); omega), if_neg (by show ¬ (2 * k0 + (n - 1) * (l - m) = 0); omega), if_pos (Or.inr (Or.inl (by show (2 * k0 + (n - 1) * (l - m)).tmod (rt ((l - m) * (l - m) + 4 * (k0 - m))) ≠ 0; rw [← q1.1]; exact c88)))])
            | exact k _ (by unfold sv; rw [if_neg (fun q => q c14), if_neg (by show ¬ ((l - m) * (l - m) + 4 * (k0 - m) = 0); omega), if_neg (by show ¬ (2 * k0 + (n - 1) * (l - m) = 0); omega), if_pos (Or.inr (Or.inr (by show (n - 1 + (2 * k0 + (n - 1) * (l - m)).tdiv (rt ((l - m) * (l - m) + 4 * (k0 - m)))).tmod 2 ≠ 0; rw [← q1.1]; exact c102)))])
            | exact k _ (by unfold sv; rw [if_neg (fun q => q c14), if_neg (by show ¬ ((l - m) * (l - m) + 4 * (k0 - m) = 0); omega), if_neg (by show ¬ (2 * k0 + (n - 1) * (l - m) = 0); omega), if_pos (Or.inl (by
                rcases e73 with ⟨a, b, d⟩ | ⟨a, b⟩
                · omega
                · exact b))])
          · refine aw_iload_n cx 92 dX2_firstFailure_91 rfl rfl ?_
            refine aw_iconst cx 93 dX2_firstFailure_92 rfl ?_
            refine aw_isub cx 94 dX2_firstFailure_93 rfl ?_
            refine aw_iload cx 96 dX2_firstFailure_94 rfl rfl ?_
            refine aw_iload cx 98 dX2_firstFailure_96 rfl rfl ?_
            refine aw_idiv cx 99 dX2_firstFailure_98 rfl ⟨⟨by omega, by omega⟩, ⟨by omega, by omega⟩, by omega⟩ ?_
            refine aw_iadd cx 100 dX2_firstFailure_99 rfl ?_
            refine aw_iconst cx 101 dX2_firstFailure_100 rfl ?_
            refine aw_irem cx 102 dX2_firstFailure_101 rfl ⟨⟨by omega, by omega⟩, ⟨by omega, by omega⟩, by omega⟩ ?_
            refine aw_if_eq cx 105 107 dX2_firstFailure_102 rfl (by decide) ⟨by omega, by omega⟩ (fun c102 => ?_) (fun c102 => ?_)
            · have b1 := tdiv_b (x := l - m + v73) (y := 2) 400 ⟨by omega, by omega⟩ (by decide)
              have b2 := tdiv_b (x := l - m - v73) (y := 2) 400 ⟨by omega, by omega⟩ (by decide)
              have b3 := tdiv_b (x := n - 1 - (2 * k0 + (n - 1) * (l - m)).tdiv v73) (y := 2) 40000 ⟨by omega, by omega⟩ (by decide)
              have b4 := tdiv_b (x := n - 1 + (2 * k0 + (n - 1) * (l - m)).tdiv v73) (y := 2) 40000 ⟨by omega, by omega⟩ (by decide)
              have b5 := ff_r b3
              have b6 := ff_r b4
              have G : sv n k0 l m = sv2 n k0 m (2 * k0 + (n - 1) * (l - m)) ((l - m + v73).tdiv 2) ((l - m - v73).tdiv 2) v73 := by
                unfold sv
                rw [if_neg (fun q => q c14), if_neg (by show ¬ ((l - m) * (l - m) + 4 * (k0 - m) = 0); omega), if_neg (by show ¬ (2 * k0 + (n - 1) * (l - m) = 0); omega), if_neg (by
                  rintro (a | a | a)
                  · rw [← q1.1] at a
                    exact a q1.2
                  · rw [← q1.1] at a
                    exact a c88
                  · rw [← q1.1] at a
                    exact a c102), ← q1.1]
              refine aw_iload_n cx 108 dX2_firstFailure_107 rfl rfl ?_
              refine aw_iload_n cx 109 dX2_firstFailure_108 rfl rfl ?_
              refine aw_isub cx 110 dX2_firstFailure_109 rfl ?_
              refine aw_iload cx 112 dX2_firstFailure_110 rfl rfl ?_
              refine aw_iadd cx 113 dX2_firstFailure_112 rfl ?_
              refine aw_iconst cx 114 dX2_firstFailure_113 rfl ?_
              refine aw_idiv cx 115 dX2_firstFailure_114 rfl ⟨⟨by omega, by omega⟩, ⟨by omega, by omega⟩, by omega⟩ ?_
              refine aw_istore cx 117 dX2_firstFailure_115 rfl ⟨Nat.le_of_ble_eq_true rfl, Nat.le_of_ble_eq_true rfl⟩ rfl ?_
              dsimp only [List.set]
              refine aw_iload_n cx 118 dX2_firstFailure_117 rfl rfl ?_
              refine aw_iload_n cx 119 dX2_firstFailure_118 rfl rfl ?_
              refine aw_isub cx 120 dX2_firstFailure_119 rfl ?_
              refine aw_iload cx 122 dX2_firstFailure_120 rfl rfl ?_
              refine aw_isub cx 123 dX2_firstFailure_122 rfl ?_
              refine aw_iconst cx 124 dX2_firstFailure_123 rfl ?_
              refine aw_idiv cx 125 dX2_firstFailure_124 rfl ⟨⟨by omega, by omega⟩, ⟨by omega, by omega⟩, by omega⟩ ?_
              refine aw_istore cx 127 dX2_firstFailure_125 rfl ⟨Nat.le_of_ble_eq_true rfl, Nat.le_of_ble_eq_true rfl⟩ rfl ?_
              dsimp only [List.set]
              refine aw_iload_n cx 128 dX2_firstFailure_127 rfl rfl ?_
              refine aw_iload cx 130 dX2_firstFailure_128 rfl rfl ?_
              refine aw_iload cx 132 dX2_firstFailure_130 rfl rfl ?_
              refine aw_S3v cx 135 mX2_breaksBound dX2_firstFailure_132 rfl okmX2_breaksBound lkX2_15 (zz_rc0 mX2_firstFailure hRm hNS rfl rfl) (Nat.le_of_ble_eq_true rfl) ?_
              refine s_X2_breaksBound ⟨by omega, by omega⟩ ⟨by omega, by omega⟩ ⟨by omega, by omega⟩ (fun v132 e132 => ⟨_, rfl, ?_⟩)
              refine aw_if_ne cx 138 149 dX2_firstFailure_135 rfl (by decide) ⟨by omega, by omega⟩ (fun c135 => ?_) (fun c135 => ?_)
              · refine aw_iconst cx 150 dX2_firstFailure_149 rfl ?_
                refine aw_ireturn cx dX2_firstFailure_150 ?_
                refine hRet _ _ True.intro rfl ?_
                exact k _ (by rw [G]; unfold sv2; rw [if_pos (by first | exact Or.inl (e132.resolve_right (fun q => c135 q.1)).2 | exact Or.inr (e143.resolve_right (fun q => c146 q.1)).2)])
              · refine aw_iload_n cx 139 dX2_firstFailure_138 rfl rfl ?_
                refine aw_iload cx 141 dX2_firstFailure_139 rfl rfl ?_
                refine aw_iload cx 143 dX2_firstFailure_141 rfl rfl ?_
                refine aw_S3v cx 146 mX2_breaksBound dX2_firstFailure_143 rfl okmX2_breaksBound lkX2_15 (zz_rc0 mX2_firstFailure hRm hNS rfl rfl) (Nat.le_of_ble_eq_true rfl) ?_
                refine s_X2_breaksBound ⟨by omega, by omega⟩ ⟨by omega, by omega⟩ ⟨by omega, by omega⟩ (fun v143 e143 => ⟨_, rfl, ?_⟩)
                refine aw_if_eq cx 149 151 dX2_firstFailure_146 rfl (by decide) ⟨by omega, by omega⟩ (fun c146 => ?_) (fun c146 => ?_)
                · have G2 : sv n k0 l m = sv3 n k0 m ((n - 1 - (2 * k0 + (n - 1) * (l - m)).tdiv v73).tdiv 2) ((n - 1 + (2 * k0 + (n - 1) * (l - m)).tdiv v73).tdiv 2) := by
                    rw [G]
                    unfold sv2
                    rw [if_neg (by
                      rintro (a | a)
                      · rcases e132 with q | q
                        · omega
                        · exact q.2 a
                      · rcases e143 with q | q
                        · omega
                        · exact q.2 a)]
                  refine aw_iload_n cx 152 dX2_firstFailure_151 rfl rfl ?_
                  refine aw_iconst cx 153 dX2_firstFailure_152 rfl ?_
                  refine aw_isub cx 154 dX2_firstFailure_153 rfl ?_
                  refine aw_iload cx 156 dX2_firstFailure_154 rfl rfl ?_
                  refine aw_iload cx 158 dX2_firstFailure_156 rfl rfl ?_
                  refine aw_idiv cx 159 dX2_firstFailure_158 rfl ⟨⟨by omega, by omega⟩, ⟨by omega, by omega⟩, by omega⟩ ?_
                  refine aw_isub cx 160 dX2_firstFailure_159 rfl ?_
                  refine aw_iconst cx 161 dX2_firstFailure_160 rfl ?_
                  refine aw_idiv cx 162 dX2_firstFailure_161 rfl ⟨⟨by omega, by omega⟩, ⟨by omega, by omega⟩, by omega⟩ ?_
                  refine aw_istore cx 164 dX2_firstFailure_162 rfl ⟨Nat.le_of_ble_eq_true rfl, Nat.le_of_ble_eq_true rfl⟩ rfl ?_
                  dsimp only [List.set]
                  refine aw_iload_n cx 165 dX2_firstFailure_164 rfl rfl ?_
                  refine aw_iconst cx 166 dX2_firstFailure_165 rfl ?_
                  refine aw_isub cx 167 dX2_firstFailure_166 rfl ?_
                  refine aw_iload cx 169 dX2_firstFailure_167 rfl rfl ?_
                  refine aw_iload cx 171 dX2_firstFailure_169 rfl rfl ?_
                  refine aw_idiv cx 172 dX2_firstFailure_171 rfl ⟨⟨by omega, by omega⟩, ⟨by omega, by omega⟩, by omega⟩ ?_
                  refine aw_iadd cx 173 dX2_firstFailure_172 rfl ?_
                  refine aw_iconst cx 174 dX2_firstFailure_173 rfl ?_
                  refine aw_idiv cx 175 dX2_firstFailure_174 rfl ⟨⟨by omega, by omega⟩, ⟨by omega, by omega⟩, by omega⟩ ?_
                  refine aw_istore cx 177 dX2_firstFailure_175 rfl ⟨Nat.le_of_ble_eq_true rfl, Nat.le_of_ble_eq_true rfl⟩ rfl ?_
                  dsimp only [List.set]
                  refine aw_iload_n cx 178 dX2_firstFailure_177 rfl rfl ?_
                  refine aw_if_le cx 181 190 dX2_firstFailure_178 rfl (by decide) ⟨by omega, by omega⟩ (fun c178 => ?_) (fun c178 => ?_)
                  · refine aw_iconst cx 191 dX2_firstFailure_190 rfl ?_
                    refine aw_istore cx 193 dX2_firstFailure_191 rfl ⟨Nat.le_of_ble_eq_true rfl, Nat.le_of_ble_eq_true rfl⟩ rfl ?_
                    dsimp only [List.set]
                    refine aw_iload cx 195 dX2_firstFailure_193 rfl rfl ?_
                    refine aw_if_eq cx 198 228 dX2_firstFailure_195 rfl (by decide) ⟨by omega, by omega⟩ (fun c195 => ?_) (fun c195 => ?_)
                    · first
                      | (exfalso; omega)
                      | (refine aw_iconst cx 229 dX2_firstFailure_228 rfl ?_
                         refine aw_ireturn cx dX2_firstFailure_229 ?_
                         refine hRet _ _ True.intro rfl ?_
                         exact k _ (by rw [G2]; unfold sv3; first | rw [if_pos (by omega)] | rw [if_neg (by omega)]))
                    · first
                      | (exfalso; omega)
                      | (refine aw_iconst cx 199 dX2_firstFailure_198 rfl ?_
                         refine aw_iload_n cx 200 dX2_firstFailure_199 rfl rfl ?_
                         refine aw_imul cx 201 dX2_firstFailure_200 rfl ?_
                         refine aw_iload cx 203 dX2_firstFailure_201 rfl rfl ?_
                         refine aw_iload cx 205 dX2_firstFailure_203 rfl rfl ?_
                         refine aw_iconst cx 206 dX2_firstFailure_205 rfl ?_
                         refine aw_iadd cx 207 dX2_firstFailure_206 rfl ?_
                         refine aw_imul cx 208 dX2_firstFailure_207 rfl ?_
                         refine aw_icmp_gt cx 211 224 dX2_firstFailure_208 rfl (by decide) ⟨⟨by omega, by omega⟩, ⟨by omega, by omega⟩⟩ (fun c208 => ?_) (fun c208 => ?_)
                         · refine aw_iconst cx 225 dX2_firstFailure_224 rfl ?_
                           refine aw_goto cx 229 dX2_firstFailure_225 (by decide) ?_
                           refine aw_ireturn cx dX2_firstFailure_229 ?_
                           refine hRet _ _ True.intro rfl ?_
                           exact k _ (by rw [G2]; unfold sv3; first | rw [if_pos (by omega)] | rw [if_neg (by omega)])
                         · refine aw_iconst cx 212 dX2_firstFailure_211 rfl ?_
                           refine aw_iload_n cx 213 dX2_firstFailure_212 rfl rfl ?_
                           refine aw_imul cx 214 dX2_firstFailure_213 rfl ?_
                           refine aw_iload cx 216 dX2_firstFailure_214 rfl rfl ?_
                           refine aw_iload cx 218 dX2_firstFailure_216 rfl rfl ?_
                           refine aw_iconst cx 219 dX2_firstFailure_218 rfl ?_
                           refine aw_iadd cx 220 dX2_firstFailure_219 rfl ?_
                           refine aw_imul cx 221 dX2_firstFailure_220 rfl ?_
                           refine aw_icmp_le cx 224 228 dX2_firstFailure_221 rfl (by decide) ⟨⟨by omega, by omega⟩, ⟨by omega, by omega⟩⟩ (fun c221 => ?_) (fun c221 => ?_)
                           · refine aw_iconst cx 229 dX2_firstFailure_228 rfl ?_
                             refine aw_ireturn cx dX2_firstFailure_229 ?_
                             refine hRet _ _ True.intro rfl ?_
                             exact k _ (by rw [G2]; unfold sv3; first | rw [if_pos (by omega)] | rw [if_neg (by omega)])
                           · refine aw_iconst cx 225 dX2_firstFailure_224 rfl ?_
                             refine aw_goto cx 229 dX2_firstFailure_225 (by decide) ?_
                             refine aw_ireturn cx dX2_firstFailure_229 ?_
                             refine hRet _ _ True.intro rfl ?_
                             exact k _ (by rw [G2]; unfold sv3; first | rw [if_pos (by omega)] | rw [if_neg (by omega)]))
                  · refine aw_iload_n cx 182 dX2_firstFailure_181 rfl rfl ?_
                    refine aw_iload_n cx 183 dX2_firstFailure_182 rfl rfl ?_
                    refine aw_icmp_ge cx 186 190 dX2_firstFailure_183 rfl (by decide) ⟨⟨by omega, by omega⟩, ⟨by omega, by omega⟩⟩ (fun c183 => ?_) (fun c183 => ?_)
                    · refine aw_iconst cx 191 dX2_firstFailure_190 rfl ?_
                      refine aw_istore cx 193 dX2_firstFailure_191 rfl ⟨Nat.le_of_ble_eq_true rfl, Nat.le_of_ble_eq_true rfl⟩ rfl ?_
                      dsimp only [List.set]
                      refine aw_iload cx 195 dX2_firstFailure_193 rfl rfl ?_
                      refine aw_if_eq cx 198 228 dX2_firstFailure_195 rfl (by decide) ⟨by omega, by omega⟩ (fun c195 => ?_) (fun c195 => ?_)
                      · first
                        | (exfalso; omega)
                        | (refine aw_iconst cx 229 dX2_firstFailure_228 rfl ?_
                           refine aw_ireturn cx dX2_firstFailure_229 ?_
                           refine hRet _ _ True.intro rfl ?_
                           exact k _ (by rw [G2]; unfold sv3; first | rw [if_pos (by omega)] | rw [if_neg (by omega)]))
                      · first
                        | (exfalso; omega)
                        | (refine aw_iconst cx 199 dX2_firstFailure_198 rfl ?_
                           refine aw_iload_n cx 200 dX2_firstFailure_199 rfl rfl ?_
                           refine aw_imul cx 201 dX2_firstFailure_200 rfl ?_
                           refine aw_iload cx 203 dX2_firstFailure_201 rfl rfl ?_
                           refine aw_iload cx 205 dX2_firstFailure_203 rfl rfl ?_
                           refine aw_iconst cx 206 dX2_firstFailure_205 rfl ?_
                           refine aw_iadd cx 207 dX2_firstFailure_206 rfl ?_
                           refine aw_imul cx 208 dX2_firstFailure_207 rfl ?_
                           refine aw_icmp_gt cx 211 224 dX2_firstFailure_208 rfl (by decide) ⟨⟨by omega, by omega⟩, ⟨by omega, by omega⟩⟩ (fun c208 => ?_) (fun c208 => ?_)
                           · refine aw_iconst cx 225 dX2_firstFailure_224 rfl ?_
                             refine aw_goto cx 229 dX2_firstFailure_225 (by decide) ?_
                             refine aw_ireturn cx dX2_firstFailure_229 ?_
                             refine hRet _ _ True.intro rfl ?_
                             exact k _ (by rw [G2]; unfold sv3; first | rw [if_pos (by omega)] | rw [if_neg (by omega)])
                           · refine aw_iconst cx 212 dX2_firstFailure_211 rfl ?_
                             refine aw_iload_n cx 213 dX2_firstFailure_212 rfl rfl ?_
                             refine aw_imul cx 214 dX2_firstFailure_213 rfl ?_
                             refine aw_iload cx 216 dX2_firstFailure_214 rfl rfl ?_
                             refine aw_iload cx 218 dX2_firstFailure_216 rfl rfl ?_
                             refine aw_iconst cx 219 dX2_firstFailure_218 rfl ?_
                             refine aw_iadd cx 220 dX2_firstFailure_219 rfl ?_
                             refine aw_imul cx 221 dX2_firstFailure_220 rfl ?_
                             refine aw_icmp_le cx 224 228 dX2_firstFailure_221 rfl (by decide) ⟨⟨by omega, by omega⟩, ⟨by omega, by omega⟩⟩ (fun c221 => ?_) (fun c221 => ?_)
                             · refine aw_iconst cx 229 dX2_firstFailure_228 rfl ?_
                               refine aw_ireturn cx dX2_firstFailure_229 ?_
                               refine hRet _ _ True.intro rfl ?_
                               exact k _ (by rw [G2]; unfold sv3; first | rw [if_pos (by omega)] | rw [if_neg (by omega)])
                             · refine aw_iconst cx 225 dX2_firstFailure_224 rfl ?_
                               refine aw_goto cx 229 dX2_firstFailure_225 (by decide) ?_
                               refine aw_ireturn cx dX2_firstFailure_229 ?_
                               refine hRet _ _ True.intro rfl ?_
                               exact k _ (by rw [G2]; unfold sv3; first | rw [if_pos (by omega)] | rw [if_neg (by omega)]))
                    · refine aw_iconst cx 187 dX2_firstFailure_186 rfl ?_
                      refine aw_goto cx 191 dX2_firstFailure_187 (by decide) ?_
                      refine aw_istore cx 193 dX2_firstFailure_191 rfl ⟨Nat.le_of_ble_eq_true rfl, Nat.le_of_ble_eq_true rfl⟩ rfl ?_
                      dsimp only [List.set]
                      refine aw_iload cx 195 dX2_firstFailure_193 rfl rfl ?_
                      refine aw_if_eq cx 198 228 dX2_firstFailure_195 rfl (by decide) ⟨by omega, by omega⟩ (fun c195 => ?_) (fun c195 => ?_)
                      · first
                        | (exfalso; omega)
                        | (refine aw_iconst cx 229 dX2_firstFailure_228 rfl ?_
                           refine aw_ireturn cx dX2_firstFailure_229 ?_
                           refine hRet _ _ True.intro rfl ?_
                           exact k _ (by rw [G2]; unfold sv3; first | rw [if_pos (by omega)] | rw [if_neg (by omega)]))
                      · first
                        | (exfalso; omega)
                        | (refine aw_iconst cx 199 dX2_firstFailure_198 rfl ?_
                           refine aw_iload_n cx 200 dX2_firstFailure_199 rfl rfl ?_
                           refine aw_imul cx 201 dX2_firstFailure_200 rfl ?_
                           refine aw_iload cx 203 dX2_firstFailure_201 rfl rfl ?_
                           refine aw_iload cx 205 dX2_firstFailure_203 rfl rfl ?_
                           refine aw_iconst cx 206 dX2_firstFailure_205 rfl ?_
                           refine aw_iadd cx 207 dX2_firstFailure_206 rfl ?_
                           refine aw_imul cx 208 dX2_firstFailure_207 rfl ?_
                           refine aw_icmp_gt cx 211 224 dX2_firstFailure_208 rfl (by decide) ⟨⟨by omega, by omega⟩, ⟨by omega, by omega⟩⟩ (fun c208 => ?_) (fun c208 => ?_)
                           · refine aw_iconst cx 225 dX2_firstFailure_224 rfl ?_
                             refine aw_goto cx 229 dX2_firstFailure_225 (by decide) ?_
                             refine aw_ireturn cx dX2_firstFailure_229 ?_
                             refine hRet _ _ True.intro rfl ?_
                             exact k _ (by rw [G2]; unfold sv3; first | rw [if_pos (by omega)] | rw [if_neg (by omega)])
                           · refine aw_iconst cx 212 dX2_firstFailure_211 rfl ?_
                             refine aw_iload_n cx 213 dX2_firstFailure_212 rfl rfl ?_
                             refine aw_imul cx 214 dX2_firstFailure_213 rfl ?_
                             refine aw_iload cx 216 dX2_firstFailure_214 rfl rfl ?_
                             refine aw_iload cx 218 dX2_firstFailure_216 rfl rfl ?_
                             refine aw_iconst cx 219 dX2_firstFailure_218 rfl ?_
                             refine aw_iadd cx 220 dX2_firstFailure_219 rfl ?_
                             refine aw_imul cx 221 dX2_firstFailure_220 rfl ?_
                             refine aw_icmp_le cx 224 228 dX2_firstFailure_221 rfl (by decide) ⟨⟨by omega, by omega⟩, ⟨by omega, by omega⟩⟩ (fun c221 => ?_) (fun c221 => ?_)
                             · refine aw_iconst cx 229 dX2_firstFailure_228 rfl ?_
                               refine aw_ireturn cx dX2_firstFailure_229 ?_
                               refine hRet _ _ True.intro rfl ?_
                               exact k _ (by rw [G2]; unfold sv3; first | rw [if_pos (by omega)] | rw [if_neg (by omega)])
                             · refine aw_iconst cx 225 dX2_firstFailure_224 rfl ?_
                               refine aw_goto cx 229 dX2_firstFailure_225 (by decide) ?_
                               refine aw_ireturn cx dX2_firstFailure_229 ?_
                               refine hRet _ _ True.intro rfl ?_
                               exact k _ (by rw [G2]; unfold sv3; first | rw [if_pos (by omega)] | rw [if_neg (by omega)]))
                · refine aw_iconst cx 150 dX2_firstFailure_149 rfl ?_
                  refine aw_ireturn cx dX2_firstFailure_150 ?_
                  refine hRet _ _ True.intro rfl ?_
                  exact k _ (by rw [G]; unfold sv2; rw [if_pos (by first | exact Or.inl (e132.resolve_right (fun q => c135 q.1)).2 | exact Or.inr (e143.resolve_right (fun q => c146 q.1)).2)])
            · refine aw_iconst cx 106 dX2_firstFailure_105 rfl ?_
              refine aw_ireturn cx dX2_firstFailure_106 ?_
              refine hRet _ _ True.intro rfl ?_
              first
              | exact k _ (by unfold sv; rw [if_neg (fun q => q c14), if_neg (by show ¬ ((l - m) * (l - m) + 4 * (k0 - m) = 0); omega), if_neg (by show ¬ (2 * k0 + (n - 1) * (l - m) = 0); omega), if_pos (Or.inr (Or.inl (by show (2 * k0 + (n - 1) * (l - m)).tmod (rt ((l - m) * (l - m) + 4 * (k0 - m))) ≠ 0; rw [← q1.1]; exact c88)))])
              | exact k _ (by unfold sv; rw [if_neg (fun q => q c14), if_neg (by show ¬ ((l - m) * (l - m) + 4 * (k0 - m) = 0); omega), if_neg (by show ¬ (2 * k0 + (n - 1) * (l - m) = 0); omega), if_pos (Or.inr (Or.inr (by show (n - 1 + (2 * k0 + (n - 1) * (l - m)).tdiv (rt ((l - m) * (l - m) + 4 * (k0 - m)))).tmod 2 ≠ 0; rw [← q1.1]; exact c102)))])
              | exact k _ (by unfold sv; rw [if_neg (fun q => q c14), if_neg (by show ¬ ((l - m) * (l - m) + 4 * (k0 - m) = 0); omega), if_neg (by show ¬ (2 * k0 + (n - 1) * (l - m) = 0); omega), if_pos (Or.inl (by
                  rcases e73 with ⟨a, b, d⟩ | ⟨a, b⟩
                  · omega
                  · exact b))])
      · refine aw_iload_n cx 60 dX2_firstFailure_59 rfl rfl ?_
        refine aw_iconst cx 61 dX2_firstFailure_60 rfl ?_
        refine aw_iremN cx 62 dX2_firstFailure_61 rfl ⟨by omega, by omega, by omega, by omega⟩ ?_
        refine aw_if_ne cx 65 69 dX2_firstFailure_62 rfl (by decide) ⟨by omega, by omega⟩ (fun c62 => ?_) (fun c62 => ?_)
        · refine aw_iconst cx 70 dX2_firstFailure_69 rfl ?_
          refine aw_ireturn cx dX2_firstFailure_70 ?_
          refine hRet _ _ True.intro rfl ?_
          exact k _ (by unfold sv; rw [if_neg (fun q => q c14), if_neg (by show ¬ ((l - m) * (l - m) + 4 * (k0 - m) = 0); omega), if_pos (by show 2 * k0 + (n - 1) * (l - m) = 0; omega)]; first | rw [if_pos (by omega)] | rw [if_neg (by omega)])
        · refine aw_iconst cx 66 dX2_firstFailure_65 rfl ?_
          refine aw_goto cx 70 dX2_firstFailure_66 (by decide) ?_
          refine aw_ireturn cx dX2_firstFailure_70 ?_
          refine hRet _ _ True.intro rfl ?_
          exact k _ (by unfold sv; rw [if_neg (fun q => q c14), if_neg (by show ¬ ((l - m) * (l - m) + 4 * (k0 - m) = 0); omega), if_pos (by show 2 * k0 + (n - 1) * (l - m) = 0; omega)]; first | rw [if_pos (by omega)] | rw [if_neg (by omega)])
    · refine aw_iconst cx 53 dX2_firstFailure_52 rfl ?_
      refine aw_ireturn cx dX2_firstFailure_53 ?_
      refine hRet _ _ True.intro rfl ?_
      exact k _ (by unfold sv; rw [if_neg (fun q => q c14), if_pos (by show (l - m) * (l - m) + 4 * (k0 - m) = 0; omega)])
  · refine aw_iconst cx 18 dX2_firstFailure_17 rfl ?_
    refine aw_ireturn cx dX2_firstFailure_18 ?_
    refine hRet _ _ True.intro rfl ?_
    exact k _ (by unfold sv; rw [if_pos c14])
set_option maxRecDepth 100000 in
set_option maxHeartbeats 4000000 in
theorem s_X5_root {h : AH} {Q : Option AV → AH → Prop} {d : Int} (hd : 0 ≤ d ∧ d ≤ 40000) (k : ∀ v, v = rt d → Q (some (vI v)) h) : MC mX5_root [vI d] h Q := by
  refine mc_start mX5_root RX5 "root" ⟨rfl, rfl, by decide +kernel⟩ [some (vI d), none] ⟨1, rfl⟩ rfl (fun X cx hRm hNS hRet => ?_)
  obtain ⟨p1, p2, p3⟩ := rt_p hd
  refine aw_iconst cx 1 dX5_root_0 rfl ?_
  refine aw_istore_n cx 2 1 dX5_root_1 rfl rfl ⟨Nat.le_of_ble_eq_true rfl, Nat.le_of_ble_eq_true rfl⟩ rfl ?_
  dsimp only [List.set]
  have lp2 : ∀ (kf : Nat) (q : Int), (201 - q < (kf : Int)) → (0 ≤ q ∧ q ≤ 200) → (∀ s, 0 ≤ s → s < q → s * s < d) → AW X 2 [some (vI d), some (vI q)] [] (h) := by
    intro kf
    induction kf with
    | zero =>
      intro q hk hq hs
      exfalso
      omega
    | succ kf ih2 =>
      intro q hk hq hs
      have hq2 := mb (x := q) (y := q) 200 200 (by omega) (by omega)
      refine aw_iload_n cx 3 dX5_root_2 rfl rfl ?_
      refine aw_iload_n cx 4 dX5_root_3 rfl rfl ?_
      refine aw_imul cx 5 dX5_root_4 rfl ?_
      refine aw_iload_n cx 6 dX5_root_5 rfl rfl ?_
      refine aw_icmp_ge cx 9 15 dX5_root_6 rfl (by decide) ⟨⟨by omega, by omega⟩, ⟨by omega, by omega⟩⟩ (fun c6 => ?_) (fun c6 => ?_)
      · refine aw_iload_n cx 16 dX5_root_15 rfl rfl ?_
        refine aw_ireturn cx dX5_root_16 ?_
        refine hRet _ _ True.intro rfl ?_
        exact k _ (rt_u hd hq.1 c6 hs)
      · refine aw_iinc cx 12 dX5_root_9 rfl rfl (Nat.le_of_ble_eq_true rfl) rfl ?_
        dsimp only [List.set]
        refine aw_goto cx 2 dX5_root_12 (by decide) ?_
        exact ih2 (q + 1) (by omega) ⟨by omega, by
          rcases Int.lt_or_le q 200 with h9 | h9
          · omega
          · have := sq_le (a := 200) (by decide) h9
            omega⟩ (fun s s0 s1 => by
          by_cases e : s = q
          · rw [e]; omega
          · exact hs s s0 (by omega))
  exact lp2 202 0 (by omega) ⟨by omega, by omega⟩ (fun s s0 s1 => by omega)
set_option maxRecDepth 100000 in
set_option maxHeartbeats 4000000 in
theorem s_X5_sieved {h : AH} {Q : Option AV → AH → Prop} {n k0 l m : Int} (hI : svI n k0 l m) (k : ∀ v, v = sv n k0 l m → Q (some (vI v)) h) : MC mX5_sieved [vI n, vI k0, vI l, vI m] h Q := by
  refine mc_start mX5_sieved RX5 "sieved" ⟨rfl, rfl, by decide +kernel⟩ [some (vI n), some (vI k0), some (vI l), some (vI m), none, none, none, none, none, none, none, none, none] ⟨9, rfl⟩ rfl (fun X cx hRm hNS hRet => ?_)
  obtain ⟨hb1, hb2, hb3, hb4⟩ := sv_b hI
  refine aw_iload_n cx 1 dX5_sieved_0 rfl rfl ?_
  refine aw_iload_n cx 2 dX5_sieved_1 rfl rfl ?_
  refine aw_iload_n cx 3 dX5_sieved_2 rfl rfl ?_
  refine aw_isub cx 4 dX5_sieved_3 rfl ?_
  refine aw_iconst cx 5 dX5_sieved_4 rfl ?_
  refine aw_isub cx 6 dX5_sieved_5 rfl ?_
  refine aw_imul cx 7 dX5_sieved_6 rfl ?_
  refine aw_iload_n cx 8 dX5_sieved_7 rfl rfl ?_
  refine aw_iload_n cx 9 dX5_sieved_8 rfl rfl ?_
  refine aw_isub cx 10 dX5_sieved_9 rfl ?_
  refine aw_iconst cx 11 dX5_sieved_10 rfl ?_
  refine aw_isub cx 12 dX5_sieved_11 rfl ?_
  refine aw_iload_n cx 13 dX5_sieved_12 rfl rfl ?_
  refine aw_imul cx 14 dX5_sieved_13 rfl ?_
  refine aw_icmp_eq cx 17 19 dX5_sieved_14 rfl (by decide) ⟨⟨by omega, by omega⟩, ⟨by omega, by omega⟩⟩ (fun c14 => ?_) (fun c14 => ?_)
  · refine aw_iload_n cx 20 dX5_sieved_19 rfl rfl ?_
    refine aw_iload_n cx 21 dX5_sieved_20 rfl rfl ?_
    refine aw_isub cx 22 dX5_sieved_21 rfl ?_
    refine aw_iload_n cx 23 dX5_sieved_22 rfl rfl ?_
    refine aw_iload_n cx 24 dX5_sieved_23 rfl rfl ?_
    refine aw_isub cx 25 dX5_sieved_24 rfl ?_
    refine aw_imul cx 26 dX5_sieved_25 rfl ?_
    refine aw_iconst cx 27 dX5_sieved_26 rfl ?_
    refine aw_iload_n cx 28 dX5_sieved_27 rfl rfl ?_
    refine aw_iload_n cx 29 dX5_sieved_28 rfl rfl ?_
    refine aw_isub cx 30 dX5_sieved_29 rfl ?_
    refine aw_imul cx 31 dX5_sieved_30 rfl ?_
    refine aw_iadd cx 32 dX5_sieved_31 rfl ?_
    refine aw_istore cx 34 dX5_sieved_32 rfl ⟨Nat.le_of_ble_eq_true rfl, Nat.le_of_ble_eq_true rfl⟩ rfl ?_
    dsimp only [List.set]
    refine aw_iconst cx 35 dX5_sieved_34 rfl ?_
    refine aw_iload_n cx 36 dX5_sieved_35 rfl rfl ?_
    refine aw_imul cx 37 dX5_sieved_36 rfl ?_
    refine aw_iload_n cx 38 dX5_sieved_37 rfl rfl ?_
    refine aw_iconst cx 39 dX5_sieved_38 rfl ?_
    refine aw_isub cx 40 dX5_sieved_39 rfl ?_
    refine aw_iload_n cx 41 dX5_sieved_40 rfl rfl ?_
    refine aw_iload_n cx 42 dX5_sieved_41 rfl rfl ?_
    refine aw_isub cx 43 dX5_sieved_42 rfl ?_
    refine aw_imul cx 44 dX5_sieved_43 rfl ?_
    refine aw_iadd cx 45 dX5_sieved_44 rfl ?_
    refine aw_istore cx 47 dX5_sieved_45 rfl ⟨Nat.le_of_ble_eq_true rfl, Nat.le_of_ble_eq_true rfl⟩ rfl ?_
    dsimp only [List.set]
    refine aw_iload cx 49 dX5_sieved_47 rfl rfl ?_
    refine aw_if_ne cx 52 54 dX5_sieved_49 rfl (by decide) ⟨by omega, by omega⟩ (fun c49 => ?_) (fun c49 => ?_)
    · refine aw_iload cx 56 dX5_sieved_54 rfl rfl ?_
      refine aw_if_ne cx 59 71 dX5_sieved_56 rfl (by decide) ⟨by omega, by omega⟩ (fun c56 => ?_) (fun c56 => ?_)
      · refine aw_iload cx 73 dX5_sieved_71 rfl rfl ?_
        refine aw_S1v cx 76 mX5_root dX5_sieved_73 rfl okmX5_root lkX5_117 (zz_rc0 mX5_sieved hRm hNS rfl rfl) (Nat.le_of_ble_eq_true rfl) ?_
        refine s_X5_root ⟨by omega, by omega⟩ (fun v73 e73 => ⟨_, rfl, ?_⟩)
        obtain ⟨tq1, tq2, -⟩ := rt_p (d := (l - m) * (l - m) + 4 * (k0 - m)) ⟨by omega, by omega⟩
        rw [← e73] at tq1 tq2
        have q0 : 0 < v73 := by
          rcases Int.lt_or_le 0 v73 with q | q
          · exact q
          · rw [show v73 = 0 by omega] at tq2
            omega
        have q2 := mb (x := v73) (y := v73) 200 200 (by omega) (by omega)
        have b0 := tdiv_b (x := 2 * k0 + (n - 1) * (l - m)) (y := v73) 39798 ⟨by omega, by omega⟩ (by omega)
        have m0 := tmod_b (x := 2 * k0 + (n - 1) * (l - m)) (y := v73) 39798 ⟨by omega, by omega⟩ ⟨by omega, by omega⟩
        have m1 := tmod_b (x := n - 1 + (2 * k0 + (n - 1) * (l - m)).tdiv v73) (y := 2) 40000 ⟨by omega, by omega⟩ ⟨by decide, by decide⟩
        refine aw_istore cx 78 dX5_sieved_76 rfl ⟨Nat.le_of_ble_eq_true rfl, Nat.le_of_ble_eq_true rfl⟩ rfl ?_
        dsimp only [List.set]
        refine aw_iload cx 80 dX5_sieved_78 rfl rfl ?_
        refine aw_iload cx 82 dX5_sieved_80 rfl rfl ?_
        refine aw_imul cx 83 dX5_sieved_82 rfl ?_
        refine aw_iload cx 85 dX5_sieved_83 rfl rfl ?_
        refine aw_icmp_ne cx 88 110 dX5_sieved_85 rfl (by decide) ⟨⟨by omega, by omega⟩, ⟨by omega, by omega⟩⟩ (fun c85 => ?_) (fun c85 => ?_)
        · refine aw_iconst cx 111 dX5_sieved_110 rfl ?_
          refine aw_ireturn cx dX5_sieved_111 ?_
          refine hRet _ _ True.intro rfl ?_
          first
          | exact k _ (by unfold sv; rw [if_neg (fun q => q c14), if_neg (by show ¬ ((l - m) * (l - m) + 4 * (k0 - m) = 0); omega), if_neg (by show ¬ (2 * k0 + (n - 1) * (l - m) = 0); omega), if_pos (Or.inl (by show rt ((l - m) * (l - m) + 4 * (k0 - m)) * rt ((l - m) * (l - m) + 4 * (k0 - m)) ≠ (l - m) * (l - m) + 4 * (k0 - m); rw [← e73]; exact c85))])
          | exact k _ (by unfold sv; rw [if_neg (fun q => q c14), if_neg (by show ¬ ((l - m) * (l - m) + 4 * (k0 - m) = 0); omega), if_neg (by show ¬ (2 * k0 + (n - 1) * (l - m) = 0); omega), if_pos (Or.inr (Or.inl (by show (2 * k0 + (n - 1) * (l - m)).tmod (rt ((l - m) * (l - m) + 4 * (k0 - m))) ≠ 0; rw [← e73]; exact c93)))])
          | exact k _ (by unfold sv; rw [if_neg (fun q => q c14), if_neg (by show ¬ ((l - m) * (l - m) + 4 * (k0 - m) = 0); omega), if_neg (by show ¬ (2 * k0 + (n - 1) * (l - m) = 0); omega), if_pos (Or.inr (Or.inr (by show (n - 1 + (2 * k0 + (n - 1) * (l - m)).tdiv (rt ((l - m) * (l - m) + 4 * (k0 - m)))).tmod 2 ≠ 0; rw [← e73]; exact c107)))])
        · refine aw_iload cx 90 dX5_sieved_88 rfl rfl ?_
          refine aw_iload cx 92 dX5_sieved_90 rfl rfl ?_
          refine aw_irem cx 93 dX5_sieved_92 rfl ⟨⟨by omega, by omega⟩, ⟨by omega, by omega⟩, by omega⟩ ?_
          refine aw_if_ne cx 96 110 dX5_sieved_93 rfl (by decide) ⟨by omega, by omega⟩ (fun c93 => ?_) (fun c93 => ?_)
          · refine aw_iconst cx 111 dX5_sieved_110 rfl ?_
            refine aw_ireturn cx dX5_sieved_111 ?_
            refine hRet _ _ True.intro rfl ?_
            first
            | exact k _ (by unfold sv; rw [if_neg (fun q => q c14), if_neg (by show ¬ ((l - m) * (l - m) + 4 * (k0 - m) = 0); omega), if_neg (by show ¬ (2 * k0 + (n - 1) * (l - m) = 0); omega), if_pos (Or.inl (by show rt ((l - m) * (l - m) + 4 * (k0 - m)) * rt ((l - m) * (l - m) + 4 * (k0 - m)) ≠ (l - m) * (l - m) + 4 * (k0 - m); rw [← e73]; exact c85))])
            | exact k _ (by unfold sv; rw [if_neg (fun q => q c14), if_neg (by show ¬ ((l - m) * (l - m) + 4 * (k0 - m) = 0); omega), if_neg (by show ¬ (2 * k0 + (n - 1) * (l - m) = 0); omega), if_pos (Or.inr (Or.inl (by show (2 * k0 + (n - 1) * (l - m)).tmod (rt ((l - m) * (l - m) + 4 * (k0 - m))) ≠ 0; rw [← e73]; exact c93)))])
            | exact k _ (by unfold sv; rw [if_neg (fun q => q c14), if_neg (by show ¬ ((l - m) * (l - m) + 4 * (k0 - m) = 0); omega), if_neg (by show ¬ (2 * k0 + (n - 1) * (l - m) = 0); omega), if_pos (Or.inr (Or.inr (by show (n - 1 + (2 * k0 + (n - 1) * (l - m)).tdiv (rt ((l - m) * (l - m) + 4 * (k0 - m)))).tmod 2 ≠ 0; rw [← e73]; exact c107)))])
          · refine aw_iload_n cx 97 dX5_sieved_96 rfl rfl ?_
            refine aw_iconst cx 98 dX5_sieved_97 rfl ?_
            refine aw_isub cx 99 dX5_sieved_98 rfl ?_
            refine aw_iload cx 101 dX5_sieved_99 rfl rfl ?_
            refine aw_iload cx 103 dX5_sieved_101 rfl rfl ?_
            refine aw_idiv cx 104 dX5_sieved_103 rfl ⟨⟨by omega, by omega⟩, ⟨by omega, by omega⟩, by omega⟩ ?_
            refine aw_iadd cx 105 dX5_sieved_104 rfl ?_
            refine aw_iconst cx 106 dX5_sieved_105 rfl ?_
            refine aw_irem cx 107 dX5_sieved_106 rfl ⟨⟨by omega, by omega⟩, ⟨by omega, by omega⟩, by omega⟩ ?_
            refine aw_if_eq cx 110 112 dX5_sieved_107 rfl (by decide) ⟨by omega, by omega⟩ (fun c107 => ?_) (fun c107 => ?_)
            · have b1 := tdiv_b (x := l - m + v73) (y := 2) 400 ⟨by omega, by omega⟩ (by decide)
              have b2 := tdiv_b (x := l - m - v73) (y := 2) 400 ⟨by omega, by omega⟩ (by decide)
              have b3 := tdiv_b (x := n - 1 - (2 * k0 + (n - 1) * (l - m)).tdiv v73) (y := 2) 40000 ⟨by omega, by omega⟩ (by decide)
              have b4 := tdiv_b (x := n - 1 + (2 * k0 + (n - 1) * (l - m)).tdiv v73) (y := 2) 40000 ⟨by omega, by omega⟩ (by decide)
              have b5 := ff_r b3
              have b6 := ff_r b4
              have G : sv n k0 l m = sv2 n k0 m (2 * k0 + (n - 1) * (l - m)) ((l - m + v73).tdiv 2) ((l - m - v73).tdiv 2) v73 := by
                unfold sv
                rw [if_neg (fun q => q c14), if_neg (by show ¬ ((l - m) * (l - m) + 4 * (k0 - m) = 0); omega), if_neg (by show ¬ (2 * k0 + (n - 1) * (l - m) = 0); omega), if_neg (by
                  rintro (a | a | a)
                  · rw [← e73] at a
                    exact a c85
                  · rw [← e73] at a
                    exact a c93
                  · rw [← e73] at a
                    exact a c107), ← e73]
              have b7 := bb_r (k := k0) ⟨by omega, by omega⟩ b1 b2
              have b8 := bb_r (k := k0) ⟨by omega, by omega⟩ b2 b1
              rw [bb_c] at b8
              refine aw_iload_n cx 113 dX5_sieved_112 rfl rfl ?_
              refine aw_iload_n cx 114 dX5_sieved_113 rfl rfl ?_
              refine aw_isub cx 115 dX5_sieved_114 rfl ?_
              refine aw_iload cx 117 dX5_sieved_115 rfl rfl ?_
              refine aw_iadd cx 118 dX5_sieved_117 rfl ?_
              refine aw_iconst cx 119 dX5_sieved_118 rfl ?_
              refine aw_idiv cx 120 dX5_sieved_119 rfl ⟨⟨by omega, by omega⟩, ⟨by omega, by omega⟩, by omega⟩ ?_
              refine aw_i2l cx 121 dX5_sieved_120 rfl ⟨by omega, by omega⟩ ?_
              refine aw_lstore cx 123 dX5_sieved_121 rfl ⟨Nat.le_of_ble_eq_true rfl, Nat.le_of_ble_eq_true rfl⟩ rfl ?_
              dsimp only [List.set]
              refine aw_iload_n cx 124 dX5_sieved_123 rfl rfl ?_
              refine aw_iload_n cx 125 dX5_sieved_124 rfl rfl ?_
              refine aw_isub cx 126 dX5_sieved_125 rfl ?_
              refine aw_iload cx 128 dX5_sieved_126 rfl rfl ?_
              refine aw_isub cx 129 dX5_sieved_128 rfl ?_
              refine aw_iconst cx 130 dX5_sieved_129 rfl ?_
              refine aw_idiv cx 131 dX5_sieved_130 rfl ⟨⟨by omega, by omega⟩, ⟨by omega, by omega⟩, by omega⟩ ?_
              refine aw_i2l cx 132 dX5_sieved_131 rfl ⟨by omega, by omega⟩ ?_
              refine aw_lstore cx 134 dX5_sieved_132 rfl ⟨Nat.le_of_ble_eq_true rfl, Nat.le_of_ble_eq_true rfl⟩ rfl ?_
              dsimp only [List.set]
              refine aw_lload cx 136 dX5_sieved_134 rfl rfl ?_
              refine aw_lconst cx 137 1 dX5_sieved_136 rfl (by decide +kernel) ?_
              refine aw_ladd cx 138 dX5_sieved_137 rfl ?_
              refine aw_iload_n cx 139 dX5_sieved_138 rfl rfl ?_
              refine aw_i2l cx 140 dX5_sieved_139 rfl ⟨by omega, by omega⟩ ?_
              refine aw_lload cx 142 dX5_sieved_140 rfl rfl ?_
              refine aw_ladd cx 143 dX5_sieved_142 rfl ?_
              refine aw_ldc2 cx 146 (2) dX5_sieved_143 rfl klX5_120 (by decide +kernel) ?_
              refine aw_lload cx 148 dX5_sieved_146 rfl rfl ?_
              refine aw_lmul cx 149 dX5_sieved_148 rfl ?_
              refine aw_lload cx 151 dX5_sieved_149 rfl rfl ?_
              refine aw_lmul cx 152 dX5_sieved_151 rfl ?_
              refine aw_ladd cx 153 dX5_sieved_152 rfl ?_
              refine aw_lmul cx 154 dX5_sieved_153 rfl ?_
              refine aw_iload_n cx 155 dX5_sieved_154 rfl rfl ?_
              refine aw_i2l cx 156 dX5_sieved_155 rfl ⟨by omega, by omega⟩ ?_
              refine aw_lload cx 158 dX5_sieved_156 rfl rfl ?_
              refine aw_ladd cx 159 dX5_sieved_158 rfl ?_
              refine aw_lload cx 161 dX5_sieved_159 rfl rfl ?_
              refine aw_lconst cx 162 1 dX5_sieved_161 rfl (by decide +kernel) ?_
              refine aw_ladd cx 163 dX5_sieved_162 rfl ?_
              refine aw_lmul cx 164 dX5_sieved_163 rfl ?_
              refine aw_lload cx 166 dX5_sieved_164 rfl rfl ?_
              refine aw_lconst cx 167 1 dX5_sieved_166 rfl (by decide +kernel) ?_
              refine aw_ladd cx 168 dX5_sieved_167 rfl ?_
              refine aw_lmul cx 169 dX5_sieved_168 rfl ?_
              refine aw_lcmp cx 170 dX5_sieved_169 rfl (Or.inr ⟨⟨by omega, by omega⟩, ⟨by omega, by omega⟩⟩) ?_
              refine aw_if_gt cx 173 212 dX5_sieved_170 rfl (by decide) (zz_cmp_r _ _) (fun c170 => ?_) (fun c170 => ?_)
              · rw [zz_cmp_gt] at c170
                refine aw_iconst cx 213 dX5_sieved_212 rfl ?_
                refine aw_ireturn cx dX5_sieved_213 ?_
                refine hRet _ _ True.intro rfl ?_
                exact k _ (by rw [G]; unfold sv2; rw [if_pos (by first | exact Or.inl (by show _ < _; omega) | exact Or.inr (by show _ < _; rw [bb_c]; omega))])
              · rw [zz_cmp_gt] at c170
                refine aw_lload cx 175 dX5_sieved_173 rfl rfl ?_
                refine aw_lconst cx 176 1 dX5_sieved_175 rfl (by decide +kernel) ?_
                refine aw_ladd cx 177 dX5_sieved_176 rfl ?_
                refine aw_iload_n cx 178 dX5_sieved_177 rfl rfl ?_
                refine aw_i2l cx 179 dX5_sieved_178 rfl ⟨by omega, by omega⟩ ?_
                refine aw_lload cx 181 dX5_sieved_179 rfl rfl ?_
                refine aw_ladd cx 182 dX5_sieved_181 rfl ?_
                refine aw_ldc2 cx 185 (2) dX5_sieved_182 rfl klX5_120 (by decide +kernel) ?_
                refine aw_lload cx 187 dX5_sieved_185 rfl rfl ?_
                refine aw_lmul cx 188 dX5_sieved_187 rfl ?_
                refine aw_lload cx 190 dX5_sieved_188 rfl rfl ?_
                refine aw_lmul cx 191 dX5_sieved_190 rfl ?_
                refine aw_ladd cx 192 dX5_sieved_191 rfl ?_
                refine aw_lmul cx 193 dX5_sieved_192 rfl ?_
                refine aw_iload_n cx 194 dX5_sieved_193 rfl rfl ?_
                refine aw_i2l cx 195 dX5_sieved_194 rfl ⟨by omega, by omega⟩ ?_
                refine aw_lload cx 197 dX5_sieved_195 rfl rfl ?_
                refine aw_ladd cx 198 dX5_sieved_197 rfl ?_
                refine aw_lload cx 200 dX5_sieved_198 rfl rfl ?_
                refine aw_lconst cx 201 1 dX5_sieved_200 rfl (by decide +kernel) ?_
                refine aw_ladd cx 202 dX5_sieved_201 rfl ?_
                refine aw_lmul cx 203 dX5_sieved_202 rfl ?_
                refine aw_lload cx 205 dX5_sieved_203 rfl rfl ?_
                refine aw_lconst cx 206 1 dX5_sieved_205 rfl (by decide +kernel) ?_
                refine aw_ladd cx 207 dX5_sieved_206 rfl ?_
                refine aw_lmul cx 208 dX5_sieved_207 rfl ?_
                refine aw_lcmp cx 209 dX5_sieved_208 rfl (Or.inr ⟨⟨by omega, by omega⟩, ⟨by omega, by omega⟩⟩) ?_
                refine aw_if_le cx 212 214 dX5_sieved_209 rfl (by decide) (zz_cmp_r _ _) (fun c209 => ?_) (fun c209 => ?_)
                · rw [zz_cmp_le] at c209
                  have G2 : sv n k0 l m = sv3 n k0 m ((n - 1 - (2 * k0 + (n - 1) * (l - m)).tdiv v73).tdiv 2) ((n - 1 + (2 * k0 + (n - 1) * (l - m)).tdiv v73).tdiv 2) := by
                    rw [G]
                    unfold sv2
                    rw [if_neg (by
                      rintro (a | a)
                      · exact c170 a
                      · have a2 : _ < _ := a
                        rw [bb_c] at a2
                        omega)]
                  refine aw_iload_n cx 215 dX5_sieved_214 rfl rfl ?_
                  refine aw_iconst cx 216 dX5_sieved_215 rfl ?_
                  refine aw_isub cx 217 dX5_sieved_216 rfl ?_
                  refine aw_iload cx 219 dX5_sieved_217 rfl rfl ?_
                  refine aw_iload cx 221 dX5_sieved_219 rfl rfl ?_
                  refine aw_idiv cx 222 dX5_sieved_221 rfl ⟨⟨by omega, by omega⟩, ⟨by omega, by omega⟩, by omega⟩ ?_
                  refine aw_isub cx 223 dX5_sieved_222 rfl ?_
                  refine aw_iconst cx 224 dX5_sieved_223 rfl ?_
                  refine aw_idiv cx 225 dX5_sieved_224 rfl ⟨⟨by omega, by omega⟩, ⟨by omega, by omega⟩, by omega⟩ ?_
                  refine aw_istore cx 227 dX5_sieved_225 rfl ⟨Nat.le_of_ble_eq_true rfl, Nat.le_of_ble_eq_true rfl⟩ rfl ?_
                  dsimp only [List.set]
                  refine aw_iload_n cx 228 dX5_sieved_227 rfl rfl ?_
                  refine aw_iconst cx 229 dX5_sieved_228 rfl ?_
                  refine aw_isub cx 230 dX5_sieved_229 rfl ?_
                  refine aw_iload cx 232 dX5_sieved_230 rfl rfl ?_
                  refine aw_iload cx 234 dX5_sieved_232 rfl rfl ?_
                  refine aw_idiv cx 235 dX5_sieved_234 rfl ⟨⟨by omega, by omega⟩, ⟨by omega, by omega⟩, by omega⟩ ?_
                  refine aw_iadd cx 236 dX5_sieved_235 rfl ?_
                  refine aw_iconst cx 237 dX5_sieved_236 rfl ?_
                  refine aw_idiv cx 238 dX5_sieved_237 rfl ⟨⟨by omega, by omega⟩, ⟨by omega, by omega⟩, by omega⟩ ?_
                  refine aw_istore cx 240 dX5_sieved_238 rfl ⟨Nat.le_of_ble_eq_true rfl, Nat.le_of_ble_eq_true rfl⟩ rfl ?_
                  dsimp only [List.set]
                  refine aw_iload_n cx 241 dX5_sieved_240 rfl rfl ?_
                  refine aw_if_le cx 244 279 dX5_sieved_241 rfl (by decide) ⟨by omega, by omega⟩ (fun c241 => ?_) (fun c241 => ?_)
                  · refine aw_iconst cx 280 dX5_sieved_279 rfl ?_
                    refine aw_ireturn cx dX5_sieved_280 ?_
                    refine hRet _ _ True.intro rfl ?_
                    exact k _ (by rw [G2]; unfold sv3; first | rw [if_pos (by omega)] | rw [if_neg (by omega)])
                  · refine aw_iload_n cx 245 dX5_sieved_244 rfl rfl ?_
                    refine aw_iload_n cx 246 dX5_sieved_245 rfl rfl ?_
                    refine aw_icmp_ge cx 249 279 dX5_sieved_246 rfl (by decide) ⟨⟨by omega, by omega⟩, ⟨by omega, by omega⟩⟩ (fun c246 => ?_) (fun c246 => ?_)
                    · refine aw_iconst cx 280 dX5_sieved_279 rfl ?_
                      refine aw_ireturn cx dX5_sieved_280 ?_
                      refine hRet _ _ True.intro rfl ?_
                      exact k _ (by rw [G2]; unfold sv3; first | rw [if_pos (by omega)] | rw [if_neg (by omega)])
                    · refine aw_iconst cx 250 dX5_sieved_249 rfl ?_
                      refine aw_iload_n cx 251 dX5_sieved_250 rfl rfl ?_
                      refine aw_imul cx 252 dX5_sieved_251 rfl ?_
                      refine aw_iload cx 254 dX5_sieved_252 rfl rfl ?_
                      refine aw_iload cx 256 dX5_sieved_254 rfl rfl ?_
                      refine aw_iconst cx 257 dX5_sieved_256 rfl ?_
                      refine aw_iadd cx 258 dX5_sieved_257 rfl ?_
                      refine aw_imul cx 259 dX5_sieved_258 rfl ?_
                      refine aw_icmp_gt cx 262 275 dX5_sieved_259 rfl (by decide) ⟨⟨by omega, by omega⟩, ⟨by omega, by omega⟩⟩ (fun c259 => ?_) (fun c259 => ?_)
                      · refine aw_iconst cx 276 dX5_sieved_275 rfl ?_
                        refine aw_goto cx 280 dX5_sieved_276 (by decide) ?_
                        refine aw_ireturn cx dX5_sieved_280 ?_
                        refine hRet _ _ True.intro rfl ?_
                        exact k _ (by rw [G2]; unfold sv3; first | rw [if_pos (by omega)] | rw [if_neg (by omega)])
                      · refine aw_iconst cx 263 dX5_sieved_262 rfl ?_
                        refine aw_iload_n cx 264 dX5_sieved_263 rfl rfl ?_
                        refine aw_imul cx 265 dX5_sieved_264 rfl ?_
                        refine aw_iload cx 267 dX5_sieved_265 rfl rfl ?_
                        refine aw_iload cx 269 dX5_sieved_267 rfl rfl ?_
                        refine aw_iconst cx 270 dX5_sieved_269 rfl ?_
                        refine aw_iadd cx 271 dX5_sieved_270 rfl ?_
                        refine aw_imul cx 272 dX5_sieved_271 rfl ?_
                        refine aw_icmp_le cx 275 279 dX5_sieved_272 rfl (by decide) ⟨⟨by omega, by omega⟩, ⟨by omega, by omega⟩⟩ (fun c272 => ?_) (fun c272 => ?_)
                        · refine aw_iconst cx 280 dX5_sieved_279 rfl ?_
                          refine aw_ireturn cx dX5_sieved_280 ?_
                          refine hRet _ _ True.intro rfl ?_
                          exact k _ (by rw [G2]; unfold sv3; first | rw [if_pos (by omega)] | rw [if_neg (by omega)])
                        · refine aw_iconst cx 276 dX5_sieved_275 rfl ?_
                          refine aw_goto cx 280 dX5_sieved_276 (by decide) ?_
                          refine aw_ireturn cx dX5_sieved_280 ?_
                          refine hRet _ _ True.intro rfl ?_
                          exact k _ (by rw [G2]; unfold sv3; first | rw [if_pos (by omega)] | rw [if_neg (by omega)])
                · rw [zz_cmp_le] at c209
                  refine aw_iconst cx 213 dX5_sieved_212 rfl ?_
                  refine aw_ireturn cx dX5_sieved_213 ?_
                  refine hRet _ _ True.intro rfl ?_
                  exact k _ (by rw [G]; unfold sv2; rw [if_pos (by first | exact Or.inl (by show _ < _; omega) | exact Or.inr (by show _ < _; rw [bb_c]; omega))])
            · refine aw_iconst cx 111 dX5_sieved_110 rfl ?_
              refine aw_ireturn cx dX5_sieved_111 ?_
              refine hRet _ _ True.intro rfl ?_
              first
              | exact k _ (by unfold sv; rw [if_neg (fun q => q c14), if_neg (by show ¬ ((l - m) * (l - m) + 4 * (k0 - m) = 0); omega), if_neg (by show ¬ (2 * k0 + (n - 1) * (l - m) = 0); omega), if_pos (Or.inl (by show rt ((l - m) * (l - m) + 4 * (k0 - m)) * rt ((l - m) * (l - m) + 4 * (k0 - m)) ≠ (l - m) * (l - m) + 4 * (k0 - m); rw [← e73]; exact c85))])
              | exact k _ (by unfold sv; rw [if_neg (fun q => q c14), if_neg (by show ¬ ((l - m) * (l - m) + 4 * (k0 - m) = 0); omega), if_neg (by show ¬ (2 * k0 + (n - 1) * (l - m) = 0); omega), if_pos (Or.inr (Or.inl (by show (2 * k0 + (n - 1) * (l - m)).tmod (rt ((l - m) * (l - m) + 4 * (k0 - m))) ≠ 0; rw [← e73]; exact c93)))])
              | exact k _ (by unfold sv; rw [if_neg (fun q => q c14), if_neg (by show ¬ ((l - m) * (l - m) + 4 * (k0 - m) = 0); omega), if_neg (by show ¬ (2 * k0 + (n - 1) * (l - m) = 0); omega), if_pos (Or.inr (Or.inr (by show (n - 1 + (2 * k0 + (n - 1) * (l - m)).tdiv (rt ((l - m) * (l - m) + 4 * (k0 - m)))).tmod 2 ≠ 0; rw [← e73]; exact c107)))])
      · refine aw_iload_n cx 60 dX5_sieved_59 rfl rfl ?_
        refine aw_iconst cx 61 dX5_sieved_60 rfl ?_
        refine aw_iremN cx 62 dX5_sieved_61 rfl ⟨by omega, by omega, by omega, by omega⟩ ?_
        refine aw_if_ne cx 65 69 dX5_sieved_62 rfl (by decide) ⟨by omega, by omega⟩ (fun c62 => ?_) (fun c62 => ?_)
        · refine aw_iconst cx 70 dX5_sieved_69 rfl ?_
          refine aw_ireturn cx dX5_sieved_70 ?_
          refine hRet _ _ True.intro rfl ?_
          exact k _ (by unfold sv; rw [if_neg (fun q => q c14), if_neg (by show ¬ ((l - m) * (l - m) + 4 * (k0 - m) = 0); omega), if_pos (by show 2 * k0 + (n - 1) * (l - m) = 0; omega)]; first | rw [if_pos (by omega)] | rw [if_neg (by omega)])
        · refine aw_iconst cx 66 dX5_sieved_65 rfl ?_
          refine aw_goto cx 70 dX5_sieved_66 (by decide) ?_
          refine aw_ireturn cx dX5_sieved_70 ?_
          refine hRet _ _ True.intro rfl ?_
          exact k _ (by unfold sv; rw [if_neg (fun q => q c14), if_neg (by show ¬ ((l - m) * (l - m) + 4 * (k0 - m) = 0); omega), if_pos (by show 2 * k0 + (n - 1) * (l - m) = 0; omega)]; first | rw [if_pos (by omega)] | rw [if_neg (by omega)])
    · refine aw_iconst cx 53 dX5_sieved_52 rfl ?_
      refine aw_ireturn cx dX5_sieved_53 ?_
      refine hRet _ _ True.intro rfl ?_
      exact k _ (by unfold sv; rw [if_neg (fun q => q c14), if_pos (by show (l - m) * (l - m) + 4 * (k0 - m) = 0; omega)])
  · refine aw_iconst cx 18 dX5_sieved_17 rfl ?_
    refine aw_ireturn cx dX5_sieved_18 ?_
    refine hRet _ _ True.intro rfl ?_
    exact k _ (by unfold sv; rw [if_pos c14])
end
section
/-! quotients -/
theorem zi_ind {α : Type} {f : Int → α → α} {s : α} (P : Int → α → Prop) (h0 : P 0 s) (hs : ∀ i, 0 ≤ i → P i (zi f s i) → P (i + 1) (zi f s (i + 1))) : ∀ m, 0 ≤ m → P m (zi f s m) := by
  have key : ∀ k : Nat, P (k : Int) (zi f s (k : Int)) := by
    intro k
    induction k with
    | zero => exact h0
    | succ k ih =>
      have h1 : ((k + 1 : Nat) : Int) = (k : Int) + 1 := by omega
      rw [h1]
      exact hs _ (by omega) ih
  intro m hm
  have := key m.toNat
  rwa [Int.toNat_of_nonneg hm] at this
theorem cn_pos {n : Int} {g : Gr} {a b e : Int} (he : 0 ≤ e ∧ e < n) : 0 < cn n g a b (g a e) (g e b) := by
  have := zi_inv (f := fun x s => if g a x = g a e ∧ g x b = g e b then s + 1 else s) (s := 0) (P := fun m s => 0 ≤ s ∧ (e < m → 0 < s)) (n := n) (by omega) ⟨Int.le_refl _, fun h => by omega⟩ (fun i r i0 i1 ⟨h1, h2⟩ => by
    by_cases q : g a i = g a e ∧ g i b = g e b
    · rw [if_pos q]
      exact ⟨by omega, fun _ => by omega⟩
    · rw [if_neg q]
      refine ⟨h1, fun h => ?_⟩
      by_cases e2 : e = i
      · subst e2
        exact absurd ⟨rfl, rfl⟩ q
      · exact h2 (by omega))
  exact this.2 he.2
/-- how many points e have (a, e) i -/
def dgq (g : Gr) (a i m : Int) : Int := zi (fun e s => if g a e = i then s + 1 else s) 0 m
theorem dgq_s {g : Gr} {a i m : Int} (h : 0 ≤ m) : dgq g a i (m + 1) = if g a m = i then dgq g a i m + 1 else dgq g a i m := zi_s _ _ h
/-- how many points are joined to a -/
def snb (S : Int) (g : Gr) (a m : Int) : Int := zi (fun e s => if bm S (g a e) then s + 1 else s) 0 m
theorem snb_s {S : Int} {g : Gr} {a m : Int} (h : 0 ≤ m) : snb S g a (m + 1) = if bm S (g a m) then snb S g a m + 1 else snb S g a m := zi_s _ _ h
theorem five {c : Int} (h : 0 ≤ c ∧ c ≤ 4) : c = 0 ∨ c = 1 ∨ c = 2 ∨ c = 3 ∨ c = 4 := by omega
theorem dgq_cn {n : Int} {g : Gr} (hg : rgn n g) {a i : Int} (ha : 0 ≤ a ∧ a < n) : ∀ k : Nat, (k : Int) ≤ n → dgq g a i k = cn k g a a i 0 + cn k g a a i 1 + cn k g a a i 2 + cn k g a a i 3 + cn k g a a i 4 := by
  intro k
  induction k with
  | zero => intro _; rfl
  | succ k ih =>
    intro hk
    have h1 : ((k + 1 : Nat) : Int) = (k : Int) + 1 := by omega
    have ih := ih (by omega)
    rw [h1, dgq_s (by omega), cn_s (by omega), cn_s (by omega), cn_s (by omega), cn_s (by omega), cn_s (by omega)]
    have h2 := hg k a (by omega) (by omega) ha.1 ha.2
    by_cases e : g a k = i
    · rw [if_pos e]
      rcases five h2 with h | h | h | h | h <;> rw [h] <;> simp only [e, true_and] <;> simp <;> omega
    · rw [if_neg e]
      simp only [e, false_and, if_false]
      exact ih
def tI (S : Int) (g : Gr) (a m i : Int) : Int := if bm S i then dgq g a i m else 0
theorem snb_tI {n S : Int} {g : Gr} (hg : rgn n g) {a : Int} (ha : 0 ≤ a ∧ a < n) : ∀ k : Nat, (k : Int) ≤ n → snb S g a k = tI S g a k 0 + tI S g a k 1 + tI S g a k 2 + tI S g a k 3 + tI S g a k 4 := by
  have st : ∀ m i, 0 ≤ m → tI S g a (m + 1) i = tI S g a m i + (if g a m = i then (if bm S i then 1 else 0) else 0) := by
    intro m i hm
    unfold tI
    rw [dgq_s hm]
    split <;> split <;> omega
  intro k
  induction k with
  | zero =>
    intro _
    have z : ∀ i, tI S g a 0 i = 0 := fun i => by
      unfold tI
      split <;> rfl
    show (0 : Int) = tI S g a 0 0 + tI S g a 0 1 + tI S g a 0 2 + tI S g a 0 3 + tI S g a 0 4
    rw [z, z, z, z, z]
    rfl
  | succ k ih =>
    intro hk
    have h1 : ((k + 1 : Nat) : Int) = (k : Int) + 1 := by omega
    have ih := ih (by omega)
    rw [h1, snb_s (by omega), st _ _ (by omega), st _ _ (by omega), st _ _ (by omega), st _ _ (by omega), st _ _ (by omega)]
    have h2 := hg a k ha.1 ha.2 (by omega) (by omega)
    rcases five h2 with h | h | h | h | h <;> rw [h] <;> simp <;> split <;> omega
/-- an even colouring -/
def evn (n : Int) (g : Gr) : Prop := (1 ≤ n ∧ n ≤ 8) ∧ rgn n g ∧ fl n g = 0
def cld (n : Int) (g : Gr) (S : Int) : Prop := (0 ≤ S ∧ S < 32) ∧ gw n g S = S
theorem ev_deg {n : Int} {g : Gr} (h : evn n g) {a i : Int} (ha : 0 ≤ a ∧ a < n) (hi : 0 ≤ i ∧ i ≤ 4) : dgq g a i n = dgq g 0 i n := by
  obtain ⟨hn, hg, hf⟩ := h
  obtain ⟨f1, f2, f3, f4⟩ := fl_z (by omega) hf
  have h1 := dgq_cn hg (i := i) ha n.toNat (by omega)
  have h2 := dgq_cn hg (a := 0) (i := i) ⟨by omega, by omega⟩ n.toNat (by omega)
  rw [Int.toNat_of_nonneg (by omega)] at h1 h2
  have z1 : g a a = 0 := (f1 a a ha.1 ha.2 ha.1 ha.2).mpr rfl
  have z2 : g 0 0 = 0 := (f1 0 0 (by omega) (by omega) (by omega) (by omega)).mpr rfl
  have key : ∀ j, 0 ≤ j → j < 5 → cn n g a a i j = cn n g 0 0 i j := by
    intro j j0 j1
    rw [f4 a a ha.1 ha.2 ha.1 ha.2 i j hi.1 (by omega) j0 j1, f4 0 0 (by omega) (by omega) (by omega) (by omega) i j hi.1 (by omega) j0 j1, z1, z2]
  rw [h1, h2, key 0 (by decide) (by decide), key 1 (by decide) (by decide), key 2 (by decide) (by decide), key 3 (by decide) (by decide), key 4 (by decide) (by decide)]
theorem ev_snb {n S : Int} {g : Gr} (h : evn n g) {a : Int} (ha : 0 ≤ a ∧ a < n) : snb S g a n = snb S g 0 n := by
  have hg := h.2.1
  have hn := h.1
  have h1 := snb_tI (S := S) hg ha n.toNat (by omega)
  have h2 := snb_tI (S := S) hg (a := 0) ⟨by omega, by omega⟩ n.toNat (by omega)
  rw [Int.toNat_of_nonneg (by omega)] at h1 h2
  have key : ∀ i, 0 ≤ i → i ≤ 4 → tI S g a n i = tI S g 0 n i := by
    intro i i0 i1
    unfold tI
    rw [ev_deg h ha ⟨i0, i1⟩]
  rw [h1, h2, key 0 (by decide) (by decide), key 1 (by decide) (by decide), key 2 (by decide) (by decide), key 3 (by decide) (by decide), key 4 (by decide) (by decide)]
def cntP (p : Int → Prop) [DecidablePred p] (m : Int) : Int := zi (fun e s => if p e then s + 1 else s) 0 m
theorem cntP_s {p : Int → Prop} [DecidablePred p] {m : Int} (h : 0 ≤ m) : cntP p (m + 1) = if p m then cntP p m + 1 else cntP p m := zi_s _ _ h
theorem cntP_sub {p q : Int → Prop} [DecidablePred p] [DecidablePred q] : ∀ k : Nat, (∀ e, 0 ≤ e → e < (k : Int) → q e → p e) → cntP q k ≤ cntP p k ∧ (cntP q k = cntP p k → ∀ e, 0 ≤ e → e < (k : Int) → p e → q e) := by
  intro k
  induction k with
  | zero => intro _; exact ⟨Int.le_refl _, fun _ e e0 e1 => by omega⟩
  | succ k ih =>
    intro h
    have h1 : ((k + 1 : Nat) : Int) = (k : Int) + 1 := by omega
    obtain ⟨h2, h3⟩ := ih (fun e e0 e1 => h e e0 (by omega))
    have h4 := h k (by omega) (by omega)
    rw [h1, cntP_s (by omega), cntP_s (by omega)]
    by_cases q1 : q k
    · rw [if_pos q1, if_pos (h4 q1)]
      refine ⟨by omega, fun hh e e0 e1 e2 => ?_⟩
      by_cases ek : e = k
      · rw [ek]; exact q1
      · exact h3 (by omega) e e0 (by omega) e2
    · rw [if_neg q1]
      by_cases q2 : p k
      · rw [if_pos q2]
        exact ⟨by omega, fun hh => by omega⟩
      · rw [if_neg q2]
        refine ⟨h2, fun hh e e0 e1 e2 => ?_⟩
        by_cases ek : e = k
        · rw [ek] at e2; exact absurd e2 q2
        · exact h3 hh e e0 (by omega) e2
theorem snb_sub {S : Int} {g : Gr} {a b : Int} {m : Int} (hm : 0 ≤ m) (h : ∀ e, 0 ≤ e → e < m → bm S (g b e) → bm S (g a e)) (hc : snb S g b m = snb S g a m) : ∀ e, 0 ≤ e → e < m → bm S (g a e) → bm S (g b e) := by
  have key := cntP_sub (p := fun e => bm S (g a e)) (q := fun e => bm S (g b e)) m.toNat
  rw [Int.toNat_of_nonneg hm] at key
  exact (key h).2 hc
theorem E_refl {n S : Int} {g : Gr} (h : evn n g) (hS : cld n g S) {a : Int} (ha : 0 ≤ a ∧ a < n) : bm S (g a a) := by
  obtain ⟨hn, hg, hf⟩ := h
  obtain ⟨f1, f2, f3, f4⟩ := fl_z (by omega) hf
  rw [(f1 a a ha.1 ha.2 ha.1 ha.2).mpr rfl]
  exact ((cl_iff (rk_b (by omega) hg) hS.1).mp hS.2).1
theorem E_trans {n S : Int} {g : Gr} (h : evn n g) (hS : cld n g S) {a b e : Int} (ha : 0 ≤ a ∧ a < n) (hb : 0 ≤ b ∧ b < n) (he : 0 ≤ e ∧ e < n) (h1 : bm S (g a e)) (h2 : bm S (g e b)) : bm S (g a b) := by
  obtain ⟨hn, hg, hf⟩ := h
  obtain ⟨f1, f2, f3, f4⟩ := fl_z (by omega) hf
  have g1 := hg a e ha.1 ha.2 he.1 he.2
  have g2 := hg e b he.1 he.2 hb.1 hb.2
  have g3 := hg a b ha.1 ha.2 hb.1 hb.2
  have h3 := cn_pos (n := n) (g := g) (a := a) (b := b) he
  rw [f4 a b ha.1 ha.2 hb.1 hb.2 _ _ g1.1 (by omega) g2.1 (by omega)] at h3
  exact ((cl_iff (rk_b (by omega) hg) hS.1).mp hS.2).2 _ g3.1 (by omega) ⟨rk_gt (by omega) ha hb, _, _, ⟨g1.1, rk_gt (by omega) ha he⟩, ⟨g2.1, rk_gt (by omega) he hb⟩, h1, h2, h3⟩
theorem E_sym {n S : Int} {g : Gr} (h : evn n g) (hS : cld n g S) {a b : Int} (ha : 0 ≤ a ∧ a < n) (hb : 0 ≤ b ∧ b < n) (h1 : bm S (g a b)) : bm S (g b a) := by
  have hn := h.1
  exact snb_sub (S := S) (g := g) (a := a) (b := b) (m := n) (by omega) (fun e e0 e1 h2 => E_trans h hS ha ⟨e0, e1⟩ hb h1 h2) (by rw [ev_snb h ha, ev_snb h hb]) a ha.1 ha.2 (E_refl h hS ha)
/-! blocks -/
def bv (g : Gr) (S : Int) (B : Int → Int) (z b m : Int) : Int := zi (fun a v => if bm S (g a b) then B a else v) z m
theorem bv_s {g : Gr} {S z b m : Int} {B : Int → Int} (h : 0 ≤ m) : bv g S B z b (m + 1) = if bm S (g m b) then B m else bv g S B z b m := zi_s _ _ h
abbrev BS : Type := (Int → Int) × Int
def bstep (g : Gr) (S : Int) (b : Int) (st : BS) : BS := (zz_up st.1 b (bv g S st.1 st.2 b b), if bv g S st.1 st.2 b b = st.2 then st.2 + 1 else st.2)
def bst (g : Gr) (S m : Int) : BS := zi (bstep g S) ((fun _ => 0, 0) : BS) m
theorem bst_s {g : Gr} {S m : Int} (h : 0 ≤ m) : bst g S (m + 1) = bstep g S m (bst g S m) := zi_s _ _ h
theorem bv_c {g : Gr} {S z b : Int} {B : Int → Int} : ∀ m, 0 ≤ m → ((∀ a, 0 ≤ a → a < m → ¬ bm S (g a b)) ∧ bv g S B z b m = z) ∨ ∃ a, 0 ≤ a ∧ a < m ∧ bm S (g a b) ∧ bv g S B z b m = B a := by
  refine zi_ind (P := fun m v => ((∀ a, 0 ≤ a → a < m → ¬ bm S (g a b)) ∧ v = z) ∨ ∃ a, 0 ≤ a ∧ a < m ∧ bm S (g a b) ∧ v = B a) (Or.inl ⟨fun a a0 a1 => by omega, rfl⟩) (fun i i0 h => ?_)
  rw [zi_s _ _ i0]
  by_cases e : bm S (g i b)
  · rw [if_pos e]
    exact Or.inr ⟨i, i0, by omega, e, rfl⟩
  · rw [if_neg e]
    rcases h with ⟨h1, h2⟩ | ⟨a, a0, a1, a2, a3⟩
    · refine Or.inl ⟨fun a a0 a1 => ?_, h2⟩
      by_cases ea : a = i
      · rw [ea]; exact e
      · exact h1 a a0 (by omega)
    · exact Or.inr ⟨a, a0, by omega, a2, a3⟩
/-- what is known of the blocks of the first b points -/
def BI (b : Int) (st : BS) : Prop := (0 ≤ st.2 ∧ st.2 ≤ b) ∧ (∀ x, 0 ≤ x → x < b → 0 ≤ st.1 x ∧ st.1 x < st.2) ∧ ∀ p, 0 ≤ p → p < st.2 → ∃ x, 0 ≤ x ∧ x < b ∧ st.1 x = p
theorem BI_v {g : Gr} {S b : Int} {st : BS} (hb : 0 ≤ b) (h : BI b st) {m : Int} (hm : 0 ≤ m ∧ m ≤ b) : 0 ≤ bv g S st.1 st.2 b m ∧ bv g S st.1 st.2 b m ≤ st.2 := by
  obtain ⟨h1, h2, -⟩ := h
  rcases bv_c (g := g) (S := S) (z := st.2) (b := b) (B := st.1) m hm.1 with ⟨-, q⟩ | ⟨a, a0, a1, -, q⟩
  · omega
  · have := h2 a a0 (by omega)
    omega
theorem BI_all {g : Gr} {S : Int} : ∀ b, 0 ≤ b → BI b (bst g S b) := by
  refine zi_ind (P := fun b st => BI b st) ⟨⟨by decide, by decide⟩, fun x a b => by omega, fun p a b => by
    have b' : p < 0 := b
    omega⟩ (fun b hb h => ?_)
  have hs : zi (bstep g S) ((fun _ => 0, 0) : BS) (b + 1) = bstep g S b (zi (bstep g S) ((fun _ => 0, 0) : BS) b) := zi_s _ _ hb
  rw [hs]
  generalize zi (bstep g S) ((fun _ => 0, 0) : BS) b = st at h ⊢
  have hv := BI_v (g := g) (S := S) hb h ⟨hb, Int.le_refl _⟩
  obtain ⟨h1, h2, h3⟩ := h
  unfold bstep
  generalize bv g S st.1 st.2 b b = v at hv ⊢
  refine ⟨?_, fun x x0 x1 => ?_, fun p p0 p1 => ?_⟩
  · show 0 ≤ (if v = st.2 then st.2 + 1 else st.2) ∧ (if v = st.2 then st.2 + 1 else st.2) ≤ b + 1
    split <;> omega
  · show 0 ≤ zz_up st.1 b v x ∧ zz_up st.1 b v x < (if v = st.2 then st.2 + 1 else st.2)
    unfold zz_up
    by_cases e : x = b
    · rw [if_pos e]
      split <;> omega
    · rw [if_neg e]
      have := h2 x x0 (by omega)
      split <;> omega
  · have p1' : p < (if v = st.2 then st.2 + 1 else st.2) := p1
    by_cases e : p < st.2
    · obtain ⟨x, x0, x1, x2⟩ := h3 p p0 e
      refine ⟨x, x0, by omega, ?_⟩
      show zz_up st.1 b v x = p
      rw [zz_up_n _ _ (by omega)]
      exact x2
    · refine ⟨b, hb, by omega, ?_⟩
      show zz_up st.1 b v b = p
      rw [zz_up_s]
      split at p1' <;> omega
/-- joined points lie in one block -/
theorem bst_E {n S : Int} {g : Gr} (h : evn n g) (hS : cld n g S) : ∀ k : Nat, (k : Int) ≤ n → ∀ x y, 0 ≤ x → x < (k : Int) → 0 ≤ y → y < (k : Int) → bm S (g x y) → (bst g S k).1 x = (bst g S k).1 y := by
  intro k
  induction k with
  | zero => intro _ x y x0 x1; omega
  | succ k ih =>
    intro hk x y x0 x1 y0 y1 hxy
    have h1 : ((k + 1 : Nat) : Int) = (k : Int) + 1 := by omega
    have ih := ih (by omega)
    rw [h1] at x1 y1 ⊢
    rw [bst_s (by omega)]
    show zz_up (bst g S k).1 k (bv g S (bst g S k).1 (bst g S k).2 k k) x = zz_up (bst g S k).1 k (bv g S (bst g S k).1 (bst g S k).2 k k) y
    have key : ∀ z, 0 ≤ z → z < (k : Int) → bm S (g z k) → bv g S (bst g S k).1 (bst g S k).2 k k = (bst g S k).1 z := by
      intro z z0 z1 hz
      rcases bv_c (g := g) (S := S) (z := (bst g S k).2) (b := k) (B := (bst g S k).1) k (by omega) with ⟨q, -⟩ | ⟨a, a0, a1, a2, q⟩
      · exact absurd hz (q z z0 z1)
      · rw [q]
        exact (ih z a z0 z1 a0 a1 (E_trans h hS ⟨z0, by omega⟩ ⟨a0, by omega⟩ ⟨by omega, by omega⟩ hz (E_sym h hS ⟨a0, by omega⟩ ⟨by omega, by omega⟩ a2))).symm
    by_cases ex : x = k
    · by_cases ey : y = k
      · rw [ex, ey]
      · rw [ex, zz_up_s, zz_up_n _ _ ey]
        rw [ex] at hxy
        exact key y y0 (by omega) (E_sym h hS ⟨by omega, by omega⟩ ⟨by omega, by omega⟩ hxy)
    · by_cases ey : y = k
      · rw [ey, zz_up_s, zz_up_n _ _ ex]
        rw [ey] at hxy
        exact (key x x0 (by omega) hxy).symm
      · rw [zz_up_n _ _ ex, zz_up_n _ _ ey]
        exact ih x y x0 (by omega) y0 (by omega) hxy
/-- the first joined point gives the block as well as the last -/
theorem bv_first {n S : Int} {g : Gr} (h : evn n g) (hS : cld n g S) {b v : Int} (hb : 0 ≤ b ∧ b < n) (hv : ((∀ a, 0 ≤ a → a < b → ¬ bm S (g a b)) ∧ v = (bst g S b).2) ∨ ∃ a, 0 ≤ a ∧ a < b ∧ bm S (g a b) ∧ v = (bst g S b).1 a) : v = bv g S (bst g S b).1 (bst g S b).2 b b := by
  rcases bv_c (g := g) (S := S) (z := (bst g S b).2) (b := b) (B := (bst g S b).1) b hb.1 with ⟨q, q2⟩ | ⟨c, c0, c1, c2, q⟩
  · rw [q2]
    rcases hv with ⟨-, h2⟩ | ⟨a, a0, a1, a2, -⟩
    · exact h2
    · exact absurd a2 (q a a0 a1)
  · rw [q]
    rcases hv with ⟨h2, -⟩ | ⟨a, a0, a1, a2, a3⟩
    · exact absurd c2 (h2 c c0 c1)
    · rw [a3]
      have := bst_E h hS b.toNat (by omega) a c
      rw [Int.toNat_of_nonneg hb.1] at this
      exact this a0 a1 c0 c1 (E_trans h hS ⟨a0, by omega⟩ ⟨c0, by omega⟩ hb a2 (E_sym h hS ⟨c0, by omega⟩ hb c2))
/-! colours that are one -/
def r1 (n : Int) (g : Gr) (B : Int → Int) (x y : Int) : Prop := ∃ a b c d, (0 ≤ a ∧ a < n) ∧ (0 ≤ b ∧ b < n) ∧ (0 ≤ c ∧ c < n) ∧ (0 ≤ d ∧ d < n) ∧ B a = B c ∧ B b = B d ∧ g a b = x ∧ g c d = y
def rr (n : Int) (g : Gr) (B : Int → Int) (x y : Int) : Prop := ∀ P : Int → Prop, P x → (∀ u v, r1 n g B u v → P u → P v) → P y
section
variable {n : Int} {g : Gr} {B : Int → Int}
theorem r1_sym {x y : Int} (h : r1 n g B x y) : r1 n g B y x := by
  obtain ⟨a, b, c, d, h1, h2, h3, h4, h5, h6, h7, h8⟩ := h
  exact ⟨c, d, a, b, h3, h4, h1, h2, h5.symm, h6.symm, h8, h7⟩
theorem rr_refl (x : Int) : rr n g B x x := fun P h _ => h
theorem rr_r1 {x y : Int} (h : r1 n g B x y) : rr n g B x y := fun P h1 h2 => h2 x y h h1
theorem rr_trans {x y z : Int} (h1 : rr n g B x y) (h2 : rr n g B y z) : rr n g B x z := fun P p q => h2 P (h1 P p q) q
theorem rr_sym {x y : Int} (h : rr n g B x y) : rr n g B y x := h (fun z => rr n g B z x) (rr_refl x) (fun u v huv hu => rr_trans (rr_r1 (r1_sym huv)) hu)
end
noncomputable def kM (n : Int) (g : Gr) (B : Int → Int) (x : Int) : Int := @ite Int (rr n g B x 0) (Classical.propDecidable _) 0 (@ite Int (rr n g B x 1) (Classical.propDecidable _) 1 (@ite Int (rr n g B x 2) (Classical.propDecidable _) 2 (@ite Int (rr n g B x 3) (Classical.propDecidable _) 3 4)))
theorem kM_p (n : Int) (g : Gr) (B : Int → Int) {x : Int} (hx : 0 ≤ x ∧ x ≤ 4) : (0 ≤ kM n g B x ∧ kM n g B x ≤ 4) ∧ rr n g B x (kM n g B x) ∧ ∀ y, 0 ≤ y → y ≤ 4 → rr n g B x y → kM n g B x ≤ y := by
  unfold kM
  by_cases e0 : rr n g B x 0
  · rw [if_pos e0]
    exact ⟨⟨by decide, by decide⟩, e0, fun y y0 _ _ => y0⟩
  rw [if_neg e0]
  by_cases e1 : rr n g B x 1
  · rw [if_pos e1]
    refine ⟨⟨by decide, by decide⟩, e1, fun y y0 y1 hy => ?_⟩
    by_cases q : y = 0
    · rw [q] at hy; exact absurd hy e0
    · omega
  rw [if_neg e1]
  by_cases e2 : rr n g B x 2
  · rw [if_pos e2]
    refine ⟨⟨by decide, by decide⟩, e2, fun y y0 y1 hy => ?_⟩
    by_cases q : y = 0
    · rw [q] at hy; exact absurd hy e0
    by_cases q : y = 1
    · rw [q] at hy; exact absurd hy e1
    · omega
  rw [if_neg e2]
  by_cases e3 : rr n g B x 3
  · rw [if_pos e3]
    refine ⟨⟨by decide, by decide⟩, e3, fun y y0 y1 hy => ?_⟩
    by_cases q : y = 0
    · rw [q] at hy; exact absurd hy e0
    by_cases q : y = 1
    · rw [q] at hy; exact absurd hy e1
    by_cases q : y = 2
    · rw [q] at hy; exact absurd hy e2
    · omega
  rw [if_neg e3]
  have key : ∀ y, 0 ≤ y → y ≤ 4 → rr n g B x y → y = 4 := by
    intro y y0 y1 hy
    by_cases q : y = 0
    · rw [q] at hy; exact absurd hy e0
    by_cases q : y = 1
    · rw [q] at hy; exact absurd hy e1
    by_cases q : y = 2
    · rw [q] at hy; exact absurd hy e2
    by_cases q : y = 3
    · rw [q] at hy; exact absurd hy e3
    · omega
  have h4 := key x hx.1 hx.2 (rr_refl x)
  refine ⟨⟨by decide, by decide⟩, by rw [h4]; exact rr_refl 4, fun y y0 y1 hy => ?_⟩
  rw [key y y0 y1 hy]
  decide
theorem kM_rr {n : Int} {g : Gr} {B : Int → Int} {x y : Int} (hx : 0 ≤ x ∧ x ≤ 4) (hy : 0 ≤ y ∧ y ≤ 4) (h : rr n g B x y) : kM n g B x = kM n g B y := by
  obtain ⟨a1, a2, a3⟩ := kM_p n g B hx
  obtain ⟨b1, b2, b3⟩ := kM_p n g B hy
  have h1 := a3 _ b1.1 b1.2 (rr_trans h b2)
  have h2 := b3 _ a1.1 a1.2 (rr_trans (rr_sym h) a2)
  omega
theorem kM_le {n : Int} {g : Gr} {B : Int → Int} {x : Int} (hx : 0 ≤ x ∧ x ≤ 4) : kM n g B x ≤ x := (kM_p n g B hx).2.2 x hx.1 hx.2 (rr_refl x)
/-- what is known of a row that leads colours to less ones -/
abbrev KI (n : Int) (g : Gr) (B K : Int → Int) : Prop := ∀ x, 0 ≤ x → x < 5 → (0 ≤ K x ∧ K x ≤ x) ∧ rr n g B x (K x)
theorem KI_ge {n : Int} {g : Gr} {B K : Int → Int} (h : KI n g B K) {x : Int} (hx : 0 ≤ x ∧ x < 5) : kM n g B x ≤ K x := by
  obtain ⟨h1, h2⟩ := h x hx.1 hx.2
  exact (kM_p n g B ⟨hx.1, by omega⟩).2.2 _ h1.1 (by omega) h2
theorem KI_u {n : Int} {g : Gr} {B K : Int → Int} (hg : rgn n g) (h : KI n g B K) (hr : ∀ x y, r1 n g B x y → K x = K y) {x : Int} (hx : 0 ≤ x ∧ x < 5) : K x = kM n g B x := by
  obtain ⟨a1, a2, a3⟩ := kM_p n g B (x := x) ⟨hx.1, by omega⟩
  have h1 : K (kM n g B x) = K x := a2 (fun z => K z = K x) rfl (fun u v huv hu => by rw [← hr u v huv]; exact hu)
  have h2 := (h (kM n g B x) a1.1 (by omega)).1.2
  have h3 := KI_ge h hx
  omega
/-- the number of a colour's kind -/
def kN (K : Int → Int) (m : Int) : Int := zi (fun i s => if K i = i then s + 1 else s) 0 m
theorem kN_s {K : Int → Int} {m : Int} (h : 0 ≤ m) : kN K (m + 1) = if K m = m then kN K m + 1 else kN K m := zi_s _ _ h
theorem kN_b {K : Int → Int} {m : Int} (h : 0 ≤ m) : 0 ≤ kN K m ∧ kN K m ≤ m := by
  refine zi_inv (P := fun i r => 0 ≤ r ∧ r ≤ i) h ⟨by decide, by decide⟩ (fun i r i0 i1 h => ?_)
  split <;> omega
theorem kN_congr {K K' : Int → Int} {m : Int} (h : ∀ i, 0 ≤ i → i < m → K i = K' i) : kN K m = kN K' m := zi_congr fun i r i0 i1 => by rw [h i i0 i1]
/-- the quotient's colours -/
noncomputable def qk (n : Int) (g : Gr) (S c : Int) : Int := kN (kM n g (bst g S n).1) (kM n g (bst g S n).1 c)
def qr (g : Gr) (S n p : Int) : Int := sc1 n (fun a => if (bst g S n).1 a = p then a + 1 else 0) - 1
noncomputable def gQ (n : Int) (g : Gr) (S : Int) : Gr := fun p q => qk n g S (g (qr g S n p) (qr g S n q))
def zQ (n : Int) (g : Gr) (S : Int) : Int := (bst g S n).2
theorem qk_b {n : Int} {g : Gr} {S c : Int} (hc : 0 ≤ c ∧ c ≤ 4) : 0 ≤ qk n g S c ∧ qk n g S c ≤ 4 := by
  have h1 := (kM_p n g (bst g S n).1 hc).1
  have h2 := kN_b (K := kM n g (bst g S n).1) h1.1
  unfold qk
  omega
theorem qr_p {n : Int} {g : Gr} {S p : Int} (hn : 0 ≤ n) (hp : 0 ≤ p ∧ p < zQ n g S) : (0 ≤ qr g S n p ∧ qr g S n p < n) ∧ (bst g S n).1 (qr g S n p) = p := by
  obtain ⟨-, -, h3⟩ := BI_all (g := g) (S := S) n hn
  obtain ⟨x, x0, x1, x2⟩ := h3 p hp.1 hp.2
  unfold qr
  have hne : sc1 n (fun a => if (bst g S n).1 a = p then a + 1 else 0) ≠ 0 := by
    intro h
    have := sc1_z hn h x x0 x1
    rw [if_pos x2] at this
    omega
  obtain ⟨b, b0, b1, b2, -⟩ := sc1_ex hn hne
  rw [b2] at hne ⊢
  by_cases e : (bst g S n).1 b = p
  · rw [if_pos e]
    rw [show b + 1 - 1 = b by omega]
    exact ⟨⟨b0, b1⟩, e⟩
  · rw [if_neg e] at hne
    exact absurd rfl hne
theorem zQ_b {n : Int} {g : Gr} {S : Int} (hn : 1 ≤ n ∧ n ≤ 8) : 1 ≤ zQ n g S ∧ zQ n g S ≤ 8 := by
  obtain ⟨h1, h2, -⟩ := BI_all (g := g) (S := S) n (by omega)
  have h3 := h2 0 (by omega) (by omega)
  unfold zQ
  omega
theorem gQ_r {n : Int} {g : Gr} {S : Int} (hn : 1 ≤ n ∧ n ≤ 8) (hg : rgn n g) : rgn (zQ n g S) (gQ n g S) := by
  intro p q p0 p1 q0 q1
  have h1 := qr_p (n := n) (g := g) (S := S) (p := p) (by omega) ⟨p0, p1⟩
  have h2 := qr_p (n := n) (g := g) (S := S) (p := q) (by omega) ⟨q0, q1⟩
  exact qk_b (hg _ _ h1.1.1 h1.1.2 h2.1.1 h2.1.2)
theorem qk_w {n : Int} {g : Gr} {S a b c d : Int} (hg : rgn n g) (ha : 0 ≤ a ∧ a < n) (hb : 0 ≤ b ∧ b < n) (hc : 0 ≤ c ∧ c < n) (hd : 0 ≤ d ∧ d < n) (h1 : (bst g S n).1 a = (bst g S n).1 c) (h2 : (bst g S n).1 b = (bst g S n).1 d) : qk n g S (g a b) = qk n g S (g c d) := by
  have := kM_rr (n := n) (g := g) (B := (bst g S n).1) (hg a b ha.1 ha.2 hb.1 hb.2) (hg c d hc.1 hc.2 hd.1 hd.2) (rr_r1 ⟨a, b, c, d, ha, hb, hc, hd, h1, h2, rfl, rfl⟩)
  unfold qk
  rw [this]
theorem gQ_at {n : Int} {g : Gr} {S a b : Int} (hn : 1 ≤ n ∧ n ≤ 8) (hg : rgn n g) (ha : 0 ≤ a ∧ a < n) (hb : 0 ≤ b ∧ b < n) : gQ n g S ((bst g S n).1 a) ((bst g S n).1 b) = qk n g S (g a b) := by
  obtain ⟨-, h2, -⟩ := BI_all (g := g) (S := S) n (by omega)
  have q1 := qr_p (n := n) (g := g) (S := S) (p := (bst g S n).1 a) (by omega) (h2 a ha.1 ha.2)
  have q2 := qr_p (n := n) (g := g) (S := S) (p := (bst g S n).1 b) (by omega) (h2 b hb.1 hb.2)
  exact qk_w hg q1.1 q2.1 ha hb q1.2 q2.2
/-! rounds of leading colours to less ones -/
noncomputable def ind (p : Prop) : Int := @ite Int p (Classical.propDecidable p) 1 0
theorem ind_b (p : Prop) : 0 ≤ ind p ∧ ind p ≤ 1 := by
  unfold ind
  by_cases e : p
  · rw [if_pos e]; decide
  · rw [if_neg e]; decide
theorem ind_1 {p : Prop} (h : p) : ind p = 1 := if_pos h
theorem ind_0 {p : Prop} (h : ¬ p) : ind p = 0 := if_neg h
theorem ind_le {p q : Prop} (h : p → q) : ind p ≤ ind q := by
  by_cases e : p
  · rw [ind_1 e, ind_1 (h e)]; decide
  · rw [ind_0 e]; exact (ind_b q).1
noncomputable def cd (P : Int → Prop) : Int := ind (P 0) + ind (P 1) + ind (P 2) + ind (P 3) + ind (P 4)
theorem cd_lt {P Q : Int → Prop} (h : ∀ i, 0 ≤ i → i < 5 → P i → Q i) {v : Int} (hv : 0 ≤ v ∧ v < 5) (h1 : Q v) (h2 : ¬ P v) : cd P + 1 ≤ cd Q := by
  have t0 := ind_le (h 0 (by decide) (by decide))
  have t1 := ind_le (h 1 (by decide) (by decide))
  have t2 := ind_le (h 2 (by decide) (by decide))
  have t3 := ind_le (h 3 (by decide) (by decide))
  have t4 := ind_le (h 4 (by decide) (by decide))
  have s1 := ind_1 h1
  have s2 := ind_0 h2
  unfold cd
  rcases five (c := v) ⟨hv.1, by omega⟩ with e | e | e | e | e <;> rw [e] at s1 s2 <;> omega
theorem cd_le (P : Int → Prop) : cd P ≤ 5 := by
  have t0 := ind_b (P 0)
  have t1 := ind_b (P 1)
  have t2 := ind_b (P 2)
  have t3 := ind_b (P 3)
  have t4 := ind_b (P 4)
  unfold cd
  omega
theorem cd_1 {P : Int → Prop} (h : P 0) : 1 ≤ cd P := by
  have t0 := ind_1 h
  have t1 := ind_b (P 1)
  have t2 := ind_b (P 2)
  have t3 := ind_b (P 3)
  have t4 := ind_b (P 4)
  unfold cd
  omega
/-- a round: what was right stays, and each neighbour of what was right gets right -/
theorem rnd {n : Int} {g : Gr} {B K0 K : Int → Int} {r : Int} (hg : rgn n g) (hK0 : KI n g B K0) (h0 : (∀ x, 0 ≤ x → x < 5 → K0 x = kM n g B x) ∨ 1 + r ≤ cd (fun x => K0 x = kM n g B x)) (hs : ∀ x, 0 ≤ x → x < 5 → K0 x = kM n g B x → K x = kM n g B x) (hr : ∀ u v, r1 n g B u v → K0 u = kM n g B u → K v = kM n g B v) :
    (∀ x, 0 ≤ x → x < 5 → K x = kM n g B x) ∨ 1 + (r + 1) ≤ cd (fun x => K x = kM n g B x) := by
  rcases h0 with h0 | h0
  · exact Or.inl fun x x0 x1 => hs x x0 x1 (h0 x x0 x1)
  · by_cases all : ∀ x, 0 ≤ x → x < 5 → K0 x = kM n g B x
    · exact Or.inl fun x x0 x1 => hs x x0 x1 (all x x0 x1)
    · right
      by_cases ex : ∃ v, (0 ≤ v ∧ v < 5) ∧ K v = kM n g B v ∧ ¬ K0 v = kM n g B v
      · obtain ⟨v, hv, h1, h2⟩ := ex
        have := cd_lt (P := fun x => K0 x = kM n g B x) (Q := fun x => K x = kM n g B x) hs hv h1 h2
        omega
      · exfalso
        apply all
        intro x x0 x1
        by_cases ht : K0 x = kM n g B x
        · exact ht
        exfalso
        obtain ⟨a1, a2, a3⟩ := kM_p n g B (x := x) ⟨x0, by omega⟩
        have hl : K0 (kM n g B x) = kM n g B (kM n g B x) := by
          have e := kM_rr (x := x) (y := kM n g B x) ⟨x0, by omega⟩ a1 a2
          have l1 := (hK0 (kM n g B x) a1.1 (by omega)).1.2
          have l2 := KI_ge hK0 (x := kM n g B x) ⟨a1.1, by omega⟩
          omega
        have key : (K0 x = kM n g B x ∨ ¬ (0 ≤ x ∧ x < 5)) := rr_sym a2 (fun z => K0 z = kM n g B z ∨ ¬ (0 ≤ z ∧ z < 5)) (Or.inl hl) (by
          intro u v huv hu
          have hv5 : 0 ≤ v ∧ v < 5 := by
            obtain ⟨a, b, c, d, h1, h2, h3, h4, h5, h6, h7, h8⟩ := huv
            have := hg c d h3.1 h3.2 h4.1 h4.2
            omega
          have hu5 : 0 ≤ u ∧ u < 5 := by
            obtain ⟨a, b, c, d, h1, h2, h3, h4, h5, h6, h7, h8⟩ := huv
            have := hg a b h1.1 h1.2 h2.1 h2.2
            omega
          rcases hu with hu | hu
          · have h1 := hr u v huv hu
            by_cases q : K0 v = kM n g B v
            · exact Or.inl q
            · exact absurd ⟨v, hv5, h1, q⟩ ex
          · exact absurd hu5 hu)
        rcases key with q | q
        · exact ht q
        · exact q ⟨x0, x1⟩
end
section
/-! Division: the object w and its rows w + 1 .. w + 3 -/
abbrev cDiv (w : Nat) (z : Int) : AC := cO 1 [vR (w + 1), vR (w + 2), vR (w + 3), vI z]
def hdiv (h : AH) (w : Nat) (B L Be : Int → Int) (z : Int) : AH := zz_put (zz_put (zz_put (zz_put h w (cDiv w z)) (w + 1) (cA 8 B)) (w + 2) (cA 5 L)) (w + 3) (cA 64 Be)
section
variable {h : AH} {w : Nat} {B L Be B' L' Be' : Int → Int} {z z' : Int}
theorem hd_0 : zz_get (hdiv h w B L Be z) w = cDiv w z := by
  unfold hdiv
  rw [zz_gn (by omega), zz_gn (by omega), zz_gn (by omega), zz_gs]
theorem hd_1 : zz_get (hdiv h w B L Be z) (w + 1) = cA 8 B := by
  unfold hdiv
  rw [zz_gn (by omega), zz_gn (by omega), zz_gs]
theorem hd_2 : zz_get (hdiv h w B L Be z) (w + 2) = cA 5 L := by
  unfold hdiv
  rw [zz_gn (by omega), zz_gs]
theorem hd_3 : zz_get (hdiv h w B L Be z) (w + 3) = cA 64 Be := by
  unfold hdiv
  rw [zz_gs]
theorem hd_x {k : Nat} (hk : k < w ∨ w + 3 < k) : zz_get (hdiv h w B L Be z) k = zz_get h k := by
  unfold hdiv
  rw [zz_gn (by omega), zz_gn (by omega), zz_gn (by omega), zz_gn (by omega)]
theorem hq_3 : zz_put (hdiv h w B L Be z) (w + 3) (cA 64 Be') = hdiv h w B L Be' z := by
  unfold hdiv
  rw [zz_put_put]
theorem hq_2 : zz_put (hdiv h w B L Be z) (w + 2) (cA 5 L') = hdiv h w B L' Be z := by
  unfold hdiv
  rw [zz_put_comm _ (w + 3) (w + 2) _ _ (by omega), zz_put_put]
theorem hq_1 : zz_put (hdiv h w B L Be z) (w + 1) (cA 8 B') = hdiv h w B' L Be z := by
  unfold hdiv
  rw [zz_put_comm _ (w + 3) (w + 1) _ _ (by omega), zz_put_comm _ (w + 2) (w + 1) _ _ (by omega), zz_put_put]
theorem hq_0 : zz_put (hdiv h w B L Be z) w (cO 1 [vR (w + 1), vR (w + 2), vR (w + 3), vI z']) = hdiv h w B L Be z' := by
  unfold hdiv
  rw [zz_put_comm _ (w + 3) w _ _ (by omega), zz_put_comm _ (w + 2) w _ _ (by omega), zz_put_comm _ (w + 1) w _ _ (by omega), zz_put_put]
theorem hd_in (h0 : zz_get h w = cDiv w z) (h1 : zz_get h (w + 1) = cA 8 B) (h2 : zz_get h (w + 2) = cA 5 L) (h3 : zz_get h (w + 3) = cA 64 Be) : h = hdiv h w B L Be z := by
  unfold hdiv
  rw [zz_put_get h w _ h0, zz_put_get h (w + 1) _ h1, zz_put_get h (w + 2) _ h2, zz_put_get h (w + 3) _ h3]
end
set_option maxRecDepth 100000 in
set_option maxHeartbeats 4000000 in
theorem s_X1_join {h : AH} {Q : Option AV → AH → Prop} {w : Nat} {B L Be : Int → Int} {z a b : Int} (ha : 0 ≤ a ∧ a < 5) (hb : 0 ≤ b ∧ b < 5) (hL : ∀ c, 0 ≤ c → c < 5 → 0 ≤ L c ∧ L c < 5) (k : ∀ L' m, ((a ≤ b ∧ m = a) ∨ (b ≤ a ∧ m = b)) → (∀ c, 0 ≤ c → c < 5 → L' c = if L c = a ∨ L c = b then m else L c) → Q none (hdiv h w B L' Be z)) : MC mX1_join [vR w, vI a, vI b] (hdiv h w B L Be z) Q := by
  refine mc_start mX1_join RX1 "join" ⟨rfl, rfl, by decide +kernel⟩ [some (vR w), some (vI a), some (vI b), none, none] ⟨2, rfl⟩ rfl (fun X cx hRm hNS hRet => ?_)
  refine aw_iload_n cx 1 dX1_join_0 rfl rfl ?_
  refine aw_iload_n cx 2 dX1_join_1 rfl rfl ?_
  refine aw_mmin cx 5 dX1_join_2 rfl lkX1_59 ⟨by rw [hRm]; exact (Nat.le_of_ble_eq_true rfl), by rw [hRm]; exact (Nat.le_of_ble_eq_true rfl)⟩ (zz_rm0 hNS rfl) (by constructor <;> constructor <;> omega) (fun v2 e2 => ?_)
  refine aw_istore_n cx 6 3 dX1_join_5 rfl rfl ⟨Nat.le_of_ble_eq_true rfl, Nat.le_of_ble_eq_true rfl⟩ rfl ?_
  dsimp only [List.set]
  refine aw_iconst cx 7 dX1_join_6 rfl ?_
  refine aw_istore cx 9 dX1_join_7 rfl ⟨Nat.le_of_ble_eq_true rfl, Nat.le_of_ble_eq_true rfl⟩ rfl ?_
  dsimp only [List.set]
  have lp9 : ∀ (kf : Nat) (c : Int) (Lc : Int → Int), (5 - c < (kf : Int)) → (0 ≤ c ∧ c ≤ 5) → (∀ y, 0 ≤ y → y < 5 → Lc y = if y < c ∧ (L y = a ∨ L y = b) then v2 else L y) → AW X 9 [some (vR w), some (vI a), some (vI b), some (vI v2), some (vI c)] [] (hdiv h w B Lc Be z) := by
    intro kf
    induction kf with
    | zero =>
      intro c Lc hk hc hy
      exfalso
      omega
    | succ kf ih9 =>
      intro c Lc hk hc hy
      have hlc := hL
      refine aw_iload cx 11 dX1_join_9 rfl rfl ?_
      refine aw_iconst cx 12 dX1_join_11 rfl ?_
      refine aw_icmp_ge cx 15 51 dX1_join_12 rfl (by decide) ⟨⟨by omega, by omega⟩, ⟨by omega, by omega⟩⟩ (fun c12 => ?_) (fun c12 => ?_)
      · refine aw_return cx dX1_join_51 ?_
        refine hRet _ _ rfl rfl ?_
        exact k _ v2 (by omega) (fun y y0 y1 => by rw [hy y y0 y1]; split <;> split <;> first | rfl | omega)
      · have qc := hy c (by omega) (by omega)
        rw [if_neg (by omega)] at qc
        have lc := hL c (by omega) (by omega)
        rw [← qc] at lc
        refine aw_aload_n cx 16 dX1_join_15 rfl rfl ?_
        refine aw_getfield cx 19 dX1_join_16 rfl fdX1_15 (by first | assumption | exact hd_0 | exact hd_1 | exact hd_2 | exact hd_3 | exact (hd_x (by omega)).trans (by first | assumption)) (by rfl) ?_
        refine aw_iload cx 21 dX1_join_19 rfl rfl ?_
        refine aw_iaload cx 22 dX1_join_21 rfl (by first | assumption | exact hd_0 | exact hd_1 | exact hd_2 | exact hd_3 | exact (hd_x (by omega)).trans (by first | assumption)) ⟨by omega, by omega⟩ (by decide) ?_
        refine aw_iload_n cx 23 dX1_join_22 rfl rfl ?_
        refine aw_icmp_eq cx 26 37 dX1_join_23 rfl (by decide) ⟨⟨by omega, by omega⟩, ⟨by omega, by omega⟩⟩ (fun c23 => ?_) (fun c23 => ?_)
        · refine aw_aload_n cx 38 dX1_join_37 rfl rfl ?_
          refine aw_getfield cx 41 dX1_join_38 rfl fdX1_15 (by first | assumption | exact hd_0 | exact hd_1 | exact hd_2 | exact hd_3 | exact (hd_x (by omega)).trans (by first | assumption)) (by rfl) ?_
          refine aw_iload cx 43 dX1_join_41 rfl rfl ?_
          refine aw_iload_n cx 44 dX1_join_43 rfl rfl ?_
          refine aw_iastore cx 45 dX1_join_44 rfl (by first | assumption | exact hd_0 | exact hd_1 | exact hd_2 | exact hd_3 | exact (hd_x (by omega)).trans (by first | assumption)) ⟨by omega, by omega⟩ (by decide) ?_
          first | rw [hq_1] | rw [hq_2] | rw [hq_3] | rw [hq_0]
          refine aw_iinc cx 48 dX1_join_45 rfl rfl (Nat.le_of_ble_eq_true rfl) rfl ?_
          dsimp only [List.set]
          refine aw_goto cx 9 dX1_join_48 (by decide) ?_
          exact ih9 (c + 1) _ (by omega) ⟨by omega, by omega⟩ (fun y y0 y1 => by
            have q := hy y y0 y1
            have qc := hy c (by omega) (by omega)
            rw [if_neg (by omega)] at qc
            first
            | (unfold zz_up
               by_cases e : y = c
               · subst e
                 rw [if_pos rfl, if_pos (by omega)]
               · rw [if_neg e, q]
                 split <;> split <;> first | rfl | omega)
            | (by_cases e : y = c
               · subst e
                 rw [q]
                 split <;> split <;> first | rfl | omega
               · rw [q]
                 split <;> split <;> first | rfl | omega))
        · refine aw_aload_n cx 27 dX1_join_26 rfl rfl ?_
          refine aw_getfield cx 30 dX1_join_27 rfl fdX1_15 (by first | assumption | exact hd_0 | exact hd_1 | exact hd_2 | exact hd_3 | exact (hd_x (by omega)).trans (by first | assumption)) (by rfl) ?_
          refine aw_iload cx 32 dX1_join_30 rfl rfl ?_
          refine aw_iaload cx 33 dX1_join_32 rfl (by first | assumption | exact hd_0 | exact hd_1 | exact hd_2 | exact hd_3 | exact (hd_x (by omega)).trans (by first | assumption)) ⟨by omega, by omega⟩ (by decide) ?_
          refine aw_iload_n cx 34 dX1_join_33 rfl rfl ?_
          refine aw_icmp_ne cx 37 45 dX1_join_34 rfl (by decide) ⟨⟨by omega, by omega⟩, ⟨by omega, by omega⟩⟩ (fun c34 => ?_) (fun c34 => ?_)
          · refine aw_iinc cx 48 dX1_join_45 rfl rfl (Nat.le_of_ble_eq_true rfl) rfl ?_
            dsimp only [List.set]
            refine aw_goto cx 9 dX1_join_48 (by decide) ?_
            exact ih9 (c + 1) _ (by omega) ⟨by omega, by omega⟩ (fun y y0 y1 => by
              have q := hy y y0 y1
              have qc := hy c (by omega) (by omega)
              rw [if_neg (by omega)] at qc
              first
              | (unfold zz_up
                 by_cases e : y = c
                 · subst e
                   rw [if_pos rfl, if_pos (by omega)]
                 · rw [if_neg e, q]
                   split <;> split <;> first | rfl | omega)
              | (by_cases e : y = c
                 · subst e
                   rw [q]
                   split <;> split <;> first | rfl | omega
                 · rw [q]
                   split <;> split <;> first | rfl | omega))
          · refine aw_aload_n cx 38 dX1_join_37 rfl rfl ?_
            refine aw_getfield cx 41 dX1_join_38 rfl fdX1_15 (by first | assumption | exact hd_0 | exact hd_1 | exact hd_2 | exact hd_3 | exact (hd_x (by omega)).trans (by first | assumption)) (by rfl) ?_
            refine aw_iload cx 43 dX1_join_41 rfl rfl ?_
            refine aw_iload_n cx 44 dX1_join_43 rfl rfl ?_
            refine aw_iastore cx 45 dX1_join_44 rfl (by first | assumption | exact hd_0 | exact hd_1 | exact hd_2 | exact hd_3 | exact (hd_x (by omega)).trans (by first | assumption)) ⟨by omega, by omega⟩ (by decide) ?_
            first | rw [hq_1] | rw [hq_2] | rw [hq_3] | rw [hq_0]
            refine aw_iinc cx 48 dX1_join_45 rfl rfl (Nat.le_of_ble_eq_true rfl) rfl ?_
            dsimp only [List.set]
            refine aw_goto cx 9 dX1_join_48 (by decide) ?_
            exact ih9 (c + 1) _ (by omega) ⟨by omega, by omega⟩ (fun y y0 y1 => by
              have q := hy y y0 y1
              have qc := hy c (by omega) (by omega)
              rw [if_neg (by omega)] at qc
              first
              | (unfold zz_up
                 by_cases e : y = c
                 · subst e
                   rw [if_pos rfl, if_pos (by omega)]
                 · rw [if_neg e, q]
                   split <;> split <;> first | rfl | omega)
              | (by_cases e : y = c
                 · subst e
                   rw [q]
                   split <;> split <;> first | rfl | omega
                 · rw [q]
                   split <;> split <;> first | rfl | omega))
  exact lp9 6 0 L (by omega) ⟨by omega, by omega⟩ (fun y y0 y1 => by rw [if_neg (by omega)])
set_option maxRecDepth 100000 in
set_option maxHeartbeats 4000000 in
theorem s_X1_kindOf {h : AH} {Q : Option AV → AH → Prop} {w : Nat} {B L Be : Int → Int} {z c : Int} (hc : 0 ≤ c ∧ c < 5) (hW0 : zz_get h w = cDiv w z) (hW2 : zz_get h (w + 2) = cA 5 L) (hL : ∀ c, 0 ≤ c → c < 5 → 0 ≤ L c ∧ L c < 5) (k : ∀ v, v = kN L (L c) → Q (some (vI v)) h) : MC mX1_kindOf [vR w, vI c] h Q := by
  refine mc_start mX1_kindOf RX1 "kindOf" ⟨rfl, rfl, by decide +kernel⟩ [some (vR w), some (vI c), none, none] ⟨2, rfl⟩ rfl (fun X cx hRm hNS hRet => ?_)
  have hlc := hL c hc.1 hc.2
  refine aw_iconst cx 1 dX1_kindOf_0 rfl ?_
  refine aw_istore_n cx 2 2 dX1_kindOf_1 rfl rfl ⟨Nat.le_of_ble_eq_true rfl, Nat.le_of_ble_eq_true rfl⟩ rfl ?_
  dsimp only [List.set]
  refine aw_iconst cx 3 dX1_kindOf_2 rfl ?_
  refine aw_istore_n cx 4 3 dX1_kindOf_3 rfl rfl ⟨Nat.le_of_ble_eq_true rfl, Nat.le_of_ble_eq_true rfl⟩ rfl ?_
  dsimp only [List.set]
  have lp4 : ∀ (kf : Nat) (s i : Int), (L c - i < (kf : Int)) → (0 ≤ i ∧ i ≤ L c) → s = kN L i → AW X 4 [some (vR w), some (vI c), some (vI s), some (vI i)] [] (h) := by
    intro kf
    induction kf with
    | zero =>
      intro s i hk hi hs
      exfalso
      omega
    | succ kf ih4 =>
      intro s i hk hi hs
      refine aw_iload_n cx 5 dX1_kindOf_4 rfl rfl ?_
      refine aw_aload_n cx 6 dX1_kindOf_5 rfl rfl ?_
      refine aw_getfield cx 9 dX1_kindOf_6 rfl fdX1_15 (by first | assumption | exact hc_0 | exact hc_1 | exact hc_2 | exact hc_3 | exact hc_4 | exact zz_gs _ _ _ | exact (hc_x (by omega)).trans (by first | assumption | exact hc_0 | exact hc_1 | exact hc_2 | exact hc_3 | exact hc_4 | exact zz_gs _ _ _) | exact (zz_gn (by omega)).trans (by first | assumption | exact hc_0 | exact hc_1 | exact hc_2 | exact hc_3 | exact hc_4 | exact zz_gs _ _ _)) (by rfl) ?_
      refine aw_iload_n cx 10 dX1_kindOf_9 rfl rfl ?_
      refine aw_iaload cx 11 dX1_kindOf_10 rfl (by first | assumption | exact hc_0 | exact hc_1 | exact hc_2 | exact hc_3 | exact hc_4 | exact zz_gs _ _ _ | exact (hc_x (by omega)).trans (by first | assumption | exact hc_0 | exact hc_1 | exact hc_2 | exact hc_3 | exact hc_4 | exact zz_gs _ _ _) | exact (zz_gn (by omega)).trans (by first | assumption | exact hc_0 | exact hc_1 | exact hc_2 | exact hc_3 | exact hc_4 | exact zz_gs _ _ _)) ⟨by omega, by omega⟩ (by decide) ?_
      refine aw_icmp_ge cx 14 33 dX1_kindOf_11 rfl (by decide) ⟨⟨by omega, by omega⟩, ⟨by omega, by omega⟩⟩ (fun c11 => ?_) (fun c11 => ?_)
      · refine aw_iload_n cx 34 dX1_kindOf_33 rfl rfl ?_
        refine aw_ireturn cx dX1_kindOf_34 ?_
        refine hRet _ _ True.intro rfl ?_
        exact k _ (by rw [hs, show i = L c by omega])
      · have hli := hL i (by omega) (by omega)
        refine aw_aload_n cx 15 dX1_kindOf_14 rfl rfl ?_
        refine aw_getfield cx 18 dX1_kindOf_15 rfl fdX1_15 (by first | assumption | exact hc_0 | exact hc_1 | exact hc_2 | exact hc_3 | exact hc_4 | exact zz_gs _ _ _ | exact (hc_x (by omega)).trans (by first | assumption | exact hc_0 | exact hc_1 | exact hc_2 | exact hc_3 | exact hc_4 | exact zz_gs _ _ _) | exact (zz_gn (by omega)).trans (by first | assumption | exact hc_0 | exact hc_1 | exact hc_2 | exact hc_3 | exact hc_4 | exact zz_gs _ _ _)) (by rfl) ?_
        refine aw_iload_n cx 19 dX1_kindOf_18 rfl rfl ?_
        refine aw_iaload cx 20 dX1_kindOf_19 rfl (by first | assumption | exact hc_0 | exact hc_1 | exact hc_2 | exact hc_3 | exact hc_4 | exact zz_gs _ _ _ | exact (hc_x (by omega)).trans (by first | assumption | exact hc_0 | exact hc_1 | exact hc_2 | exact hc_3 | exact hc_4 | exact zz_gs _ _ _) | exact (zz_gn (by omega)).trans (by first | assumption | exact hc_0 | exact hc_1 | exact hc_2 | exact hc_3 | exact hc_4 | exact zz_gs _ _ _)) ⟨by omega, by omega⟩ (by decide) ?_
        refine aw_iload_n cx 21 dX1_kindOf_20 rfl rfl ?_
        refine aw_icmp_ne cx 24 27 dX1_kindOf_21 rfl (by decide) ⟨⟨by omega, by omega⟩, ⟨by omega, by omega⟩⟩ (fun c21 => ?_) (fun c21 => ?_)
        · refine aw_iinc cx 30 dX1_kindOf_27 rfl rfl (Nat.le_of_ble_eq_true rfl) rfl ?_
          dsimp only [List.set]
          refine aw_goto cx 4 dX1_kindOf_30 (by decide) ?_
          exact ih4 _ (i + 1) (by omega) ⟨by omega, by omega⟩ (by rw [kN_s hi.1]; split <;> omega)
        · refine aw_iinc cx 27 dX1_kindOf_24 rfl rfl (Nat.le_of_ble_eq_true rfl) rfl ?_
          dsimp only [List.set]
          refine aw_iinc cx 30 dX1_kindOf_27 rfl rfl (Nat.le_of_ble_eq_true rfl) rfl ?_
          dsimp only [List.set]
          refine aw_goto cx 4 dX1_kindOf_30 (by decide) ?_
          exact ih4 _ (i + 1) (by omega) ⟨by omega, by omega⟩ (by rw [kN_s hi.1]; split <;> omega)
  exact lp4 6 0 0 (by omega) ⟨by omega, by omega⟩ rfl
set_option maxRecDepth 100000 in
set_option maxHeartbeats 4000000 in
theorem s_X1_findBlocks {h : AH} {Q : Option AV → AH → Prop} {w q : Nat} {C F Nu Co B L Be : Int → Int} {n r f z : Int} {g : Gr} {S : Int} (hn : 1 ≤ n ∧ n ≤ 8) (hA : ag n C g) (hg : rgn n g) (hq : q + 4 < w ∨ w + 3 < q) (hO : zz_get h q = cCol q n r f) (hC : zz_get h (q + 1) = cA 64 C) (k : ∀ B', (∀ x, 0 ≤ x → x < n → B' x = (bst g S n).1 x) → Q none (hdiv h w B' L Be (zQ n g S))) : MC mX1_findBlocks [vR w, vR q, vI S] (hdiv h w B L Be z) Q := by
  refine mc_start mX1_findBlocks RX1 "findBlocks" ⟨rfl, rfl, by decide +kernel⟩ [some (vR w), some (vR q), some (vI S), none, none] ⟨2, rfl⟩ rfl (fun X cx hRm hNS hRet => ?_)
  refine aw_aload_n cx 1 dX1_findBlocks_0 rfl rfl ?_
  refine aw_iconst cx 2 dX1_findBlocks_1 rfl ?_
  refine aw_putfield cx 5 dX1_findBlocks_2 rfl fdX1_21 (by first | assumption | exact hd_0 | exact hd_1 | exact hd_2 | exact hd_3 | exact (hd_x (by omega)).trans (by first | assumption)) (by exact Nat.le_of_ble_eq_true rfl) rfl ?_
  dsimp only [List.set]
  first | rw [hq_1] | rw [hq_2] | rw [hq_3] | rw [hq_0]
  refine aw_iconst cx 6 dX1_findBlocks_5 rfl ?_
  refine aw_istore_n cx 7 3 dX1_findBlocks_6 rfl rfl ⟨Nat.le_of_ble_eq_true rfl, Nat.le_of_ble_eq_true rfl⟩ rfl ?_
  dsimp only [List.set]
  have lp7 : ∀ (kf : Nat) (b z1 : Int) (Bb : Int → Int), (n - b < (kf : Int)) → (0 ≤ b ∧ b ≤ n) → z1 = (bst g S b).2 → (∀ x, 0 ≤ x → x < b → Bb x = (bst g S b).1 x) → AW X 7 [some (vR w), some (vR q), some (vI S), some (vI b), none] [] (hdiv h w Bb L Be z1) := by
    intro kf
    induction kf with
    | zero =>
      intro b z1 Bb hk hb hz hB
      exfalso
      omega
    | succ kf ih7 =>
      intro b z1 Bb hk hb hz hB
      have hBI := BI_all (g := g) (S := S) b hb.1
      refine aw_iload_n cx 8 dX1_findBlocks_7 rfl rfl ?_
      refine aw_aload_n cx 9 dX1_findBlocks_8 rfl rfl ?_
      refine aw_getfield cx 12 dX1_findBlocks_9 rfl fdX1_33 (by first | assumption | exact hd_0 | exact hd_1 | exact hd_2 | exact hd_3 | exact (hd_x (by omega)).trans (by first | assumption)) (by rfl) ?_
      refine aw_icmp_ge cx 15 96 dX1_findBlocks_12 rfl (by decide) ⟨⟨by omega, by omega⟩, ⟨by omega, by omega⟩⟩ (fun c12 => ?_) (fun c12 => ?_)
      · refine aw_return cx dX1_findBlocks_96 ?_
        refine hRet _ _ rfl rfl ?_
        have e96 : b = n := by omega
        rw [e96] at hz hB
        rw [hz]
        exact k _ hB
      · refine aw_aload_n cx 16 dX1_findBlocks_15 rfl rfl ?_
        refine aw_getfield cx 19 dX1_findBlocks_16 rfl fdX1_9 (by first | assumption | exact hd_0 | exact hd_1 | exact hd_2 | exact hd_3 | exact (hd_x (by omega)).trans (by first | assumption)) (by rfl) ?_
        refine aw_iload_n cx 20 dX1_findBlocks_19 rfl rfl ?_
        refine aw_aload_n cx 21 dX1_findBlocks_20 rfl rfl ?_
        refine aw_getfield cx 24 dX1_findBlocks_21 rfl fdX1_21 (by first | assumption | exact hd_0 | exact hd_1 | exact hd_2 | exact hd_3 | exact (hd_x (by omega)).trans (by first | assumption)) (by rfl) ?_
        refine aw_iastore cx 25 dX1_findBlocks_24 rfl (by first | assumption | exact hd_0 | exact hd_1 | exact hd_2 | exact hd_3 | exact (hd_x (by omega)).trans (by first | assumption)) ⟨by omega, by omega⟩ (by decide) ?_
        first | rw [hq_1] | rw [hq_2] | rw [hq_3] | rw [hq_0]
        refine aw_iconst cx 26 dX1_findBlocks_25 rfl ?_
        refine aw_istore cx 28 dX1_findBlocks_26 rfl ⟨Nat.le_of_ble_eq_true rfl, Nat.le_of_ble_eq_true rfl⟩ rfl ?_
        dsimp only [List.set]
        have lp28 : ∀ (kf : Nat) (a : Int) (Bx : Int → Int), (b - a < (kf : Int)) → (0 ≤ a ∧ a ≤ b) → (∀ x, 0 ≤ x → x < b → Bx x = (bst g S b).1 x) → Bx b = bv g S (bst g S b).1 (bst g S b).2 b a → AW X 28 [some (vR w), some (vR q), some (vI S), some (vI b), some (vI a)] [] (hdiv h w Bx L Be z1) := by
          intro kf
          induction kf with
          | zero =>
            intro a Bx hk ha ho hv
            exfalso
            omega
          | succ kf ih28 =>
            intro a Bx hk ha ho hv
            refine aw_iload cx 30 dX1_findBlocks_28 rfl rfl ?_
            refine aw_iload_n cx 31 dX1_findBlocks_30 rfl rfl ?_
            refine aw_icmp_ge cx 34 67 dX1_findBlocks_31 rfl (by decide) ⟨⟨by omega, by omega⟩, ⟨by omega, by omega⟩⟩ (fun c31 => ?_) (fun c31 => ?_)
            · have hv2 : Bx b = bv g S (bst g S b).1 (bst g S b).2 b b := by rw [hv, show a = b by omega]
              have hv3 := BI_v (g := g) (S := S) hb.1 hBI ⟨hb.1, Int.le_refl _⟩
              rw [← hv2] at hv3
              have hz3 := hBI.1
              refine aw_aload_n cx 68 dX1_findBlocks_67 rfl rfl ?_
              refine aw_getfield cx 71 dX1_findBlocks_68 rfl fdX1_9 (by first | assumption | exact hd_0 | exact hd_1 | exact hd_2 | exact hd_3 | exact (hd_x (by omega)).trans (by first | assumption)) (by rfl) ?_
              refine aw_iload_n cx 72 dX1_findBlocks_71 rfl rfl ?_
              refine aw_iaload cx 73 dX1_findBlocks_72 rfl (by first | assumption | exact hd_0 | exact hd_1 | exact hd_2 | exact hd_3 | exact (hd_x (by omega)).trans (by first | assumption)) ⟨by omega, by omega⟩ (by decide) ?_
              refine aw_aload_n cx 74 dX1_findBlocks_73 rfl rfl ?_
              refine aw_getfield cx 77 dX1_findBlocks_74 rfl fdX1_21 (by first | assumption | exact hd_0 | exact hd_1 | exact hd_2 | exact hd_3 | exact (hd_x (by omega)).trans (by first | assumption)) (by rfl) ?_
              refine aw_icmp_ne cx 80 90 dX1_findBlocks_77 rfl (by decide) ⟨⟨by omega, by omega⟩, ⟨by omega, by omega⟩⟩ (fun c77 => ?_) (fun c77 => ?_)
              · refine aw_iinc cx 93 dX1_findBlocks_90 rfl rfl (Nat.le_of_ble_eq_true rfl) rfl ?_
                dsimp only [List.set]
                refine aw_goto cx 7 dX1_findBlocks_93 (by decide) ?_
                exact aw_weak (ih7 (b + 1) _ _ (by omega) ⟨by omega, by omega⟩ (by
                  rw [bst_s hb.1]
                  show _ = if bv g S (bst g S b).1 (bst g S b).2 b b = (bst g S b).2 then (bst g S b).2 + 1 else (bst g S b).2
                  first | (rw [if_pos (by omega)]; omega) | (rw [if_neg (by omega)]; omega)) (fun x x0 x1 => by
                  rw [bst_s hb.1]
                  show _ = zz_up (bst g S b).1 b (bv g S (bst g S b).1 (bst g S b).2 b b) x
                  unfold zz_up
                  by_cases e : x = b
                  · rw [if_pos e, e]
                    exact hv2
                  · rw [if_neg e]
                    exact ho x x0 (by omega))) (by simp [zz_le])
              · refine aw_aload_n cx 81 dX1_findBlocks_80 rfl rfl ?_
                refine aw_dup cx 82 dX1_findBlocks_81 rfl rfl ?_
                refine aw_getfield cx 85 dX1_findBlocks_82 rfl fdX1_21 (by first | assumption | exact hd_0 | exact hd_1 | exact hd_2 | exact hd_3 | exact (hd_x (by omega)).trans (by first | assumption)) (by rfl) ?_
                refine aw_iconst cx 86 dX1_findBlocks_85 rfl ?_
                refine aw_iadd cx 87 dX1_findBlocks_86 rfl ?_
                refine aw_putfield cx 90 dX1_findBlocks_87 rfl fdX1_21 (by first | assumption | exact hd_0 | exact hd_1 | exact hd_2 | exact hd_3 | exact (hd_x (by omega)).trans (by first | assumption)) (by exact Nat.le_of_ble_eq_true rfl) rfl ?_
                dsimp only [List.set]
                first | rw [hq_1] | rw [hq_2] | rw [hq_3] | rw [hq_0]
                refine aw_iinc cx 93 dX1_findBlocks_90 rfl rfl (Nat.le_of_ble_eq_true rfl) rfl ?_
                dsimp only [List.set]
                refine aw_goto cx 7 dX1_findBlocks_93 (by decide) ?_
                exact aw_weak (ih7 (b + 1) _ _ (by omega) ⟨by omega, by omega⟩ (by
                  rw [bst_s hb.1]
                  show _ = if bv g S (bst g S b).1 (bst g S b).2 b b = (bst g S b).2 then (bst g S b).2 + 1 else (bst g S b).2
                  first | (rw [if_pos (by omega)]; omega) | (rw [if_neg (by omega)]; omega)) (fun x x0 x1 => by
                  rw [bst_s hb.1]
                  show _ = zz_up (bst g S b).1 b (bv g S (bst g S b).1 (bst g S b).2 b b) x
                  unfold zz_up
                  by_cases e : x = b
                  · rw [if_pos e, e]
                    exact hv2
                  · rw [if_neg e]
                    exact ho x x0 (by omega))) (by simp [zz_le])
            · refine aw_iload_n cx 35 dX1_findBlocks_34 rfl rfl ?_
              refine aw_aload_n cx 36 dX1_findBlocks_35 rfl rfl ?_
              refine aw_iload cx 38 dX1_findBlocks_36 rfl rfl ?_
              refine aw_iload_n cx 39 dX1_findBlocks_38 rfl rfl ?_
              refine aw_V2v cx 42 mX0_colourOf (ci := 0) dX1_findBlocks_39 rfl okmX0_colourOf lkX1_36 (by first | assumption | exact hd_0 | exact hd_1 | exact hd_2 | exact hd_3 | exact (hd_x (by omega)).trans (by first | assumption)) ⟨rfl, by decide⟩ (zz_rc0 mX1_findBlocks hRm hNS rfl rfl) (Nat.le_of_ble_eq_true rfl) ?_
              refine s_X0_colourOf (by first | assumption | exact hd_0 | exact hd_1 | exact hd_2 | exact hd_3 | exact (hd_x (by omega)).trans (by first | assumption)) (by first | assumption | exact hd_0 | exact hd_1 | exact hd_2 | exact hd_3 | exact (hd_x (by omega)).trans (by first | assumption)) ⟨by omega, by omega⟩ ⟨by omega, by omega⟩ (fun v39 e39 => ⟨_, rfl, ?_⟩)
              refine aw_S2v cx 45 mX0_has dX1_findBlocks_42 rfl okmX0_has lkX1_51 (zz_rc0 mX1_findBlocks hRm hNS rfl rfl) (Nat.le_of_ble_eq_true rfl) ?_
              refine s_X0_has (fun v42 e42 => ⟨_, rfl, ?_⟩)
              refine aw_if_eq cx 48 61 dX1_findBlocks_45 rfl (by decide) ⟨by omega, by omega⟩ (fun c45 => ?_) (fun c45 => ?_)
              · refine aw_iinc cx 64 dX1_findBlocks_61 rfl rfl (Nat.le_of_ble_eq_true rfl) rfl ?_
                dsimp only [List.set]
                refine aw_goto cx 28 dX1_findBlocks_64 (by decide) ?_
                first
                | exact ih28 (a + 1) _ (by omega) ⟨by omega, by omega⟩ (fun x x0 x1 => by
                    rw [zz_up_n _ _ (by omega)]
                    exact ho x x0 x1) (by
                    rw [zz_up_s, bv_s ha.1, if_pos (by rw [← hA a b (by omega) (by omega) (by omega) (by omega), ← e39]; exact (e42.resolve_right (fun q9 => c45 q9.1)).2)]
                    exact ho a (by omega) (by omega))
                | exact ih28 (a + 1) _ (by omega) ⟨by omega, by omega⟩ ho (by
                    rw [bv_s ha.1, if_neg (fun q9 => by
                      rw [← hA a b (by omega) (by omega) (by omega) (by omega), ← e39] at q9
                      rcases e42 with q8 | q8
                      · omega
                      · exact q8.2 q9)]
                    exact hv)
              · refine aw_aload_n cx 49 dX1_findBlocks_48 rfl rfl ?_
                refine aw_getfield cx 52 dX1_findBlocks_49 rfl fdX1_9 (by first | assumption | exact hd_0 | exact hd_1 | exact hd_2 | exact hd_3 | exact (hd_x (by omega)).trans (by first | assumption)) (by rfl) ?_
                refine aw_iload_n cx 53 dX1_findBlocks_52 rfl rfl ?_
                refine aw_aload_n cx 54 dX1_findBlocks_53 rfl rfl ?_
                refine aw_getfield cx 57 dX1_findBlocks_54 rfl fdX1_9 (by first | assumption | exact hd_0 | exact hd_1 | exact hd_2 | exact hd_3 | exact (hd_x (by omega)).trans (by first | assumption)) (by rfl) ?_
                refine aw_iload cx 59 dX1_findBlocks_57 rfl rfl ?_
                refine aw_iaload cx 60 dX1_findBlocks_59 rfl (by first | assumption | exact hd_0 | exact hd_1 | exact hd_2 | exact hd_3 | exact (hd_x (by omega)).trans (by first | assumption)) ⟨by omega, by omega⟩ (by decide) ?_
                refine aw_iastore cx 61 dX1_findBlocks_60 rfl (by first | assumption | exact hd_0 | exact hd_1 | exact hd_2 | exact hd_3 | exact (hd_x (by omega)).trans (by first | assumption)) ⟨by omega, by omega⟩ (by decide) ?_
                first | rw [hq_1] | rw [hq_2] | rw [hq_3] | rw [hq_0]
                refine aw_iinc cx 64 dX1_findBlocks_61 rfl rfl (Nat.le_of_ble_eq_true rfl) rfl ?_
                dsimp only [List.set]
                refine aw_goto cx 28 dX1_findBlocks_64 (by decide) ?_
                first
                | exact ih28 (a + 1) _ (by omega) ⟨by omega, by omega⟩ (fun x x0 x1 => by
                    rw [zz_up_n _ _ (by omega)]
                    exact ho x x0 x1) (by
                    rw [zz_up_s, bv_s ha.1, if_pos (by rw [← hA a b (by omega) (by omega) (by omega) (by omega), ← e39]; exact (e42.resolve_right (fun q9 => c45 q9.1)).2)]
                    exact ho a (by omega) (by omega))
                | exact ih28 (a + 1) _ (by omega) ⟨by omega, by omega⟩ ho (by
                    rw [bv_s ha.1, if_neg (fun q9 => by
                      rw [← hA a b (by omega) (by omega) (by omega) (by omega), ← e39] at q9
                      rcases e42 with q8 | q8
                      · omega
                      · exact q8.2 q9)]
                    exact hv)
        exact aw_weak (lp28 (b.toNat + 1) 0 _ (by omega) ⟨by omega, by omega⟩ (fun x x0 x1 => by
          rw [zz_up_n _ _ (by omega)]
          exact hB x x0 x1) (by rw [zz_up_s, hz]; rfl)) (by simp [zz_le])
  exact aw_weak (lp7 (n.toNat + 1) 0 0 _ (by omega) ⟨by omega, by omega⟩ rfl (fun x x0 x1 => by omega)) (by simp [zz_le])
end
