-- PART A of the skeleton, and names out of claim/NAMES.whole.lean.txt (by wip/whole/gen/names.py)
/-- a private method of a class that the tables say can be made, by its rows of tables_1 -/
def lw_okq (q : MethodName × Nat) : Prop := (q.1.cls ≠ "java/lang/invoke/MethodHandle" ∧ q.1.cls ≠ "java/lang/invoke/VarHandle") ∧ Cond.instantiable q.1.cls q.2 ∈ tables_1 ∧ Cond.privateMethod q.1 ∈ tables_1 ∧ Cond.instanceMethod q.1 ∈ tables_1
theorem lw_p0 : lw_okq (⟨"ShareTables", "isPoint", "(I)Z"⟩, 6) := ⟨⟨by decide +kernel, by decide +kernel⟩, List.mem_of_getElem? (i := 9) (by decide +kernel), List.mem_of_getElem? (i := 181) (by decide +kernel), List.mem_of_getElem? (i := 182) (by decide +kernel)⟩
theorem lw_p1 : lw_okq (⟨"ShareTables", "isEven", "()Z"⟩, 6) := ⟨⟨by decide +kernel, by decide +kernel⟩, List.mem_of_getElem? (i := 9) (by decide +kernel), List.mem_of_getElem? (i := 200) (by decide +kernel), List.mem_of_getElem? (i := 201) (by decide +kernel)⟩
theorem lw_p2 : lw_okq (⟨"ShareTables", "isColour", "(I)Z"⟩, 6) := ⟨⟨by decide +kernel, by decide +kernel⟩, List.mem_of_getElem? (i := 9) (by decide +kernel), List.mem_of_getElem? (i := 212) (by decide +kernel), List.mem_of_getElem? (i := 213) (by decide +kernel)⟩
theorem lw_p3 : lw_okq (⟨"ShareTables", "isSet", "(I)Z"⟩, 6) := ⟨⟨by decide +kernel, by decide +kernel⟩, List.mem_of_getElem? (i := 9) (by decide +kernel), List.mem_of_getElem? (i := 242) (by decide +kernel), List.mem_of_getElem? (i := 243) (by decide +kernel)⟩
theorem lw_p4 : lw_okq (⟨"ShareTables", "worthByDegrees", "(I)I"⟩, 6) := ⟨⟨by decide +kernel, by decide +kernel⟩, List.mem_of_getElem? (i := 9) (by decide +kernel), List.mem_of_getElem? (i := 283) (by decide +kernel), List.mem_of_getElem? (i := 284) (by decide +kernel)⟩
theorem lw_p5 : lw_okq (⟨"ShareTables", "worthByHulls", "(I)I"⟩, 6) := ⟨⟨by decide +kernel, by decide +kernel⟩, List.mem_of_getElem? (i := 9) (by decide +kernel), List.mem_of_getElem? (i := 287) (by decide +kernel), List.mem_of_getElem? (i := 288) (by decide +kernel)⟩
theorem lw_p6 : lw_okq (⟨"ShareTables", "worthByTriples", "(I)I"⟩, 6) := ⟨⟨by decide +kernel, by decide +kernel⟩, List.mem_of_getElem? (i := 9) (by decide +kernel), List.mem_of_getElem? (i := 292) (by decide +kernel), List.mem_of_getElem? (i := 293) (by decide +kernel)⟩
theorem lw_p7 : lw_okq (⟨"ShareTables", "mapsEveryColour", "(I)Z"⟩, 6) := ⟨⟨by decide +kernel, by decide +kernel⟩, List.mem_of_getElem? (i := 9) (by decide +kernel), List.mem_of_getElem? (i := 301) (by decide +kernel), List.mem_of_getElem? (i := 302) (by decide +kernel)⟩
theorem lw_p8 : lw_okq (⟨"ShareTables", "takeSpare", "()V"⟩, 6) := ⟨⟨by decide +kernel, by decide +kernel⟩, List.mem_of_getElem? (i := 9) (by decide +kernel), List.mem_of_getElem? (i := 313) (by decide +kernel), List.mem_of_getElem? (i := 314) (by decide +kernel)⟩
theorem lw_p9 : lw_okq (⟨"ShareTables", "weightBelowRank", "()I"⟩, 6) := ⟨⟨by decide +kernel, by decide +kernel⟩, List.mem_of_getElem? (i := 9) (by decide +kernel), List.mem_of_getElem? (i := 357) (by decide +kernel), List.mem_of_getElem? (i := 358) (by decide +kernel)⟩
theorem lw_p10 : lw_okq (⟨"ShareTablesModel", "isPoint", "(I)Z"⟩, 12) := ⟨⟨by decide +kernel, by decide +kernel⟩, List.mem_of_getElem? (i := 412) (by decide +kernel), List.mem_of_getElem? (i := 466) (by decide +kernel), List.mem_of_getElem? (i := 467) (by decide +kernel)⟩
theorem lw_p11 : lw_okq (⟨"ShareTablesModel", "hue", "(II)I"⟩, 12) := ⟨⟨by decide +kernel, by decide +kernel⟩, List.mem_of_getElem? (i := 412) (by decide +kernel), List.mem_of_getElem? (i := 470) (by decide +kernel), List.mem_of_getElem? (i := 471) (by decide +kernel)⟩
theorem lw_p12 : lw_okq (⟨"ShareTablesModel", "failsBy", "()I"⟩, 12) := ⟨⟨by decide +kernel, by decide +kernel⟩, List.mem_of_getElem? (i := 412) (by decide +kernel), List.mem_of_getElem? (i := 482) (by decide +kernel), List.mem_of_getElem? (i := 483) (by decide +kernel)⟩
theorem lw_p13 : lw_okq (⟨"ShareTablesModel", "firsts", "()Z"⟩, 12) := ⟨⟨by decide +kernel, by decide +kernel⟩, List.mem_of_getElem? (i := 412) (by decide +kernel), List.mem_of_getElem? (i := 486) (by decide +kernel), List.mem_of_getElem? (i := 487) (by decide +kernel)⟩
theorem lw_p14 : lw_okq (⟨"ShareTablesModel", "rank", "()I"⟩, 12) := ⟨⟨by decide +kernel, by decide +kernel⟩, List.mem_of_getElem? (i := 412) (by decide +kernel), List.mem_of_getElem? (i := 490) (by decide +kernel), List.mem_of_getElem? (i := 491) (by decide +kernel)⟩
theorem lw_p15 : lw_okq (⟨"ShareTablesModel", "between", "(IIII)I"⟩, 12) := ⟨⟨by decide +kernel, by decide +kernel⟩, List.mem_of_getElem? (i := 412) (by decide +kernel), List.mem_of_getElem? (i := 494) (by decide +kernel), List.mem_of_getElem? (i := 495) (by decide +kernel)⟩
def lw_privs_1 : List (MethodName × Nat) := [(⟨"ShareTables", "isPoint", "(I)Z"⟩, 6), (⟨"ShareTables", "isEven", "()Z"⟩, 6), (⟨"ShareTables", "isColour", "(I)Z"⟩, 6), (⟨"ShareTables", "isSet", "(I)Z"⟩, 6), (⟨"ShareTables", "worthByDegrees", "(I)I"⟩, 6), (⟨"ShareTables", "worthByHulls", "(I)I"⟩, 6), (⟨"ShareTables", "worthByTriples", "(I)I"⟩, 6), (⟨"ShareTables", "mapsEveryColour", "(I)Z"⟩, 6), (⟨"ShareTables", "takeSpare", "()V"⟩, 6), (⟨"ShareTables", "weightBelowRank", "()I"⟩, 6), (⟨"ShareTablesModel", "isPoint", "(I)Z"⟩, 12), (⟨"ShareTablesModel", "hue", "(II)I"⟩, 12), (⟨"ShareTablesModel", "failsBy", "()I"⟩, 12), (⟨"ShareTablesModel", "firsts", "()Z"⟩, 12), (⟨"ShareTablesModel", "rank", "()I"⟩, 12), (⟨"ShareTablesModel", "between", "(IIII)I"⟩, 12)]
theorem lw_r1 : ∀ q ∈ lw_privs_1, lw_okq q := List.forall_mem_cons.mpr ⟨lw_p0, List.forall_mem_cons.mpr ⟨lw_p1, List.forall_mem_cons.mpr ⟨lw_p2, List.forall_mem_cons.mpr ⟨lw_p3, List.forall_mem_cons.mpr ⟨lw_p4, List.forall_mem_cons.mpr ⟨lw_p5, List.forall_mem_cons.mpr ⟨lw_p6, List.forall_mem_cons.mpr ⟨lw_p7, List.forall_mem_cons.mpr ⟨lw_p8, List.forall_mem_cons.mpr ⟨lw_p9, List.forall_mem_cons.mpr ⟨lw_p10, List.forall_mem_cons.mpr ⟨lw_p11, List.forall_mem_cons.mpr ⟨lw_p12, List.forall_mem_cons.mpr ⟨lw_p13, List.forall_mem_cons.mpr ⟨lw_p14, List.forall_mem_cons.mpr ⟨lw_p15, fun _ h => absurd h List.not_mem_nil⟩⟩⟩⟩⟩⟩⟩⟩⟩⟩⟩⟩⟩⟩⟩⟩
theorem lw_p16 : lw_okq (⟨"ShareTablesModel", "isColour", "(I)Z"⟩, 12) := ⟨⟨by decide +kernel, by decide +kernel⟩, List.mem_of_getElem? (i := 412) (by decide +kernel), List.mem_of_getElem? (i := 506) (by decide +kernel), List.mem_of_getElem? (i := 507) (by decide +kernel)⟩
theorem lw_p17 : lw_okq (⟨"ShareTablesModel", "isEven", "()Z"⟩, 12) := ⟨⟨by decide +kernel, by decide +kernel⟩, List.mem_of_getElem? (i := 412) (by decide +kernel), List.mem_of_getElem? (i := 510) (by decide +kernel), List.mem_of_getElem? (i := 511) (by decide +kernel)⟩
theorem lw_p18 : lw_okq (⟨"ShareTablesModel", "numberOf", "(III)I"⟩, 12) := ⟨⟨by decide +kernel, by decide +kernel⟩, List.mem_of_getElem? (i := 412) (by decide +kernel), List.mem_of_getElem? (i := 514) (by decide +kernel), List.mem_of_getElem? (i := 515) (by decide +kernel)⟩
theorem lw_p19 : lw_okq (⟨"ShareTablesModel", "degree", "(I)I"⟩, 12) := ⟨⟨by decide +kernel, by decide +kernel⟩, List.mem_of_getElem? (i := 412) (by decide +kernel), List.mem_of_getElem? (i := 522) (by decide +kernel), List.mem_of_getElem? (i := 523) (by decide +kernel)⟩
theorem lw_p20 : lw_okq (⟨"ShareTablesModel", "isSet", "(I)Z"⟩, 12) := ⟨⟨by decide +kernel, by decide +kernel⟩, List.mem_of_getElem? (i := 412) (by decide +kernel), List.mem_of_getElem? (i := 534) (by decide +kernel), List.mem_of_getElem? (i := 535) (by decide +kernel)⟩
theorem lw_p21 : lw_okq (⟨"ShareTablesModel", "hull", "(I)I"⟩, 12) := ⟨⟨by decide +kernel, by decide +kernel⟩, List.mem_of_getElem? (i := 412) (by decide +kernel), List.mem_of_getElem? (i := 538) (by decide +kernel), List.mem_of_getElem? (i := 539) (by decide +kernel)⟩
theorem lw_p22 : lw_okq (⟨"ShareTablesModel", "grown", "(I)I"⟩, 12) := ⟨⟨by decide +kernel, by decide +kernel⟩, List.mem_of_getElem? (i := 412) (by decide +kernel), List.mem_of_getElem? (i := 542) (by decide +kernel), List.mem_of_getElem? (i := 543) (by decide +kernel)⟩
theorem lw_p23 : lw_okq (⟨"ShareTablesModel", "orderOf", "(I)I"⟩, 12) := ⟨⟨by decide +kernel, by decide +kernel⟩, List.mem_of_getElem? (i := 412) (by decide +kernel), List.mem_of_getElem? (i := 550) (by decide +kernel), List.mem_of_getElem? (i := 551) (by decide +kernel)⟩
theorem lw_p24 : lw_okq (⟨"ShareTablesModel", "weights", "()I"⟩, 12) := ⟨⟨by decide +kernel, by decide +kernel⟩, List.mem_of_getElem? (i := 412) (by decide +kernel), List.mem_of_getElem? (i := 577) (by decide +kernel), List.mem_of_getElem? (i := 578) (by decide +kernel)⟩
def lw_privs_2 : List (MethodName × Nat) := [(⟨"ShareTablesModel", "isColour", "(I)Z"⟩, 12), (⟨"ShareTablesModel", "isEven", "()Z"⟩, 12), (⟨"ShareTablesModel", "numberOf", "(III)I"⟩, 12), (⟨"ShareTablesModel", "degree", "(I)I"⟩, 12), (⟨"ShareTablesModel", "isSet", "(I)Z"⟩, 12), (⟨"ShareTablesModel", "hull", "(I)I"⟩, 12), (⟨"ShareTablesModel", "grown", "(I)I"⟩, 12), (⟨"ShareTablesModel", "orderOf", "(I)I"⟩, 12), (⟨"ShareTablesModel", "weights", "()I"⟩, 12)]
theorem lw_r2 : ∀ q ∈ lw_privs_2, lw_okq q := List.forall_mem_cons.mpr ⟨lw_p16, List.forall_mem_cons.mpr ⟨lw_p17, List.forall_mem_cons.mpr ⟨lw_p18, List.forall_mem_cons.mpr ⟨lw_p19, List.forall_mem_cons.mpr ⟨lw_p20, List.forall_mem_cons.mpr ⟨lw_p21, List.forall_mem_cons.mpr ⟨lw_p22, List.forall_mem_cons.mpr ⟨lw_p23, List.forall_mem_cons.mpr ⟨lw_p24, fun _ h => absurd h List.not_mem_nil⟩⟩⟩⟩⟩⟩⟩⟩⟩
def lw_privs : List (MethodName × Nat) := lw_privs_1 ++ (lw_privs_2)
def lw_tbl : List Cond := k2_sels lw_privs ++ tables_1
theorem lw_privs_ok : ∀ q ∈ lw_privs, lw_okq q := by
  show ∀ q ∈ lw_privs_1 ++ (lw_privs_2), lw_okq q
  exact List.forall_mem_append.mpr ⟨lw_r1, lw_r2⟩

def RX0 : String := "ShareTables$Colouring"
def TX0 : u_T := fun k => match k with
  | 0 => ("ShareTables$Colouring", "colours", "[I", true)
  | 1 => ("ShareTables$Colouring", "firsts", "[I", true)
  | 2 => ("ShareTables$Colouring", "numbers", "[I", true)
  | 3 => ("ShareTables$Colouring", "counts", "[I", true)
  | 4 => ("ShareTables$Colouring", "size", "I", false)
  | 5 => ("ShareTables$Colouring", "rank", "I", false)
  | _ => ("ShareTables$Colouring", "failure", "I", false)
def tyX0 : Nat → FieldType := fun k => match k with
  | 0 => .array .int
  | 1 => .array .int
  | 2 => .array .int
  | 3 => .array .int
  | 4 => .int
  | 5 => .int
  | _ => .int
theorem nmX0 : ∀ a, a < 7 → ∀ b, b < 7 → a ≠ b → (TX0 a).2.1 ≠ (TX0 b).2.1 := by decide +kernel
theorem tyX0_ok : ∀ k, k < 7 → parseFieldDescriptor (TX0 k).2.2.1 = some (tyX0 k) := by decide +kernel
abbrev cX0_init : ByteArray := prog_2_method_1_code
def yX0_init : MethodName := ⟨RX0, "<init>", "()V"⟩
abbrev cX0_colourOf : ByteArray := prog_2_method_2_code
def yX0_colourOf : MethodName := ⟨RX0, "colourOf", "(II)I"⟩
abbrev cX0_paint : ByteArray := prog_2_method_3_code
def yX0_paint : MethodName := ⟨RX0, "paint", "(III)V"⟩
abbrev cX0_begin : ByteArray := prog_2_method_4_code
def yX0_begin : MethodName := ⟨RX0, "begin", "(I)V"⟩
abbrev cX0_paintRing : ByteArray := prog_2_method_5_code
def yX0_paintRing : MethodName := ⟨RX0, "paintRing", "(I)V"⟩
abbrev cX0_paintFused : ByteArray := prog_2_method_6_code
def yX0_paintFused : MethodName := ⟨RX0, "paintFused", "(LShareTables$Colouring;I)V"⟩
abbrev cX0_fusedColour : ByteArray := prog_2_method_7_code
def yX0_fusedColour : MethodName := ⟨RX0, "fusedColour", "(II)I"⟩
abbrev cX0_measure : ByteArray := prog_2_method_8_code
def yX0_measure : MethodName := ⟨RX0, "measure", "()V"⟩
abbrev cX0_findFirsts : ByteArray := prog_2_method_9_code
def yX0_findFirsts : MethodName := ⟨RX0, "findFirsts", "()V"⟩
abbrev cX0_firstFailure : ByteArray := prog_2_method_10_code
def yX0_firstFailure : MethodName := ⟨RX0, "firstFailure", "()I"⟩
abbrev cX0_failureAt : ByteArray := prog_2_method_11_code
def yX0_failureAt : MethodName := ⟨RX0, "failureAt", "(III)I"⟩
abbrev cX0_misplacedZero : ByteArray := prog_2_method_12_code
def yX0_misplacedZero : MethodName := ⟨RX0, "misplacedZero", "()I"⟩
abbrev cX0_missingColour : ByteArray := prog_2_method_13_code
def yX0_missingColour : MethodName := ⟨RX0, "missingColour", "()I"⟩
abbrev cX0_wrongReversal : ByteArray := prog_2_method_14_code
def yX0_wrongReversal : MethodName := ⟨RX0, "wrongReversal", "()I"⟩
abbrev cX0_wrongCounts : ByteArray := prog_2_method_15_code
def yX0_wrongCounts : MethodName := ⟨RX0, "wrongCounts", "()I"⟩
abbrev cX0_countBetween : ByteArray := prog_2_method_16_code
def yX0_countBetween : MethodName := ⟨RX0, "countBetween", "(II)V"⟩
abbrev cX0_keepCounts : ByteArray := prog_2_method_17_code
def yX0_keepCounts : MethodName := ⟨RX0, "keepCounts", "(I)V"⟩
abbrev cX0_countsAreKept : ByteArray := prog_2_method_18_code
def yX0_countsAreKept : MethodName := ⟨RX0, "countsAreKept", "(I)Z"⟩
abbrev cX0_reverseOf : ByteArray := prog_2_method_19_code
def yX0_reverseOf : MethodName := ⟨RX0, "reverseOf", "(I)I"⟩
abbrev cX0_numberOf : ByteArray := prog_2_method_20_code
def yX0_numberOf : MethodName := ⟨RX0, "numberOf", "(III)I"⟩
abbrev cX0_degreeOf : ByteArray := prog_2_method_21_code
def yX0_degreeOf : MethodName := ⟨RX0, "degreeOf", "(I)I"⟩
abbrev cX0_multipliesEitherWay : ByteArray := prog_2_method_22_code
def yX0_multipliesEitherWay : MethodName := ⟨RX0, "multipliesEitherWay", "()Z"⟩
abbrev cX0_has : ByteArray := prog_2_method_23_code
def yX0_has : MethodName := ⟨RX0, "has", "(II)Z"⟩
abbrev cX0_isClosed : ByteArray := prog_2_method_24_code
def yX0_isClosed : MethodName := ⟨RX0, "isClosed", "(I)Z"⟩
abbrev cX0_productsOf : ByteArray := prog_2_method_25_code
def yX0_productsOf : MethodName := ⟨RX0, "productsOf", "(I)I"⟩
abbrev cX0_productsOfTwo : ByteArray := prog_2_method_26_code
def yX0_productsOfTwo : MethodName := ⟨RX0, "productsOfTwo", "(II)I"⟩
abbrev cX0_hullOf : ByteArray := prog_2_method_27_code
def yX0_hullOf : MethodName := ⟨RX0, "hullOf", "(I)I"⟩
abbrev cX0_closedSets : ByteArray := prog_2_method_28_code
def yX0_closedSets : MethodName := ⟨RX0, "closedSets", "()I"⟩
abbrev cX0_orderOf : ByteArray := prog_2_method_29_code
def yX0_orderOf : MethodName := ⟨RX0, "orderOf", "(I)I"⟩
def RX1 : String := "ShareTables$Division"
def TX1 : u_T := fun k => match k with
  | 0 => ("ShareTables$Division", "blocks", "[I", true)
  | 1 => ("ShareTables$Division", "leasts", "[I", true)
  | 2 => ("ShareTables$Division", "between", "[I", true)
  | _ => ("ShareTables$Division", "size", "I", false)
def tyX1 : Nat → FieldType := fun k => match k with
  | 0 => .array .int
  | 1 => .array .int
  | 2 => .array .int
  | _ => .int
theorem nmX1 : ∀ a, a < 4 → ∀ b, b < 4 → a ≠ b → (TX1 a).2.1 ≠ (TX1 b).2.1 := by decide +kernel
theorem tyX1_ok : ∀ k, k < 4 → parseFieldDescriptor (TX1 k).2.2.1 = some (tyX1 k) := by decide +kernel
abbrev cX1_init : ByteArray := prog_3_method_1_code
def yX1_init : MethodName := ⟨RX1, "<init>", "()V"⟩
abbrev cX1_divide : ByteArray := prog_3_method_2_code
def yX1_divide : MethodName := ⟨RX1, "divide", "(LShareTables$Colouring;ILShareTables$Colouring;)V"⟩
abbrev cX1_findBlocks : ByteArray := prog_3_method_3_code
def yX1_findBlocks : MethodName := ⟨RX1, "findBlocks", "(LShareTables$Colouring;I)V"⟩
abbrev cX1_joinColours : ByteArray := prog_3_method_4_code
def yX1_joinColours : MethodName := ⟨RX1, "joinColours", "(LShareTables$Colouring;)V"⟩
abbrev cX1_join : ByteArray := prog_3_method_5_code
def yX1_join : MethodName := ⟨RX1, "join", "(II)V"⟩
abbrev cX1_kindOf : ByteArray := prog_3_method_6_code
def yX1_kindOf : MethodName := ⟨RX1, "kindOf", "(I)I"⟩
def RX2 : String := "ShareTables$Sieve"
def TX2 : u_T := fun k => match k with
  | _ => ("", "", "", false)
def tyX2 : Nat → FieldType := fun k => match k with
  | _ => .int
theorem nmX2 : ∀ a, a < 0 → ∀ b, b < 0 → a ≠ b → (TX2 a).2.1 ≠ (TX2 b).2.1 := by decide +kernel
theorem tyX2_ok : ∀ k, k < 0 → parseFieldDescriptor (TX2 k).2.2.1 = some (tyX2 k) := by decide +kernel
abbrev cX2_firstFailure : ByteArray := prog_4_method_2_code
def yX2_firstFailure : MethodName := ⟨RX2, "firstFailure", "(IIII)I"⟩
abbrev cX2_breaksBound : ByteArray := prog_4_method_3_code
def yX2_breaksBound : MethodName := ⟨RX2, "breaksBound", "(III)Z"⟩
abbrev cX2_wholeRoot : ByteArray := prog_4_method_4_code
def yX2_wholeRoot : MethodName := ⟨RX2, "wholeRoot", "(I)I"⟩
def RX3 : String := "ShareTables$Walk"
def TX3 : u_T := fun k => match k with
  | 0 => ("ShareTables$Walk", "shares", "[J", true)
  | 1 => ("ShareTables$Walk", "ways", "[J", true)
  | 2 => ("ShareTables$Walk", "nextWays", "[J", true)
  | _ => ("ShareTables$Walk", "all", "J", false)
def tyX3 : Nat → FieldType := fun k => match k with
  | 0 => .array .long
  | 1 => .array .long
  | 2 => .array .long
  | _ => .long
theorem nmX3 : ∀ a, a < 4 → ∀ b, b < 4 → a ≠ b → (TX3 a).2.1 ≠ (TX3 b).2.1 := by decide +kernel
theorem tyX3_ok : ∀ k, k < 4 → parseFieldDescriptor (TX3 k).2.2.1 = some (tyX3 k) := by decide +kernel
abbrev cX3_init : ByteArray := prog_5_method_1_code
def yX3_init : MethodName := ⟨RX3, "<init>", "()V"⟩
abbrev cX3_go : ByteArray := prog_5_method_2_code
def yX3_go : MethodName := ⟨RX3, "go", "(LShareTables$Colouring;[II)V"⟩
abbrev cX3_share : ByteArray := prog_5_method_3_code
def yX3_share : MethodName := ⟨RX3, "share", "(LShareTables$Colouring;[I)J"⟩
abbrev cX3_step : ByteArray := prog_5_method_4_code
def yX3_step : MethodName := ⟨RX3, "step", "(LShareTables$Colouring;)V"⟩
abbrev cX3_waysTo : ByteArray := prog_5_method_5_code
def yX3_waysTo : MethodName := ⟨RX3, "waysTo", "(LShareTables$Colouring;I)J"⟩
abbrev cX3_commonMultiple : ByteArray := prog_5_method_6_code
def yX3_commonMultiple : MethodName := ⟨RX3, "commonMultiple", "(JJ)J"⟩
abbrev cX3_commonDivisor : ByteArray := prog_5_method_7_code
def yX3_commonDivisor : MethodName := ⟨RX3, "commonDivisor", "(JJ)J"⟩
def RX4 : String := "ShareTables"
def TX4 : u_T := fun k => match k with
  | 0 => ("ShareTables", "weights", "[I", true)
  | 1 => ("ShareTables", "walk", "LShareTables$Walk;", true)
  | 2 => ("ShareTables", "division", "LShareTables$Division;", true)
  | 3 => ("ShareTables", "now", "LShareTables$Colouring;", false)
  | 4 => ("ShareTables", "spare", "LShareTables$Colouring;", false)
  | _ => ("ShareTables", "traced", "J", false)
def tyX4 : Nat → FieldType := fun k => match k with
  | 0 => .array .int
  | 1 => .object "ShareTables$Walk"
  | 2 => .object "ShareTables$Division"
  | 3 => .object "ShareTables$Colouring"
  | 4 => .object "ShareTables$Colouring"
  | _ => .long
theorem nmX4 : ∀ a, a < 6 → ∀ b, b < 6 → a ≠ b → (TX4 a).2.1 ≠ (TX4 b).2.1 := by decide +kernel
theorem tyX4_ok : ∀ k, k < 6 → parseFieldDescriptor (TX4 k).2.2.1 = some (tyX4 k) := by decide +kernel
abbrev cX4_init : ByteArray := prog_1_method_1_code
def yX4_init : MethodName := ⟨RX4, "<init>", "()V"⟩
abbrev cX4_points : ByteArray := prog_1_method_2_code
def yX4_points : MethodName := ⟨RX4, "points", "(I)I"⟩
abbrev cX4_colour : ByteArray := prog_1_method_3_code
def yX4_colour : MethodName := ⟨RX4, "colour", "(III)I"⟩
abbrev cX4_at : ByteArray := prog_1_method_4_code
def yX4_at : MethodName := ⟨RX4, "at", "(II)I"⟩
abbrev cX4_ring : ByteArray := prog_1_method_5_code
def yX4_ring : MethodName := ⟨RX4, "ring", "(I)I"⟩
abbrev cX4_fails : ByteArray := prog_1_method_6_code
def yX4_fails : MethodName := ⟨RX4, "fails", "()I"⟩
abbrev cX4_number : ByteArray := prog_1_method_7_code
def yX4_number : MethodName := ⟨RX4, "number", "(III)I"⟩
abbrev cX4_of : ByteArray := prog_1_method_8_code
def yX4_of : MethodName := ⟨RX4, "of", "(II)I"⟩
abbrev cX4_turns : ByteArray := prog_1_method_9_code
def yX4_turns : MethodName := ⟨RX4, "turns", "()I"⟩
abbrev cX4_closed : ByteArray := prog_1_method_10_code
def yX4_closed : MethodName := ⟨RX4, "closed", "(II)I"⟩
abbrev cX4_order : ByteArray := prog_1_method_11_code
def yX4_order : MethodName := ⟨RX4, "order", "(I)I"⟩
abbrev cX4_worth : ByteArray := prog_1_method_12_code
def yX4_worth : MethodName := ⟨RX4, "worth", "(II)I"⟩
abbrev cX4_fuse : ByteArray := prog_1_method_13_code
def yX4_fuse : MethodName := ⟨RX4, "fuse", "(I)I"⟩
abbrev cX4_quotient : ByteArray := prog_1_method_14_code
def yX4_quotient : MethodName := ⟨RX4, "quotient", "(I)I"⟩
abbrev cX4_weight : ByteArray := prog_1_method_15_code
def yX4_weight : MethodName := ⟨RX4, "weight", "(II)I"⟩
abbrev cX4_chance : ByteArray := prog_1_method_16_code
def yX4_chance : MethodName := ⟨RX4, "chance", "(III)J"⟩
abbrev cX4_sieve : ByteArray := prog_1_method_17_code
def yX4_sieve : MethodName := ⟨RX4, "sieve", "(IIII)I"⟩
abbrev cX4_many : ByteArray := prog_1_method_18_code
def yX4_many : MethodName := ⟨RX4, "many", "(I)I"⟩
abbrev cX4_count : ByteArray := prog_1_method_19_code
def yX4_count : MethodName := ⟨RX4, "count", "(I)I"⟩
abbrev cX4_trace : ByteArray := prog_1_method_20_code
def yX4_trace : MethodName := ⟨RX4, "trace", "()J"⟩
abbrev cX4_isPoint : ByteArray := prog_1_method_21_code
def yX4_isPoint : MethodName := ⟨RX4, "isPoint", "(I)Z"⟩
abbrev cX4_isColour : ByteArray := prog_1_method_22_code
def yX4_isColour : MethodName := ⟨RX4, "isColour", "(I)Z"⟩
abbrev cX4_isSet : ByteArray := prog_1_method_23_code
def yX4_isSet : MethodName := ⟨RX4, "isSet", "(I)Z"⟩
abbrev cX4_isEven : ByteArray := prog_1_method_24_code
def yX4_isEven : MethodName := ⟨RX4, "isEven", "()Z"⟩
abbrev cX4_mapsEveryColour : ByteArray := prog_1_method_25_code
def yX4_mapsEveryColour : MethodName := ⟨RX4, "mapsEveryColour", "(I)Z"⟩
abbrev cX4_weightBelowRank : ByteArray := prog_1_method_26_code
def yX4_weightBelowRank : MethodName := ⟨RX4, "weightBelowRank", "()I"⟩
abbrev cX4_takeSpare : ByteArray := prog_1_method_27_code
def yX4_takeSpare : MethodName := ⟨RX4, "takeSpare", "()V"⟩
abbrev cX4_worthByDegrees : ByteArray := prog_1_method_28_code
def yX4_worthByDegrees : MethodName := ⟨RX4, "worthByDegrees", "(I)I"⟩
abbrev cX4_worthByHulls : ByteArray := prog_1_method_29_code
def yX4_worthByHulls : MethodName := ⟨RX4, "worthByHulls", "(I)I"⟩
abbrev cX4_worthByTriples : ByteArray := prog_1_method_30_code
def yX4_worthByTriples : MethodName := ⟨RX4, "worthByTriples", "(I)I"⟩
def RX5 : String := "ShareTablesModel"
def TX5 : u_T := fun k => match k with
  | 0 => ("ShareTablesModel", "thrown", "I", false)
  | 1 => ("ShareTablesModel", "trace", "J", false)
  | 2 => ("ShareTablesModel", "n", "I", false)
  | 3 => ("ShareTablesModel", "colour", "[I", true)
  | 4 => ("ShareTablesModel", "kept", "[I", true)
  | 5 => ("ShareTablesModel", "weight", "[I", true)
  | 6 => ("ShareTablesModel", "firstA", "[I", true)
  | 7 => ("ShareTablesModel", "firstB", "[I", true)
  | 8 => ("ShareTablesModel", "block", "[I", true)
  | 9 => ("ShareTablesModel", "kind", "[I", true)
  | 10 => ("ShareTablesModel", "at", "[J", true)
  | _ => ("ShareTablesModel", "next", "[J", true)
def tyX5 : Nat → FieldType := fun k => match k with
  | 0 => .int
  | 1 => .long
  | 2 => .int
  | 3 => .array .int
  | 4 => .array .int
  | 5 => .array .int
  | 6 => .array .int
  | 7 => .array .int
  | 8 => .array .int
  | 9 => .array .int
  | 10 => .array .long
  | _ => .array .long
theorem nmX5 : ∀ a, a < 12 → ∀ b, b < 12 → a ≠ b → (TX5 a).2.1 ≠ (TX5 b).2.1 := by decide +kernel
theorem tyX5_ok : ∀ k, k < 12 → parseFieldDescriptor (TX5 k).2.2.1 = some (tyX5 k) := by decide +kernel
abbrev cX5_init : ByteArray := prog_7_method_1_code
def yX5_init : MethodName := ⟨RX5, "<init>", "()V"⟩
abbrev cX5_in : ByteArray := prog_7_method_3_code
def yX5_in : MethodName := ⟨RX5, "in", "(III)Z"⟩
abbrev cX5_isPoint : ByteArray := prog_7_method_4_code
def yX5_isPoint : MethodName := ⟨RX5, "isPoint", "(I)Z"⟩
abbrev cX5_hue : ByteArray := prog_7_method_5_code
def yX5_hue : MethodName := ⟨RX5, "hue", "(II)I"⟩
abbrev cX5_points : ByteArray := prog_7_method_6_code
def yX5_points : MethodName := ⟨RX5, "points", "(I)I"⟩
abbrev cX5_colour : ByteArray := prog_7_method_7_code
def yX5_colour : MethodName := ⟨RX5, "colour", "(III)I"⟩
abbrev cX5_at : ByteArray := prog_7_method_8_code
def yX5_at : MethodName := ⟨RX5, "at", "(II)I"⟩
abbrev cX5_ring : ByteArray := prog_7_method_9_code
def yX5_ring : MethodName := ⟨RX5, "ring", "(I)I"⟩
abbrev cX5_rank : ByteArray := prog_7_method_10_code
def yX5_rank : MethodName := ⟨RX5, "rank", "()I"⟩
abbrev cX5_between : ByteArray := prog_7_method_11_code
def yX5_between : MethodName := ⟨RX5, "between", "(IIII)I"⟩
abbrev cX5_firsts : ByteArray := prog_7_method_12_code
def yX5_firsts : MethodName := ⟨RX5, "firsts", "()Z"⟩
abbrev cX5_failsBy : ByteArray := prog_7_method_13_code
def yX5_failsBy : MethodName := ⟨RX5, "failsBy", "()I"⟩
abbrev cX5_fails : ByteArray := prog_7_method_14_code
def yX5_fails : MethodName := ⟨RX5, "fails", "()I"⟩
abbrev cX5_isColour : ByteArray := prog_7_method_15_code
def yX5_isColour : MethodName := ⟨RX5, "isColour", "(I)Z"⟩
abbrev cX5_isEven : ByteArray := prog_7_method_16_code
def yX5_isEven : MethodName := ⟨RX5, "isEven", "()Z"⟩
abbrev cX5_numberOf : ByteArray := prog_7_method_17_code
def yX5_numberOf : MethodName := ⟨RX5, "numberOf", "(III)I"⟩
abbrev cX5_number : ByteArray := prog_7_method_18_code
def yX5_number : MethodName := ⟨RX5, "number", "(III)I"⟩
abbrev cX5_degree : ByteArray := prog_7_method_19_code
def yX5_degree : MethodName := ⟨RX5, "degree", "(I)I"⟩
abbrev cX5_of : ByteArray := prog_7_method_20_code
def yX5_of : MethodName := ⟨RX5, "of", "(II)I"⟩
abbrev cX5_turns : ByteArray := prog_7_method_21_code
def yX5_turns : MethodName := ⟨RX5, "turns", "()I"⟩
abbrev cX5_grown : ByteArray := prog_7_method_22_code
def yX5_grown : MethodName := ⟨RX5, "grown", "(I)I"⟩
abbrev cX5_hull : ByteArray := prog_7_method_23_code
def yX5_hull : MethodName := ⟨RX5, "hull", "(I)I"⟩
abbrev cX5_isSet : ByteArray := prog_7_method_24_code
def yX5_isSet : MethodName := ⟨RX5, "isSet", "(I)Z"⟩
abbrev cX5_closed : ByteArray := prog_7_method_25_code
def yX5_closed : MethodName := ⟨RX5, "closed", "(II)I"⟩
abbrev cX5_orderOf : ByteArray := prog_7_method_26_code
def yX5_orderOf : MethodName := ⟨RX5, "orderOf", "(I)I"⟩
abbrev cX5_order : ByteArray := prog_7_method_27_code
def yX5_order : MethodName := ⟨RX5, "order", "(I)I"⟩
abbrev cX5_worth : ByteArray := prog_7_method_28_code
def yX5_worth : MethodName := ⟨RX5, "worth", "(II)I"⟩
abbrev cX5_fuse : ByteArray := prog_7_method_29_code
def yX5_fuse : MethodName := ⟨RX5, "fuse", "(I)I"⟩
abbrev cX5_quotient : ByteArray := prog_7_method_30_code
def yX5_quotient : MethodName := ⟨RX5, "quotient", "(I)I"⟩
abbrev cX5_weight : ByteArray := prog_7_method_31_code
def yX5_weight : MethodName := ⟨RX5, "weight", "(II)I"⟩
abbrev cX5_weights : ByteArray := prog_7_method_32_code
def yX5_weights : MethodName := ⟨RX5, "weights", "()I"⟩
abbrev cX5_common : ByteArray := prog_7_method_33_code
def yX5_common : MethodName := ⟨RX5, "common", "(JJ)J"⟩
abbrev cX5_chance : ByteArray := prog_7_method_34_code
def yX5_chance : MethodName := ⟨RX5, "chance", "(III)J"⟩
abbrev cX5_root : ByteArray := prog_7_method_35_code
def yX5_root : MethodName := ⟨RX5, "root", "(I)I"⟩
abbrev cX5_sieved : ByteArray := prog_7_method_36_code
def yX5_sieved : MethodName := ⟨RX5, "sieved", "(IIII)I"⟩
abbrev cX5_sieve : ByteArray := prog_7_method_37_code
def yX5_sieve : MethodName := ⟨RX5, "sieve", "(IIII)I"⟩
abbrev cX5_many : ByteArray := prog_7_method_38_code
def yX5_many : MethodName := ⟨RX5, "many", "(I)I"⟩
abbrev cX5_count : ByteArray := prog_7_method_39_code
def yX5_count : MethodName := ⟨RX5, "count", "(I)I"⟩
abbrev cX5_trace : ByteArray := prog_7_method_40_code
def yX5_trace : MethodName := ⟨RX5, "trace", "()J"⟩
def RL : String := "ShareTablesLaw"
abbrev cL_law : ByteArray := code
def yL_law : MethodName := ⟨RL, "law", "([I)Z"⟩
abbrev vwCl : List vw_C := [(RX0, TX0, 7), (RX1, TX1, 4), (RX3, TX3, 4), (RX4, TX4, 6), (RX5, TX5, 12)]
