/-! the tables' words (the skeleton's PART A), then names as the program prints them -/
/-- a private method of a class that the tables say can be made, by its rows of tables_1 -/
def lw_okq (q : MethodName × Nat) : Prop := (q.1.cls ≠ "java/lang/invoke/MethodHandle" ∧ q.1.cls ≠ "java/lang/invoke/VarHandle") ∧ Cond.instantiable q.1.cls q.2 ∈ tables_1 ∧ Cond.privateMethod q.1 ∈ tables_1 ∧ Cond.instanceMethod q.1 ∈ tables_1
theorem lw_p0 : lw_okq (⟨"HelterSlide$History", "forgetOldest", "()V"⟩, 2) := ⟨⟨by decide +kernel, by decide +kernel⟩, List.mem_of_getElem? (i := 75) (by decide +kernel), List.mem_of_getElem? (i := 229) (by decide +kernel), List.mem_of_getElem? (i := 230) (by decide +kernel)⟩
theorem lw_p1 : lw_okq (⟨"HelterSlide$Slide", "liftFrom", "(I)V"⟩, 9) := ⟨⟨by decide +kernel, by decide +kernel⟩, List.mem_of_getElem? (i := 21) (by decide +kernel), List.mem_of_getElem? (i := 274) (by decide +kernel), List.mem_of_getElem? (i := 275) (by decide +kernel)⟩
theorem lw_p2 : lw_okq (⟨"HelterSlide$Tape", "readTurns", "(LHelterSlide$Slide;)Z"⟩, 3) := ⟨⟨by decide +kernel, by decide +kernel⟩, List.mem_of_getElem? (i := 92) (by decide +kernel), List.mem_of_getElem? (i := 340) (by decide +kernel), List.mem_of_getElem? (i := 341) (by decide +kernel)⟩
theorem lw_p3 : lw_okq (⟨"HelterSlide$Tape", "readDigit", "(II)I"⟩, 3) := ⟨⟨by decide +kernel, by decide +kernel⟩, List.mem_of_getElem? (i := 92) (by decide +kernel), List.mem_of_getElem? (i := 344) (by decide +kernel), List.mem_of_getElem? (i := 345) (by decide +kernel)⟩
theorem lw_p4 : lw_okq (⟨"HelterSlide$Tape", "nextLetter", "()I"⟩, 3) := ⟨⟨by decide +kernel, by decide +kernel⟩, List.mem_of_getElem? (i := 92) (by decide +kernel), List.mem_of_getElem? (i := 348) (by decide +kernel), List.mem_of_getElem? (i := 349) (by decide +kernel)⟩
theorem lw_p5 : lw_okq (⟨"HelterSlide$Tape", "skipBlanks", "()V"⟩, 3) := ⟨⟨by decide +kernel, by decide +kernel⟩, List.mem_of_getElem? (i := 92) (by decide +kernel), List.mem_of_getElem? (i := 352) (by decide +kernel), List.mem_of_getElem? (i := 353) (by decide +kernel)⟩
theorem lw_p6 : lw_okq (⟨"HelterSlide$Tape", "letterHere", "()I"⟩, 3) := ⟨⟨by decide +kernel, by decide +kernel⟩, List.mem_of_getElem? (i := 92) (by decide +kernel), List.mem_of_getElem? (i := 356) (by decide +kernel), List.mem_of_getElem? (i := 357) (by decide +kernel)⟩
theorem lw_p7 : lw_okq (⟨"HelterSlide$Tape", "readRiders", "(LHelterSlide$Slide;)Z"⟩, 3) := ⟨⟨by decide +kernel, by decide +kernel⟩, List.mem_of_getElem? (i := 92) (by decide +kernel), List.mem_of_getElem? (i := 361) (by decide +kernel), List.mem_of_getElem? (i := 362) (by decide +kernel)⟩
theorem lw_p8 : lw_okq (⟨"HelterSlide$Tape", "readRider", "(LHelterSlide$Slide;)Z"⟩, 3) := ⟨⟨by decide +kernel, by decide +kernel⟩, List.mem_of_getElem? (i := 92) (by decide +kernel), List.mem_of_getElem? (i := 365) (by decide +kernel), List.mem_of_getElem? (i := 366) (by decide +kernel)⟩
theorem lw_p9 : lw_okq (⟨"HelterSlide$Tape", "readHeavy", "()I"⟩, 3) := ⟨⟨by decide +kernel, by decide +kernel⟩, List.mem_of_getElem? (i := 92) (by decide +kernel), List.mem_of_getElem? (i := 372) (by decide +kernel), List.mem_of_getElem? (i := 373) (by decide +kernel)⟩
theorem lw_p10 : lw_okq (⟨"HelterSlide", "firstWaxFor", "(III)I"⟩, 12) := ⟨⟨by decide +kernel, by decide +kernel⟩, List.mem_of_getElem? (i := 13) (by decide +kernel), List.mem_of_getElem? (i := 482) (by decide +kernel), List.mem_of_getElem? (i := 483) (by decide +kernel)⟩
theorem lw_p11 : lw_okq (⟨"HelterSlide", "throughWithoutBump", "(I)I"⟩, 12) := ⟨⟨by decide +kernel, by decide +kernel⟩, List.mem_of_getElem? (i := 13) (by decide +kernel), List.mem_of_getElem? (i := 497) (by decide +kernel), List.mem_of_getElem? (i := 498) (by decide +kernel)⟩
theorem lw_p12 : lw_okq (⟨"HelterSlide", "findBestOrder", "()I"⟩, 12) := ⟨⟨by decide +kernel, by decide +kernel⟩, List.mem_of_getElem? (i := 13) (by decide +kernel), List.mem_of_getElem? (i := 511) (by decide +kernel), List.mem_of_getElem? (i := 512) (by decide +kernel)⟩
theorem lw_p13 : lw_okq (⟨"HelterSlide", "throughBy", "(LHelterSlide$Order;)I"⟩, 12) := ⟨⟨by decide +kernel, by decide +kernel⟩, List.mem_of_getElem? (i := 13) (by decide +kernel), List.mem_of_getElem? (i := 519) (by decide +kernel), List.mem_of_getElem? (i := 520) (by decide +kernel)⟩
theorem lw_p14 : lw_okq (⟨"HelterSlide$Order", "lastAbove", "(I)I"⟩, 2) := ⟨⟨by decide +kernel, by decide +kernel⟩, List.mem_of_getElem? (i := 111) (by decide +kernel), List.mem_of_getElem? (i := 543) (by decide +kernel), List.mem_of_getElem? (i := 544) (by decide +kernel)⟩
theorem lw_p15 : lw_okq (⟨"HelterSlide$Order", "swap", "(II)V"⟩, 2) := ⟨⟨by decide +kernel, by decide +kernel⟩, List.mem_of_getElem? (i := 111) (by decide +kernel), List.mem_of_getElem? (i := 547) (by decide +kernel), List.mem_of_getElem? (i := 548) (by decide +kernel)⟩
def lw_privs_1 : List (MethodName × Nat) := [(⟨"HelterSlide$History", "forgetOldest", "()V"⟩, 2), (⟨"HelterSlide$Slide", "liftFrom", "(I)V"⟩, 9), (⟨"HelterSlide$Tape", "readTurns", "(LHelterSlide$Slide;)Z"⟩, 3), (⟨"HelterSlide$Tape", "readDigit", "(II)I"⟩, 3), (⟨"HelterSlide$Tape", "nextLetter", "()I"⟩, 3), (⟨"HelterSlide$Tape", "skipBlanks", "()V"⟩, 3), (⟨"HelterSlide$Tape", "letterHere", "()I"⟩, 3), (⟨"HelterSlide$Tape", "readRiders", "(LHelterSlide$Slide;)Z"⟩, 3), (⟨"HelterSlide$Tape", "readRider", "(LHelterSlide$Slide;)Z"⟩, 3), (⟨"HelterSlide$Tape", "readHeavy", "()I"⟩, 3), (⟨"HelterSlide", "firstWaxFor", "(III)I"⟩, 12), (⟨"HelterSlide", "throughWithoutBump", "(I)I"⟩, 12), (⟨"HelterSlide", "findBestOrder", "()I"⟩, 12), (⟨"HelterSlide", "throughBy", "(LHelterSlide$Order;)I"⟩, 12), (⟨"HelterSlide$Order", "lastAbove", "(I)I"⟩, 2), (⟨"HelterSlide$Order", "swap", "(II)V"⟩, 2)]
theorem lw_r1 : ∀ q ∈ lw_privs_1, lw_okq q := List.forall_mem_cons.mpr ⟨lw_p0, List.forall_mem_cons.mpr ⟨lw_p1, List.forall_mem_cons.mpr ⟨lw_p2, List.forall_mem_cons.mpr ⟨lw_p3, List.forall_mem_cons.mpr ⟨lw_p4, List.forall_mem_cons.mpr ⟨lw_p5, List.forall_mem_cons.mpr ⟨lw_p6, List.forall_mem_cons.mpr ⟨lw_p7, List.forall_mem_cons.mpr ⟨lw_p8, List.forall_mem_cons.mpr ⟨lw_p9, List.forall_mem_cons.mpr ⟨lw_p10, List.forall_mem_cons.mpr ⟨lw_p11, List.forall_mem_cons.mpr ⟨lw_p12, List.forall_mem_cons.mpr ⟨lw_p13, List.forall_mem_cons.mpr ⟨lw_p14, List.forall_mem_cons.mpr ⟨lw_p15, fun _ h => absurd h List.not_mem_nil⟩⟩⟩⟩⟩⟩⟩⟩⟩⟩⟩⟩⟩⟩⟩⟩
theorem lw_p16 : lw_okq (⟨"HelterSlide$Order", "turnRound", "(I)V"⟩, 2) := ⟨⟨by decide +kernel, by decide +kernel⟩, List.mem_of_getElem? (i := 111) (by decide +kernel), List.mem_of_getElem? (i := 551) (by decide +kernel), List.mem_of_getElem? (i := 552) (by decide +kernel)⟩
theorem lw_p17 : lw_okq (⟨"HelterSlide$Rain", "passTurn", "(LHelterSlide$Slide;III)V"⟩, 2) := ⟨⟨by decide +kernel, by decide +kernel⟩, List.mem_of_getElem? (i := 125) (by decide +kernel), List.mem_of_getElem? (i := 573) (by decide +kernel), List.mem_of_getElem? (i := 574) (by decide +kernel)⟩
theorem lw_p18 : lw_okq (⟨"HelterSlide$Rain", "addWays", "(IJ)V"⟩, 2) := ⟨⟨by decide +kernel, by decide +kernel⟩, List.mem_of_getElem? (i := 125) (by decide +kernel), List.mem_of_getElem? (i := 579) (by decide +kernel), List.mem_of_getElem? (i := 580) (by decide +kernel)⟩
theorem lw_p19 : lw_okq (⟨"HelterSlide$Sheet", "cut", "(J)J"⟩, 3) := ⟨⟨by decide +kernel, by decide +kernel⟩, List.mem_of_getElem? (i := 138) (by decide +kernel), List.mem_of_getElem? (i := 627) (by decide +kernel), List.mem_of_getElem? (i := 628) (by decide +kernel)⟩
theorem lw_p20 : lw_okq (⟨"HelterSlide", "kindsClocked", "(IILHelterSlide$Sheet;II)I"⟩, 12) := ⟨⟨by decide +kernel, by decide +kernel⟩, List.mem_of_getElem? (i := 13) (by decide +kernel), List.mem_of_getElem? (i := 635) (by decide +kernel), List.mem_of_getElem? (i := 636) (by decide +kernel)⟩
theorem lw_p21 : lw_okq (⟨"HelterSlide", "heaviesClocked", "(IILHelterSlide$Sheet;II)I"⟩, 12) := ⟨⟨by decide +kernel, by decide +kernel⟩, List.mem_of_getElem? (i := 13) (by decide +kernel), List.mem_of_getElem? (i := 643) (by decide +kernel), List.mem_of_getElem? (i := 644) (by decide +kernel)⟩
def lw_privs_2 : List (MethodName × Nat) := [(⟨"HelterSlide$Order", "turnRound", "(I)V"⟩, 2), (⟨"HelterSlide$Rain", "passTurn", "(LHelterSlide$Slide;III)V"⟩, 2), (⟨"HelterSlide$Rain", "addWays", "(IJ)V"⟩, 2), (⟨"HelterSlide$Sheet", "cut", "(J)J"⟩, 3), (⟨"HelterSlide", "kindsClocked", "(IILHelterSlide$Sheet;II)I"⟩, 12), (⟨"HelterSlide", "heaviesClocked", "(IILHelterSlide$Sheet;II)I"⟩, 12)]
theorem lw_r2 : ∀ q ∈ lw_privs_2, lw_okq q := List.forall_mem_cons.mpr ⟨lw_p16, List.forall_mem_cons.mpr ⟨lw_p17, List.forall_mem_cons.mpr ⟨lw_p18, List.forall_mem_cons.mpr ⟨lw_p19, List.forall_mem_cons.mpr ⟨lw_p20, List.forall_mem_cons.mpr ⟨lw_p21, fun _ h => absurd h List.not_mem_nil⟩⟩⟩⟩⟩⟩
def lw_privs : List (MethodName × Nat) := lw_privs_1 ++ (lw_privs_2)
def lw_tbl : List Cond := k2_sels lw_privs ++ tables_1
theorem lw_privs_ok : ∀ q ∈ lw_privs, lw_okq q := by
  show ∀ q ∈ lw_privs_1 ++ (lw_privs_2), lw_okq q
  exact List.forall_mem_append.mpr ⟨lw_r1, lw_r2⟩
def RX0 : String := "HelterSlide$History"
def TX0 : u_T := fun k => match k with
  | 0 => ("HelterSlide$History", "pasts", "[LHelterSlide$Slide;", true)
  | _ => ("HelterSlide$History", "known", "I", false)
def tyX0 : Nat → FieldType := fun k => match k with
  | 0 => .array (.object "HelterSlide$Slide")
  | _ => .int
theorem nmX0 : ∀ a, a < 2 → ∀ b, b < 2 → a ≠ b → (TX0 a).2.1 ≠ (TX0 b).2.1 := by decide +kernel
theorem tyX0_ok : ∀ k, k < 2 → parseFieldDescriptor (TX0 k).2.2.1 = some (tyX0 k) := by decide +kernel
abbrev cX0_init : ByteArray := prog_2_method_1_code
def yX0_init : MethodName := ⟨RX0, "<init>", "()V"⟩
abbrev cX0_forgetAll : ByteArray := prog_2_method_2_code
def yX0_forgetAll : MethodName := ⟨RX0, "forgetAll", "()V"⟩
abbrev cX0_remember : ByteArray := prog_2_method_3_code
def yX0_remember : MethodName := ⟨RX0, "remember", "(LHelterSlide$Slide;)V"⟩
abbrev cX0_forgetOldest : ByteArray := prog_2_method_4_code
def yX0_forgetOldest : MethodName := ⟨RX0, "forgetOldest", "()V"⟩
abbrev cX0_takeBack : ByteArray := prog_2_method_5_code
def yX0_takeBack : MethodName := ⟨RX0, "takeBack", "(LHelterSlide$Slide;)Z"⟩
abbrev cX0_become : ByteArray := prog_2_method_6_code
def yX0_become : MethodName := ⟨RX0, "become", "(LHelterSlide$History;)V"⟩
def RX1 : String := "HelterSlide$Order"
def TX1 : u_T := fun k => match k with
  | 0 => ("HelterSlide$Order", "numbers", "[I", true)
  | _ => ("HelterSlide$Order", "size", "I", false)
def tyX1 : Nat → FieldType := fun k => match k with
  | 0 => .array .int
  | _ => .int
theorem nmX1 : ∀ a, a < 2 → ∀ b, b < 2 → a ≠ b → (TX1 a).2.1 ≠ (TX1 b).2.1 := by decide +kernel
theorem tyX1_ok : ∀ k, k < 2 → parseFieldDescriptor (TX1 k).2.2.1 = some (tyX1 k) := by decide +kernel
abbrev cX1_init : ByteArray := prog_3_method_1_code
def yX1_init : MethodName := ⟨RX1, "<init>", "()V"⟩
abbrev cX1_begin : ByteArray := prog_3_method_2_code
def yX1_begin : MethodName := ⟨RX1, "begin", "(LHelterSlide$Slide;)V"⟩
abbrev cX1_numberAt : ByteArray := prog_3_method_3_code
def yX1_numberAt : MethodName := ⟨RX1, "numberAt", "(I)I"⟩
abbrev cX1_become : ByteArray := prog_3_method_4_code
def yX1_become : MethodName := ⟨RX1, "become", "(LHelterSlide$Order;)V"⟩
abbrev cX1_advance : ByteArray := prog_3_method_5_code
def yX1_advance : MethodName := ⟨RX1, "advance", "()Z"⟩
abbrev cX1_lastAbove : ByteArray := prog_3_method_6_code
def yX1_lastAbove : MethodName := ⟨RX1, "lastAbove", "(I)I"⟩
abbrev cX1_turnRound : ByteArray := prog_3_method_7_code
def yX1_turnRound : MethodName := ⟨RX1, "turnRound", "(I)V"⟩
abbrev cX1_swap : ByteArray := prog_3_method_8_code
def yX1_swap : MethodName := ⟨RX1, "swap", "(II)V"⟩
def RX2 : String := "HelterSlide$Rain"
def TX2 : u_T := fun k => match k with
  | 0 => ("HelterSlide$Rain", "ways", "[J", true)
  | _ => ("HelterSlide$Rain", "waysBehind", "[J", true)
def tyX2 : Nat → FieldType := fun k => match k with
  | 0 => .array .long
  | _ => .array .long
theorem nmX2 : ∀ a, a < 2 → ∀ b, b < 2 → a ≠ b → (TX2 a).2.1 ≠ (TX2 b).2.1 := by decide +kernel
theorem tyX2_ok : ∀ k, k < 2 → parseFieldDescriptor (TX2 k).2.2.1 = some (tyX2 k) := by decide +kernel
abbrev cX2_init : ByteArray := prog_4_method_1_code
def yX2_init : MethodName := ⟨RX2, "<init>", "()V"⟩
abbrev cX2_waysThrough : ByteArray := prog_4_method_2_code
def yX2_waysThrough : MethodName := ⟨RX2, "waysThrough", "(LHelterSlide$Slide;II)J"⟩
abbrev cX2_passTurn : ByteArray := prog_4_method_3_code
def yX2_passTurn : MethodName := ⟨RX2, "passTurn", "(LHelterSlide$Slide;III)V"⟩
abbrev cX2_addWays : ByteArray := prog_4_method_4_code
def yX2_addWays : MethodName := ⟨RX2, "addWays", "(IJ)V"⟩
def RX3 : String := "HelterSlide$Sheet"
def TX3 : u_T := fun k => match k with
  | 0 => ("HelterSlide$Sheet", "items", "[J", true)
  | 1 => ("HelterSlide$Sheet", "lane", "I", false)
  | _ => ("HelterSlide$Sheet", "size", "I", false)
def tyX3 : Nat → FieldType := fun k => match k with
  | 0 => .array .long
  | 1 => .int
  | _ => .int
theorem nmX3 : ∀ a, a < 3 → ∀ b, b < 3 → a ≠ b → (TX3 a).2.1 ≠ (TX3 b).2.1 := by decide +kernel
theorem tyX3_ok : ∀ k, k < 3 → parseFieldDescriptor (TX3 k).2.2.1 = some (tyX3 k) := by decide +kernel
abbrev cX3_init : ByteArray := prog_5_method_1_code
def yX3_init : MethodName := ⟨RX3, "<init>", "()V"⟩
abbrev cX3_begin : ByteArray := prog_5_method_2_code
def yX3_begin : MethodName := ⟨RX3, "begin", "(II)V"⟩
abbrev cX3_becomeNothing : ByteArray := prog_5_method_3_code
def yX3_becomeNothing : MethodName := ⟨RX3, "becomeNothing", "()V"⟩
abbrev cX3_isNothing : ByteArray := prog_5_method_4_code
def yX3_isNothing : MethodName := ⟨RX3, "isNothing", "()Z"⟩
abbrev cX3_holds : ByteArray := prog_5_method_5_code
def yX3_holds : MethodName := ⟨RX3, "holds", "(II)Z"⟩
abbrev cX3_refusal : ByteArray := prog_5_method_6_code
def yX3_refusal : MethodName := ⟨RX3, "refusal", "(III)I"⟩
abbrev cX3_put : ByteArray := prog_5_method_7_code
def yX3_put : MethodName := ⟨RX3, "put", "(IJ)V"⟩
abbrev cX3_cut : ByteArray := prog_5_method_8_code
def yX3_cut : MethodName := ⟨RX3, "cut", "(J)J"⟩
abbrev cX3_tells : ByteArray := prog_5_method_9_code
def yX3_tells : MethodName := ⟨RX3, "tells", "(I[III)Z"⟩
def RX4 : String := "HelterSlide$Slide"
def TX4 : u_T := fun k => match k with
  | 0 => ("HelterSlide$Slide", "rough", "[I", true)
  | 1 => ("HelterSlide$Slide", "bump", "[I", true)
  | 2 => ("HelterSlide$Slide", "kind", "[I", true)
  | 3 => ("HelterSlide$Slide", "heavy", "[I", true)
  | 4 => ("HelterSlide$Slide", "lean", "[I", true)
  | 5 => ("HelterSlide$Slide", "place", "[I", true)
  | 6 => ("HelterSlide$Slide", "riders", "I", false)
  | 7 => ("HelterSlide$Slide", "rides", "I", false)
  | _ => ("HelterSlide$Slide", "draw", "I", false)
def tyX4 : Nat → FieldType := fun k => match k with
  | 0 => .array .int
  | 1 => .array .int
  | 2 => .array .int
  | 3 => .array .int
  | 4 => .array .int
  | 5 => .array .int
  | 6 => .int
  | 7 => .int
  | _ => .int
theorem nmX4 : ∀ a, a < 9 → ∀ b, b < 9 → a ≠ b → (TX4 a).2.1 ≠ (TX4 b).2.1 := by decide +kernel
theorem tyX4_ok : ∀ k, k < 9 → parseFieldDescriptor (TX4 k).2.2.1 = some (tyX4 k) := by decide +kernel
abbrev cX4_init : ByteArray := prog_6_method_1_code
def yX4_init : MethodName := ⟨RX4, "<init>", "()V"⟩
abbrev cX4_hasRider : ByteArray := prog_6_method_2_code
def yX4_hasRider : MethodName := ⟨RX4, "hasRider", "(I)Z"⟩
abbrev cX4_addRider : ByteArray := prog_6_method_3_code
def yX4_addRider : MethodName := ⟨RX4, "addRider", "(III)I"⟩
abbrev cX4_stuckOn : ByteArray := prog_6_method_4_code
def yX4_stuckOn : MethodName := ⟨RX4, "stuckOn", "(I)I"⟩
abbrev cX4_ridersAtTop : ByteArray := prog_6_method_5_code
def yX4_ridersAtTop : MethodName := ⟨RX4, "ridersAtTop", "()I"⟩
abbrev cX4_ridersThrough : ByteArray := prog_6_method_6_code
def yX4_ridersThrough : MethodName := ⟨RX4, "ridersThrough", "()I"⟩
abbrev cX4_turnsTaken : ByteArray := prog_6_method_7_code
def yX4_turnsTaken : MethodName := ⟨RX4, "turnsTaken", "()I"⟩
abbrev cX4_gained : ByteArray := prog_6_method_8_code
def yX4_gained : MethodName := ⟨RX4, "gained", "(III)I"⟩
abbrev cX4_speedBehind : ByteArray := prog_6_method_9_code
def yX4_speedBehind : MethodName := ⟨RX4, "speedBehind", "(IIII)I"⟩
abbrev cX4_foretell : ByteArray := prog_6_method_10_code
def yX4_foretell : MethodName := ⟨RX4, "foretell", "(I[I)I"⟩
abbrev cX4_sendDown : ByteArray := prog_6_method_11_code
def yX4_sendDown : MethodName := ⟨RX4, "sendDown", "(I[I)I"⟩
abbrev cX4_liftFrom : ByteArray := prog_6_method_12_code
def yX4_liftFrom : MethodName := ⟨RX4, "liftFrom", "(I)V"⟩
abbrev cX4_driftOnce : ByteArray := prog_6_method_13_code
def yX4_driftOnce : MethodName := ⟨RX4, "driftOnce", "([I)V"⟩
abbrev cX4_goBackTo : ByteArray := prog_6_method_14_code
def yX4_goBackTo : MethodName := ⟨RX4, "goBackTo", "(LHelterSlide$Slide;)V"⟩
abbrev cX4_become : ByteArray := prog_6_method_15_code
def yX4_become : MethodName := ⟨RX4, "become", "(LHelterSlide$Slide;)V"⟩
def RX5 : String := "HelterSlide$Tape"
def TX5 : u_T := fun k => match k with
  | 0 => ("HelterSlide$Tape", "letters", "[I", true)
  | 1 => ("HelterSlide$Tape", "length", "I", false)
  | _ => ("HelterSlide$Tape", "place", "I", false)
def tyX5 : Nat → FieldType := fun k => match k with
  | 0 => .array .int
  | 1 => .int
  | _ => .int
theorem nmX5 : ∀ a, a < 3 → ∀ b, b < 3 → a ≠ b → (TX5 a).2.1 ≠ (TX5 b).2.1 := by decide +kernel
theorem tyX5_ok : ∀ k, k < 3 → parseFieldDescriptor (TX5 k).2.2.1 = some (tyX5 k) := by decide +kernel
abbrev cX5_init : ByteArray := prog_7_method_1_code
def yX5_init : MethodName := ⟨RX5, "<init>", "()V"⟩
abbrev cX5_append : ByteArray := prog_7_method_2_code
def yX5_append : MethodName := ⟨RX5, "append", "(I)I"⟩
abbrev cX5_clear : ByteArray := prog_7_method_3_code
def yX5_clear : MethodName := ⟨RX5, "clear", "()V"⟩
abbrev cX5_readSlide : ByteArray := prog_7_method_4_code
def yX5_readSlide : MethodName := ⟨RX5, "readSlide", "(LHelterSlide$Slide;)Z"⟩
abbrev cX5_readTurns : ByteArray := prog_7_method_5_code
def yX5_readTurns : MethodName := ⟨RX5, "readTurns", "(LHelterSlide$Slide;)Z"⟩
abbrev cX5_readRiders : ByteArray := prog_7_method_6_code
def yX5_readRiders : MethodName := ⟨RX5, "readRiders", "(LHelterSlide$Slide;)Z"⟩
abbrev cX5_readRider : ByteArray := prog_7_method_7_code
def yX5_readRider : MethodName := ⟨RX5, "readRider", "(LHelterSlide$Slide;)Z"⟩
abbrev cX5_kindOf : ByteArray := prog_7_method_8_code
def yX5_kindOf : MethodName := ⟨RX5, "kindOf", "(I)I"⟩
abbrev cX5_readHeavy : ByteArray := prog_7_method_9_code
def yX5_readHeavy : MethodName := ⟨RX5, "readHeavy", "()I"⟩
abbrev cX5_readDigit : ByteArray := prog_7_method_10_code
def yX5_readDigit : MethodName := ⟨RX5, "readDigit", "(II)I"⟩
abbrev cX5_nextLetter : ByteArray := prog_7_method_11_code
def yX5_nextLetter : MethodName := ⟨RX5, "nextLetter", "()I"⟩
abbrev cX5_skipBlanks : ByteArray := prog_7_method_12_code
def yX5_skipBlanks : MethodName := ⟨RX5, "skipBlanks", "()V"⟩
abbrev cX5_letterHere : ByteArray := prog_7_method_13_code
def yX5_letterHere : MethodName := ⟨RX5, "letterHere", "()I"⟩
def RX6 : String := "HelterSlide"
def TX6 : u_T := fun k => match k with
  | 0 => ("HelterSlide", "now", "LHelterSlide$Slide;", true)
  | 1 => ("HelterSlide", "trial", "LHelterSlide$Slide;", true)
  | 2 => ("HelterSlide", "history", "LHelterSlide$History;", true)
  | 3 => ("HelterSlide", "keptSlide", "LHelterSlide$Slide;", true)
  | 4 => ("HelterSlide", "keptHistory", "LHelterSlide$History;", true)
  | 5 => ("HelterSlide", "kept", "Z", false)
  | 6 => ("HelterSlide", "tape", "LHelterSlide$Tape;", true)
  | 7 => ("HelterSlide", "sheets", "[LHelterSlide$Sheet;", true)
  | 8 => ("HelterSlide", "speeds", "[I", true)
  | 9 => ("HelterSlide", "tried", "LHelterSlide$Order;", true)
  | 10 => ("HelterSlide", "best", "LHelterSlide$Order;", true)
  | _ => ("HelterSlide", "rainfall", "LHelterSlide$Rain;", true)
def tyX6 : Nat → FieldType := fun k => match k with
  | 0 => .object "HelterSlide$Slide"
  | 1 => .object "HelterSlide$Slide"
  | 2 => .object "HelterSlide$History"
  | 3 => .object "HelterSlide$Slide"
  | 4 => .object "HelterSlide$History"
  | 5 => .boolean
  | 6 => .object "HelterSlide$Tape"
  | 7 => .array (.object "HelterSlide$Sheet")
  | 8 => .array .int
  | 9 => .object "HelterSlide$Order"
  | 10 => .object "HelterSlide$Order"
  | _ => .object "HelterSlide$Rain"
theorem nmX6 : ∀ a, a < 12 → ∀ b, b < 12 → a ≠ b → (TX6 a).2.1 ≠ (TX6 b).2.1 := by decide +kernel
theorem tyX6_ok : ∀ k, k < 12 → parseFieldDescriptor (TX6 k).2.2.1 = some (tyX6 k) := by decide +kernel
abbrev cX6_init : ByteArray := prog_1_method_1_code
def yX6_init : MethodName := ⟨RX6, "<init>", "()V"⟩
abbrev cX6_of : ByteArray := prog_1_method_4_code
def yX6_of : MethodName := ⟨RX6, "of", "(II)I"⟩
abbrev cX6_at : ByteArray := prog_1_method_5_code
def yX6_at : MethodName := ⟨RX6, "at", "(II)I"⟩
abbrev cX6_gains : ByteArray := prog_1_method_6_code
def yX6_gains : MethodName := ⟨RX6, "gains", "(III)I"⟩
abbrev cX6_type : ByteArray := prog_1_method_7_code
def yX6_type : MethodName := ⟨RX6, "type", "(I)I"⟩
abbrev cX6_slide : ByteArray := prog_1_method_8_code
def yX6_slide : MethodName := ⟨RX6, "slide", "()I"⟩
abbrev cX6_count : ByteArray := prog_1_method_9_code
def yX6_count : MethodName := ⟨RX6, "count", "(I)I"⟩
abbrev cX6_ride : ByteArray := prog_1_method_10_code
def yX6_ride : MethodName := ⟨RX6, "ride", "(I)I"⟩
abbrev cX6_wax : ByteArray := prog_1_method_11_code
def yX6_wax : MethodName := ⟨RX6, "wax", "(II)I"⟩
abbrev cX6_hammer : ByteArray := prog_1_method_12_code
def yX6_hammer : MethodName := ⟨RX6, "hammer", "(II)I"⟩
abbrev cX6_up : ByteArray := prog_1_method_13_code
def yX6_up : MethodName := ⟨RX6, "up", "(I)I"⟩
abbrev cX6_drift : ByteArray := prog_1_method_14_code
def yX6_drift : MethodName := ⟨RX6, "drift", "(I)I"⟩
abbrev cX6_undo : ByteArray := prog_1_method_15_code
def yX6_undo : MethodName := ⟨RX6, "undo", "()I"⟩
abbrev cX6_seed : ByteArray := prog_1_method_16_code
def yX6_seed : MethodName := ⟨RX6, "seed", "(I)I"⟩
abbrev cX6_speed : ByteArray := prog_1_method_17_code
def yX6_speed : MethodName := ⟨RX6, "speed", "(II)I"⟩
abbrev cX6_ends : ByteArray := prog_1_method_18_code
def yX6_ends : MethodName := ⟨RX6, "ends", "(I)I"⟩
abbrev cX6_fast : ByteArray := prog_1_method_19_code
def yX6_fast : MethodName := ⟨RX6, "fast", "(II)I"⟩
abbrev cX6_who : ByteArray := prog_1_method_20_code
def yX6_who : MethodName := ⟨RX6, "who", "(I)I"⟩
abbrev cX6_waxes : ByteArray := prog_1_method_21_code
def yX6_waxes : MethodName := ⟨RX6, "waxes", "(II)I"⟩
abbrev cX6_firstWaxFor : ByteArray := prog_1_method_22_code
def yX6_firstWaxFor : MethodName := ⟨RX6, "firstWaxFor", "(III)I"⟩
abbrev cX6_may : ByteArray := prog_1_method_23_code
def yX6_may : MethodName := ⟨RX6, "may", "(II)I"⟩
abbrev cX6_weight : ByteArray := prog_1_method_24_code
def yX6_weight : MethodName := ⟨RX6, "weight", "(I)I"⟩
abbrev cX6_bump : ByteArray := prog_1_method_25_code
def yX6_bump : MethodName := ⟨RX6, "bump", "(I)I"⟩
abbrev cX6_throughWithoutBump : ByteArray := prog_1_method_26_code
def yX6_throughWithoutBump : MethodName := ⟨RX6, "throughWithoutBump", "(I)I"⟩
abbrev cX6_order : ByteArray := prog_1_method_27_code
def yX6_order : MethodName := ⟨RX6, "order", "(I)I"⟩
abbrev cX6_findBestOrder : ByteArray := prog_1_method_28_code
def yX6_findBestOrder : MethodName := ⟨RX6, "findBestOrder", "()I"⟩
abbrev cX6_throughBy : ByteArray := prog_1_method_29_code
def yX6_throughBy : MethodName := ⟨RX6, "throughBy", "(LHelterSlide$Order;)I"⟩
abbrev cX6_rain : ByteArray := prog_1_method_30_code
def yX6_rain : MethodName := ⟨RX6, "rain", "(III)J"⟩
abbrev cX6_image : ByteArray := prog_1_method_31_code
def yX6_image : MethodName := ⟨RX6, "image", "()I"⟩
abbrev cX6_restore : ByteArray := prog_1_method_32_code
def yX6_restore : MethodName := ⟨RX6, "restore", "()I"⟩
abbrev cX6_clocked : ByteArray := prog_1_method_33_code
def yX6_clocked : MethodName := ⟨RX6, "clocked", "(IIIIIII)I"⟩
abbrev cX6_kindsClocked : ByteArray := prog_1_method_34_code
def yX6_kindsClocked : MethodName := ⟨RX6, "kindsClocked", "(IILHelterSlide$Sheet;II)I"⟩
abbrev cX6_heaviesClocked : ByteArray := prog_1_method_35_code
def yX6_heaviesClocked : MethodName := ⟨RX6, "heaviesClocked", "(IILHelterSlide$Sheet;II)I"⟩
abbrev cX6_film : ByteArray := prog_1_method_36_code
def yX6_film : MethodName := ⟨RX6, "film", "(IIIII)I"⟩
abbrev cX6_sheet : ByteArray := prog_1_method_37_code
def yX6_sheet : MethodName := ⟨RX6, "sheet", "(III)I"⟩
abbrev cX6_drop : ByteArray := prog_1_method_38_code
def yX6_drop : MethodName := ⟨RX6, "drop", "(I)I"⟩
abbrev cX6_within : ByteArray := prog_1_method_41_code
def yX6_within : MethodName := ⟨RX6, "within", "(III)Z"⟩
abbrev cX6_isTurn : ByteArray := prog_1_method_42_code
def yX6_isTurn : MethodName := ⟨RX6, "isTurn", "(I)Z"⟩
abbrev cX6_isOutcome : ByteArray := prog_1_method_43_code
def yX6_isOutcome : MethodName := ⟨RX6, "isOutcome", "(I)Z"⟩
abbrev cX6_isSheet : ByteArray := prog_1_method_44_code
def yX6_isSheet : MethodName := ⟨RX6, "isSheet", "(I)Z"⟩
abbrev cX6_isLane : ByteArray := prog_1_method_45_code
def yX6_isLane : MethodName := ⟨RX6, "isLane", "(I)Z"⟩
abbrev cX6_sum : ByteArray := prog_1_method_46_code
def yX6_sum : MethodName := ⟨RX6, "sum", "([I)I"⟩
abbrev cX6_firstOfGreatest : ByteArray := prog_1_method_47_code
def yX6_firstOfGreatest : MethodName := ⟨RX6, "firstOfGreatest", "([I)I"⟩
abbrev cX6_copyRow : ByteArray := prog_1_method_48_code
def yX6_copyRow : MethodName := ⟨RX6, "copyRow", "([I[I)V"⟩
def RX7 : String := "HelterSlideModel"
def TX7 : u_T := fun k => match k with
  | _ => ("", "", "", false)
def tyX7 : Nat → FieldType := fun k => match k with
  | _ => .int
theorem nmX7 : ∀ a, a < 0 → ∀ b, b < 0 → a ≠ b → (TX7 a).2.1 ≠ (TX7 b).2.1 := by decide +kernel
theorem tyX7_ok : ∀ k, k < 0 → parseFieldDescriptor (TX7 k).2.2.1 = some (tyX7 k) := by decide +kernel
def RJ6 : String := "java/lang/Integer"
def TJ6 : u_T := fun k => match k with
  | _ => ("", "", "", false)
def tyJ6 : Nat → FieldType := fun k => match k with
  | _ => .int
theorem nmJ6 : ∀ a, a < 0 → ∀ b, b < 0 → a ≠ b → (TJ6 a).2.1 ≠ (TJ6 b).2.1 := by decide +kernel
theorem tyJ6_ok : ∀ k, k < 0 → parseFieldDescriptor (TJ6 k).2.2.1 = some (tyJ6 k) := by decide +kernel
abbrev cJ6_bitCount_0f7a4 : ByteArray := prog_10_method_49_code
def yJ6_bitCount_0f7a4 : MethodName := ⟨RJ6, "bitCount", "(I)I"⟩
def RJ9 : String := "java/lang/Math"
def TJ9 : u_T := fun k => match k with
  | _ => ("", "", "", false)
def tyJ9 : Nat → FieldType := fun k => match k with
  | _ => .int
theorem nmJ9 : ∀ a, a < 0 → ∀ b, b < 0 → a ≠ b → (TJ9 a).2.1 ≠ (TJ9 b).2.1 := by decide +kernel
theorem tyJ9_ok : ∀ k, k < 0 → parseFieldDescriptor (TJ9 k).2.2.1 = some (tyJ9 k) := by decide +kernel
abbrev cJ9_max_7cf53 : ByteArray := prog_11_method_65_code
def yJ9_max_7cf53 : MethodName := ⟨RJ9, "max", "(II)I"⟩
abbrev cJ9_min_7cf53 : ByteArray := prog_11_method_69_code
def yJ9_min_7cf53 : MethodName := ⟨RJ9, "min", "(II)I"⟩
def RJ10 : String := "java/lang/System"
def TJ10 : u_T := fun k => match k with
  | _ => ("", "", "", false)
def tyJ10 : Nat → FieldType := fun k => match k with
  | _ => .int
theorem nmJ10 : ∀ a, a < 0 → ∀ b, b < 0 → a ≠ b → (TJ10 a).2.1 ≠ (TJ10 b).2.1 := by decide +kernel
theorem tyJ10_ok : ∀ k, k < 0 → parseFieldDescriptor (TJ10 k).2.2.1 = some (tyJ10 k) := by decide +kernel
def RJ7 : String := "java/util/Arrays"
def TJ7 : u_T := fun k => match k with
  | _ => ("", "", "", false)
def tyJ7 : Nat → FieldType := fun k => match k with
  | _ => .int
theorem nmJ7 : ∀ a, a < 0 → ∀ b, b < 0 → a ≠ b → (TJ7 a).2.1 ≠ (TJ7 b).2.1 := by decide +kernel
theorem tyJ7_ok : ∀ k, k < 0 → parseFieldDescriptor (TJ7 k).2.2.1 = some (tyJ7 k) := by decide +kernel
abbrev cJ7_fill_d0a16 : ByteArray := prog_13_method_101_code
def yJ7_fill_d0a16 : MethodName := ⟨RJ7, "fill", "([JJ)V"⟩
abbrev cJ7_fill_53178 : ByteArray := prog_13_method_103_code
def yJ7_fill_53178 : MethodName := ⟨RJ7, "fill", "([II)V"⟩
def RL : String := "HelterSlideLaw"
abbrev cL_cell : ByteArray := method_2_code
def yL_cell : MethodName := ⟨RL, "cell", "([II)I"⟩
abbrev cL_sort : ByteArray := method_3_code
def yL_sort : MethodName := ⟨RL, "sort", "(I)I"⟩
abbrev cL_number : ByteArray := method_4_code
def yL_number : MethodName := ⟨RL, "number", "(LHelterSlide;I)Z"⟩
abbrev cL_turns : ByteArray := method_5_code
def yL_turns : MethodName := ⟨RL, "turns", "(LHelterSlide;[I)Z"⟩
abbrev cL_lays : ByteArray := method_6_code
def yL_lays : MethodName := ⟨RL, "lays", "(LHelterSlide;[I[I)Z"⟩
abbrev cL_gain : ByteArray := method_7_code
def yL_gain : MethodName := ⟨RL, "gain", "([IIII)I"⟩
abbrev cL_stuck : ByteArray := method_8_code
def yL_stuck : MethodName := ⟨RL, "stuck", "([II)I"⟩
abbrev cL_ride : ByteArray := method_9_code
def yL_ride : MethodName := ⟨RL, "ride", "([II[I)V"⟩
abbrev cL_size : ByteArray := method_11_code
def yL_size : MethodName := ⟨RL, "size", "(I)I"⟩
abbrev cL_acts : ByteArray := method_13_code
def yL_acts : MethodName := ⟨RL, "acts", "(LHelterSlide;[II)I"⟩
abbrev cL_law : ByteArray := code
def yL_law : MethodName := ⟨RL, "law", "([I)Z"⟩
abbrev cL_hash : ByteArray := method_16_code
def yL_hash : MethodName := ⟨RL, "hash", "(LHelterSlide;[I)J"⟩
abbrev cL_stands : ByteArray := method_17_code
def yL_stands : MethodName := ⟨RL, "stands", "(LHelterSlide;[I)Z"⟩
abbrev cL_rode : ByteArray := method_18_code
def yL_rode : MethodName := ⟨RL, "rode", "(LHelterSlide;[IJ)Z"⟩
abbrev cL_waxed : ByteArray := method_19_code
def yL_waxed : MethodName := ⟨RL, "waxed", "(LHelterSlide;[I[IJ)Z"⟩
abbrev cL_through : ByteArray := method_20_code
def yL_through : MethodName := ⟨RL, "through", "(LHelterSlide;[I)I"⟩
abbrev cL_hammered : ByteArray := method_21_code
def yL_hammered : MethodName := ⟨RL, "hammered", "(LHelterSlide;[IJ)Z"⟩
abbrev cL_ordered : ByteArray := method_22_code
def yL_ordered : MethodName := ⟨RL, "ordered", "(LHelterSlide;[IJ)Z"⟩
abbrev cL_rained : ByteArray := method_23_code
def yL_rained : MethodName := ⟨RL, "rained", "(LHelterSlide;[I[I)Z"⟩
abbrev cL_clocked : ByteArray := method_24_code
def yL_clocked : MethodName := ⟨RL, "clocked", "(LHelterSlide;[I[IJ)Z"⟩
abbrev vwCl : List vw_C := [(RX0, TX0, 2), (RX1, TX1, 2), (RX2, TX2, 2), (RX3, TX3, 3), (RX4, TX4, 9), (RX5, TX5, 3), (RX6, TX6, 12)]
