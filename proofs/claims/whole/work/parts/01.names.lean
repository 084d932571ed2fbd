/-! the tables' words (the skeleton's PART A), then names as the program prints them -/
/-- a private method of a class that the tables say can be made, by its rows of tables_1 -/
def lw_okq (q : MethodName × Nat) : Prop := (q.1.cls ≠ "java/lang/invoke/MethodHandle" ∧ q.1.cls ≠ "java/lang/invoke/VarHandle") ∧ Cond.instantiable q.1.cls q.2 ∈ tables_1 ∧ Cond.privateMethod q.1 ∈ tables_1 ∧ Cond.instanceMethod q.1 ∈ tables_1
theorem lw_p0 : lw_okq (⟨"HelterSlide$Tape", "readTurns", "(LHelterSlide$Slide;)Z"⟩, 3) := ⟨⟨by decide +kernel, by decide +kernel⟩, List.mem_of_getElem? (i := 93) (by decide +kernel), List.mem_of_getElem? (i := 258) (by decide +kernel), List.mem_of_getElem? (i := 259) (by decide +kernel)⟩
theorem lw_p1 : lw_okq (⟨"HelterSlide$Tape", "readDigit", "(II)I"⟩, 3) := ⟨⟨by decide +kernel, by decide +kernel⟩, List.mem_of_getElem? (i := 93) (by decide +kernel), List.mem_of_getElem? (i := 262) (by decide +kernel), List.mem_of_getElem? (i := 263) (by decide +kernel)⟩
theorem lw_p2 : lw_okq (⟨"HelterSlide$Tape", "nextLetter", "()I"⟩, 3) := ⟨⟨by decide +kernel, by decide +kernel⟩, List.mem_of_getElem? (i := 93) (by decide +kernel), List.mem_of_getElem? (i := 266) (by decide +kernel), List.mem_of_getElem? (i := 267) (by decide +kernel)⟩
theorem lw_p3 : lw_okq (⟨"HelterSlide$Tape", "skipBlanks", "()V"⟩, 3) := ⟨⟨by decide +kernel, by decide +kernel⟩, List.mem_of_getElem? (i := 93) (by decide +kernel), List.mem_of_getElem? (i := 270) (by decide +kernel), List.mem_of_getElem? (i := 271) (by decide +kernel)⟩
theorem lw_p4 : lw_okq (⟨"HelterSlide$Tape", "letterHere", "()I"⟩, 3) := ⟨⟨by decide +kernel, by decide +kernel⟩, List.mem_of_getElem? (i := 93) (by decide +kernel), List.mem_of_getElem? (i := 274) (by decide +kernel), List.mem_of_getElem? (i := 275) (by decide +kernel)⟩
theorem lw_p5 : lw_okq (⟨"HelterSlide$Tape", "readRiders", "(LHelterSlide$Slide;)Z"⟩, 3) := ⟨⟨by decide +kernel, by decide +kernel⟩, List.mem_of_getElem? (i := 93) (by decide +kernel), List.mem_of_getElem? (i := 279) (by decide +kernel), List.mem_of_getElem? (i := 280) (by decide +kernel)⟩
theorem lw_p6 : lw_okq (⟨"HelterSlide$Tape", "readRider", "(LHelterSlide$Slide;)Z"⟩, 3) := ⟨⟨by decide +kernel, by decide +kernel⟩, List.mem_of_getElem? (i := 93) (by decide +kernel), List.mem_of_getElem? (i := 283) (by decide +kernel), List.mem_of_getElem? (i := 284) (by decide +kernel)⟩
theorem lw_p7 : lw_okq (⟨"HelterSlide$Tape", "readHeavy", "()I"⟩, 3) := ⟨⟨by decide +kernel, by decide +kernel⟩, List.mem_of_getElem? (i := 93) (by decide +kernel), List.mem_of_getElem? (i := 290) (by decide +kernel), List.mem_of_getElem? (i := 291) (by decide +kernel)⟩
theorem lw_p8 : lw_okq (⟨"HelterSlide$History", "forgetOldest", "()V"⟩, 2) := ⟨⟨by decide +kernel, by decide +kernel⟩, List.mem_of_getElem? (i := 76) (by decide +kernel), List.mem_of_getElem? (i := 347) (by decide +kernel), List.mem_of_getElem? (i := 348) (by decide +kernel)⟩
theorem lw_p9 : lw_okq (⟨"HelterSlide$Slide", "liftFrom", "(I)V"⟩, 9) := ⟨⟨by decide +kernel, by decide +kernel⟩, List.mem_of_getElem? (i := 22) (by decide +kernel), List.mem_of_getElem? (i := 366) (by decide +kernel), List.mem_of_getElem? (i := 367) (by decide +kernel)⟩
theorem lw_p10 : lw_okq (⟨"HelterSlide", "firstWaxFor", "(III)I"⟩, 12) := ⟨⟨by decide +kernel, by decide +kernel⟩, List.mem_of_getElem? (i := 14) (by decide +kernel), List.mem_of_getElem? (i := 435) (by decide +kernel), List.mem_of_getElem? (i := 436) (by decide +kernel)⟩
theorem lw_p11 : lw_okq (⟨"HelterSlide", "throughWithoutBump", "(I)I"⟩, 12) := ⟨⟨by decide +kernel, by decide +kernel⟩, List.mem_of_getElem? (i := 14) (by decide +kernel), List.mem_of_getElem? (i := 451) (by decide +kernel), List.mem_of_getElem? (i := 452) (by decide +kernel)⟩
theorem lw_p12 : lw_okq (⟨"HelterSlide", "findBestOrder", "()I"⟩, 12) := ⟨⟨by decide +kernel, by decide +kernel⟩, List.mem_of_getElem? (i := 14) (by decide +kernel), List.mem_of_getElem? (i := 459) (by decide +kernel), List.mem_of_getElem? (i := 460) (by decide +kernel)⟩
theorem lw_p13 : lw_okq (⟨"HelterSlide", "throughBy", "(LHelterSlide$Order;)I"⟩, 12) := ⟨⟨by decide +kernel, by decide +kernel⟩, List.mem_of_getElem? (i := 14) (by decide +kernel), List.mem_of_getElem? (i := 467) (by decide +kernel), List.mem_of_getElem? (i := 468) (by decide +kernel)⟩
theorem lw_p14 : lw_okq (⟨"HelterSlide$Order", "lastAbove", "(I)I"⟩, 2) := ⟨⟨by decide +kernel, by decide +kernel⟩, List.mem_of_getElem? (i := 112) (by decide +kernel), List.mem_of_getElem? (i := 491) (by decide +kernel), List.mem_of_getElem? (i := 492) (by decide +kernel)⟩
theorem lw_p15 : lw_okq (⟨"HelterSlide$Order", "swap", "(II)V"⟩, 2) := ⟨⟨by decide +kernel, by decide +kernel⟩, List.mem_of_getElem? (i := 112) (by decide +kernel), List.mem_of_getElem? (i := 495) (by decide +kernel), List.mem_of_getElem? (i := 496) (by decide +kernel)⟩
def lw_privs_1 : List (MethodName × Nat) := [(⟨"HelterSlide$Tape", "readTurns", "(LHelterSlide$Slide;)Z"⟩, 3), (⟨"HelterSlide$Tape", "readDigit", "(II)I"⟩, 3), (⟨"HelterSlide$Tape", "nextLetter", "()I"⟩, 3), (⟨"HelterSlide$Tape", "skipBlanks", "()V"⟩, 3), (⟨"HelterSlide$Tape", "letterHere", "()I"⟩, 3), (⟨"HelterSlide$Tape", "readRiders", "(LHelterSlide$Slide;)Z"⟩, 3), (⟨"HelterSlide$Tape", "readRider", "(LHelterSlide$Slide;)Z"⟩, 3), (⟨"HelterSlide$Tape", "readHeavy", "()I"⟩, 3), (⟨"HelterSlide$History", "forgetOldest", "()V"⟩, 2), (⟨"HelterSlide$Slide", "liftFrom", "(I)V"⟩, 9), (⟨"HelterSlide", "firstWaxFor", "(III)I"⟩, 12), (⟨"HelterSlide", "throughWithoutBump", "(I)I"⟩, 12), (⟨"HelterSlide", "findBestOrder", "()I"⟩, 12), (⟨"HelterSlide", "throughBy", "(LHelterSlide$Order;)I"⟩, 12), (⟨"HelterSlide$Order", "lastAbove", "(I)I"⟩, 2), (⟨"HelterSlide$Order", "swap", "(II)V"⟩, 2)]
theorem lw_r1 : ∀ q ∈ lw_privs_1, lw_okq q := List.forall_mem_cons.mpr ⟨lw_p0, List.forall_mem_cons.mpr ⟨lw_p1, List.forall_mem_cons.mpr ⟨lw_p2, List.forall_mem_cons.mpr ⟨lw_p3, List.forall_mem_cons.mpr ⟨lw_p4, List.forall_mem_cons.mpr ⟨lw_p5, List.forall_mem_cons.mpr ⟨lw_p6, List.forall_mem_cons.mpr ⟨lw_p7, List.forall_mem_cons.mpr ⟨lw_p8, List.forall_mem_cons.mpr ⟨lw_p9, List.forall_mem_cons.mpr ⟨lw_p10, List.forall_mem_cons.mpr ⟨lw_p11, List.forall_mem_cons.mpr ⟨lw_p12, List.forall_mem_cons.mpr ⟨lw_p13, List.forall_mem_cons.mpr ⟨lw_p14, List.forall_mem_cons.mpr ⟨lw_p15, fun _ h => absurd h List.not_mem_nil⟩⟩⟩⟩⟩⟩⟩⟩⟩⟩⟩⟩⟩⟩⟩⟩
theorem lw_p16 : lw_okq (⟨"HelterSlide$Order", "turnRound", "(I)V"⟩, 2) := ⟨⟨by decide +kernel, by decide +kernel⟩, List.mem_of_getElem? (i := 112) (by decide +kernel), List.mem_of_getElem? (i := 499) (by decide +kernel), List.mem_of_getElem? (i := 500) (by decide +kernel)⟩
theorem lw_p17 : lw_okq (⟨"HelterSlide$Rain", "passTurn", "(LHelterSlide$Slide;III)V"⟩, 2) := ⟨⟨by decide +kernel, by decide +kernel⟩, List.mem_of_getElem? (i := 126) (by decide +kernel), List.mem_of_getElem? (i := 515) (by decide +kernel), List.mem_of_getElem? (i := 516) (by decide +kernel)⟩
theorem lw_p18 : lw_okq (⟨"HelterSlide$Rain", "addWays", "(IJ)V"⟩, 2) := ⟨⟨by decide +kernel, by decide +kernel⟩, List.mem_of_getElem? (i := 126) (by decide +kernel), List.mem_of_getElem? (i := 521) (by decide +kernel), List.mem_of_getElem? (i := 522) (by decide +kernel)⟩
theorem lw_p19 : lw_okq (⟨"HelterSlide", "kindsClocked", "(IILHelterSlide$Sheet;II)I"⟩, 12) := ⟨⟨by decide +kernel, by decide +kernel⟩, List.mem_of_getElem? (i := 14) (by decide +kernel), List.mem_of_getElem? (i := 565) (by decide +kernel), List.mem_of_getElem? (i := 566) (by decide +kernel)⟩
theorem lw_p20 : lw_okq (⟨"HelterSlide", "heaviesClocked", "(IILHelterSlide$Sheet;II)I"⟩, 12) := ⟨⟨by decide +kernel, by decide +kernel⟩, List.mem_of_getElem? (i := 14) (by decide +kernel), List.mem_of_getElem? (i := 573) (by decide +kernel), List.mem_of_getElem? (i := 574) (by decide +kernel)⟩
theorem lw_p21 : lw_okq (⟨"HelterSlide$Sheet", "cut", "(J)J"⟩, 3) := ⟨⟨by decide +kernel, by decide +kernel⟩, List.mem_of_getElem? (i := 139) (by decide +kernel), List.mem_of_getElem? (i := 585) (by decide +kernel), List.mem_of_getElem? (i := 586) (by decide +kernel)⟩
theorem lw_p22 : lw_okq (⟨"HelterSlideModel", "riderComes", "(III)V"⟩, 21) := ⟨⟨by decide +kernel, by decide +kernel⟩, List.mem_of_getElem? (i := 616) (by decide +kernel), List.mem_of_getElem? (i := 696) (by decide +kernel), List.mem_of_getElem? (i := 697) (by decide +kernel)⟩
theorem lw_p23 : lw_okq (⟨"HelterSlideModel", "tells", "(III)V"⟩, 21) := ⟨⟨by decide +kernel, by decide +kernel⟩, List.mem_of_getElem? (i := 616) (by decide +kernel), List.mem_of_getElem? (i := 700) (by decide +kernel), List.mem_of_getElem? (i := 701) (by decide +kernel)⟩
theorem lw_p24 : lw_okq (⟨"HelterSlideModel", "isRider", "(I)Z"⟩, 21) := ⟨⟨by decide +kernel, by decide +kernel⟩, List.mem_of_getElem? (i := 616) (by decide +kernel), List.mem_of_getElem? (i := 708) (by decide +kernel), List.mem_of_getElem? (i := 709) (by decide +kernel)⟩
theorem lw_p25 : lw_okq (⟨"HelterSlideModel", "told", "(II)I"⟩, 21) := ⟨⟨by decide +kernel, by decide +kernel⟩, List.mem_of_getElem? (i := 616) (by decide +kernel), List.mem_of_getElem? (i := 712) (by decide +kernel), List.mem_of_getElem? (i := 713) (by decide +kernel)⟩
theorem lw_p26 : lw_okq (⟨"HelterSlideModel", "whoStuck", "(I)I"⟩, 21) := ⟨⟨by decide +kernel, by decide +kernel⟩, List.mem_of_getElem? (i := 616) (by decide +kernel), List.mem_of_getElem? (i := 730) (by decide +kernel), List.mem_of_getElem? (i := 731) (by decide +kernel)⟩
theorem lw_p27 : lw_okq (⟨"HelterSlideModel", "where", "(I)I"⟩, 21) := ⟨⟨by decide +kernel, by decide +kernel⟩, List.mem_of_getElem? (i := 616) (by decide +kernel), List.mem_of_getElem? (i := 734) (by decide +kernel), List.mem_of_getElem? (i := 735) (by decide +kernel)⟩
theorem lw_p28 : lw_okq (⟨"HelterSlideModel", "gain", "(III)I"⟩, 21) := ⟨⟨by decide +kernel, by decide +kernel⟩, List.mem_of_getElem? (i := 616) (by decide +kernel), List.mem_of_getElem? (i := 743) (by decide +kernel), List.mem_of_getElem? (i := 744) (by decide +kernel)⟩
theorem lw_p29 : lw_okq (⟨"HelterSlideModel", "atTop", "()I"⟩, 21) := ⟨⟨by decide +kernel, by decide +kernel⟩, List.mem_of_getElem? (i := 616) (by decide +kernel), List.mem_of_getElem? (i := 751) (by decide +kernel), List.mem_of_getElem? (i := 752) (by decide +kernel)⟩
theorem lw_p30 : lw_okq (⟨"HelterSlideModel", "through", "()I"⟩, 21) := ⟨⟨by decide +kernel, by decide +kernel⟩, List.mem_of_getElem? (i := 616) (by decide +kernel), List.mem_of_getElem? (i := 755) (by decide +kernel), List.mem_of_getElem? (i := 756) (by decide +kernel)⟩
theorem lw_p31 : lw_okq (⟨"HelterSlideModel", "isThrough", "(I)Z"⟩, 21) := ⟨⟨by decide +kernel, by decide +kernel⟩, List.mem_of_getElem? (i := 616) (by decide +kernel), List.mem_of_getElem? (i := 759) (by decide +kernel), List.mem_of_getElem? (i := 760) (by decide +kernel)⟩
def lw_privs_2 : List (MethodName × Nat) := [(⟨"HelterSlide$Order", "turnRound", "(I)V"⟩, 2), (⟨"HelterSlide$Rain", "passTurn", "(LHelterSlide$Slide;III)V"⟩, 2), (⟨"HelterSlide$Rain", "addWays", "(IJ)V"⟩, 2), (⟨"HelterSlide", "kindsClocked", "(IILHelterSlide$Sheet;II)I"⟩, 12), (⟨"HelterSlide", "heaviesClocked", "(IILHelterSlide$Sheet;II)I"⟩, 12), (⟨"HelterSlide$Sheet", "cut", "(J)J"⟩, 3), (⟨"HelterSlideModel", "riderComes", "(III)V"⟩, 21), (⟨"HelterSlideModel", "tells", "(III)V"⟩, 21), (⟨"HelterSlideModel", "isRider", "(I)Z"⟩, 21), (⟨"HelterSlideModel", "told", "(II)I"⟩, 21), (⟨"HelterSlideModel", "whoStuck", "(I)I"⟩, 21), (⟨"HelterSlideModel", "where", "(I)I"⟩, 21), (⟨"HelterSlideModel", "gain", "(III)I"⟩, 21), (⟨"HelterSlideModel", "atTop", "()I"⟩, 21), (⟨"HelterSlideModel", "through", "()I"⟩, 21), (⟨"HelterSlideModel", "isThrough", "(I)Z"⟩, 21)]
theorem lw_r2 : ∀ q ∈ lw_privs_2, lw_okq q := List.forall_mem_cons.mpr ⟨lw_p16, List.forall_mem_cons.mpr ⟨lw_p17, List.forall_mem_cons.mpr ⟨lw_p18, List.forall_mem_cons.mpr ⟨lw_p19, List.forall_mem_cons.mpr ⟨lw_p20, List.forall_mem_cons.mpr ⟨lw_p21, List.forall_mem_cons.mpr ⟨lw_p22, List.forall_mem_cons.mpr ⟨lw_p23, List.forall_mem_cons.mpr ⟨lw_p24, List.forall_mem_cons.mpr ⟨lw_p25, List.forall_mem_cons.mpr ⟨lw_p26, List.forall_mem_cons.mpr ⟨lw_p27, List.forall_mem_cons.mpr ⟨lw_p28, List.forall_mem_cons.mpr ⟨lw_p29, List.forall_mem_cons.mpr ⟨lw_p30, List.forall_mem_cons.mpr ⟨lw_p31, fun _ h => absurd h List.not_mem_nil⟩⟩⟩⟩⟩⟩⟩⟩⟩⟩⟩⟩⟩⟩⟩⟩
theorem lw_p32 : lw_okq (⟨"HelterSlideModel", "stuckTurns", "()I"⟩, 21) := ⟨⟨by decide +kernel, by decide +kernel⟩, List.mem_of_getElem? (i := 616) (by decide +kernel), List.mem_of_getElem? (i := 763) (by decide +kernel), List.mem_of_getElem? (i := 764) (by decide +kernel)⟩
theorem lw_p33 : lw_okq (⟨"HelterSlideModel", "sumOf", "(I)I"⟩, 21) := ⟨⟨by decide +kernel, by decide +kernel⟩, List.mem_of_getElem? (i := 616) (by decide +kernel), List.mem_of_getElem? (i := 767) (by decide +kernel), List.mem_of_getElem? (i := 768) (by decide +kernel)⟩
theorem lw_p34 : lw_okq (⟨"HelterSlideModel", "turnsRead", "()V"⟩, 21) := ⟨⟨by decide +kernel, by decide +kernel⟩, List.mem_of_getElem? (i := 616) (by decide +kernel), List.mem_of_getElem? (i := 781) (by decide +kernel), List.mem_of_getElem? (i := 782) (by decide +kernel)⟩
theorem lw_p35 : lw_okq (⟨"HelterSlideModel", "digit", "(II)I"⟩, 21) := ⟨⟨by decide +kernel, by decide +kernel⟩, List.mem_of_getElem? (i := 616) (by decide +kernel), List.mem_of_getElem? (i := 785) (by decide +kernel), List.mem_of_getElem? (i := 786) (by decide +kernel)⟩
theorem lw_p36 : lw_okq (⟨"HelterSlideModel", "here", "()I"⟩, 21) := ⟨⟨by decide +kernel, by decide +kernel⟩, List.mem_of_getElem? (i := 616) (by decide +kernel), List.mem_of_getElem? (i := 789) (by decide +kernel), List.mem_of_getElem? (i := 790) (by decide +kernel)⟩
theorem lw_p37 : lw_okq (⟨"HelterSlideModel", "must", "(Z)V"⟩, 21) := ⟨⟨by decide +kernel, by decide +kernel⟩, List.mem_of_getElem? (i := 616) (by decide +kernel), List.mem_of_getElem? (i := 793) (by decide +kernel), List.mem_of_getElem? (i := 794) (by decide +kernel)⟩
theorem lw_p38 : lw_okq (⟨"HelterSlideModel", "ridersRead", "()I"⟩, 21) := ⟨⟨by decide +kernel, by decide +kernel⟩, List.mem_of_getElem? (i := 616) (by decide +kernel), List.mem_of_getElem? (i := 797) (by decide +kernel), List.mem_of_getElem? (i := 798) (by decide +kernel)⟩
theorem lw_p39 : lw_okq (⟨"HelterSlideModel", "number", "(II)I"⟩, 21) := ⟨⟨by decide +kernel, by decide +kernel⟩, List.mem_of_getElem? (i := 616) (by decide +kernel), List.mem_of_getElem? (i := 801) (by decide +kernel), List.mem_of_getElem? (i := 802) (by decide +kernel)⟩
theorem lw_p40 : lw_okq (⟨"HelterSlideModel", "notes", "()V"⟩, 21) := ⟨⟨by decide +kernel, by decide +kernel⟩, List.mem_of_getElem? (i := 616) (by decide +kernel), List.mem_of_getElem? (i := 811) (by decide +kernel), List.mem_of_getElem? (i := 812) (by decide +kernel)⟩
theorem lw_p41 : lw_okq (⟨"HelterSlideModel", "rides", "(I)I"⟩, 21) := ⟨⟨by decide +kernel, by decide +kernel⟩, List.mem_of_getElem? (i := 616) (by decide +kernel), List.mem_of_getElem? (i := 815) (by decide +kernel), List.mem_of_getElem? (i := 816) (by decide +kernel)⟩
theorem lw_p42 : lw_okq (⟨"HelterSlideModel", "becomes", "(III)I"⟩, 21) := ⟨⟨by decide +kernel, by decide +kernel⟩, List.mem_of_getElem? (i := 616) (by decide +kernel), List.mem_of_getElem? (i := 823) (by decide +kernel), List.mem_of_getElem? (i := 824) (by decide +kernel)⟩
theorem lw_p43 : lw_okq (⟨"HelterSlideModel", "asides", "()V"⟩, 21) := ⟨⟨by decide +kernel, by decide +kernel⟩, List.mem_of_getElem? (i := 616) (by decide +kernel), List.mem_of_getElem? (i := 856) (by decide +kernel), List.mem_of_getElem? (i := 857) (by decide +kernel)⟩
theorem lw_p44 : lw_okq (⟨"HelterSlideModel", "would", "(I)I"⟩, 21) := ⟨⟨by decide +kernel, by decide +kernel⟩, List.mem_of_getElem? (i := 616) (by decide +kernel), List.mem_of_getElem? (i := 860) (by decide +kernel), List.mem_of_getElem? (i := 861) (by decide +kernel)⟩
theorem lw_p45 : lw_okq (⟨"HelterSlideModel", "backs", "()V"⟩, 21) := ⟨⟨by decide +kernel, by decide +kernel⟩, List.mem_of_getElem? (i := 616) (by decide +kernel), List.mem_of_getElem? (i := 864) (by decide +kernel), List.mem_of_getElem? (i := 865) (by decide +kernel)⟩
theorem lw_p46 : lw_okq (⟨"HelterSlideModel", "isOrder", "(II)Z"⟩, 21) := ⟨⟨by decide +kernel, by decide +kernel⟩, List.mem_of_getElem? (i := 616) (by decide +kernel), List.mem_of_getElem? (i := 900) (by decide +kernel), List.mem_of_getElem? (i := 901) (by decide +kernel)⟩
theorem lw_p47 : lw_okq (⟨"HelterSlideModel", "why", "(IIII)I"⟩, 21) := ⟨⟨by decide +kernel, by decide +kernel⟩, List.mem_of_getElem? (i := 616) (by decide +kernel), List.mem_of_getElem? (i := 931) (by decide +kernel), List.mem_of_getElem? (i := 932) (by decide +kernel)⟩
def lw_privs_3 : List (MethodName × Nat) := [(⟨"HelterSlideModel", "stuckTurns", "()I"⟩, 21), (⟨"HelterSlideModel", "sumOf", "(I)I"⟩, 21), (⟨"HelterSlideModel", "turnsRead", "()V"⟩, 21), (⟨"HelterSlideModel", "digit", "(II)I"⟩, 21), (⟨"HelterSlideModel", "here", "()I"⟩, 21), (⟨"HelterSlideModel", "must", "(Z)V"⟩, 21), (⟨"HelterSlideModel", "ridersRead", "()I"⟩, 21), (⟨"HelterSlideModel", "number", "(II)I"⟩, 21), (⟨"HelterSlideModel", "notes", "()V"⟩, 21), (⟨"HelterSlideModel", "rides", "(I)I"⟩, 21), (⟨"HelterSlideModel", "becomes", "(III)I"⟩, 21), (⟨"HelterSlideModel", "asides", "()V"⟩, 21), (⟨"HelterSlideModel", "would", "(I)I"⟩, 21), (⟨"HelterSlideModel", "backs", "()V"⟩, 21), (⟨"HelterSlideModel", "isOrder", "(II)Z"⟩, 21), (⟨"HelterSlideModel", "why", "(IIII)I"⟩, 21)]
theorem lw_r3 : ∀ q ∈ lw_privs_3, lw_okq q := List.forall_mem_cons.mpr ⟨lw_p32, List.forall_mem_cons.mpr ⟨lw_p33, List.forall_mem_cons.mpr ⟨lw_p34, List.forall_mem_cons.mpr ⟨lw_p35, List.forall_mem_cons.mpr ⟨lw_p36, List.forall_mem_cons.mpr ⟨lw_p37, List.forall_mem_cons.mpr ⟨lw_p38, List.forall_mem_cons.mpr ⟨lw_p39, List.forall_mem_cons.mpr ⟨lw_p40, List.forall_mem_cons.mpr ⟨lw_p41, List.forall_mem_cons.mpr ⟨lw_p42, List.forall_mem_cons.mpr ⟨lw_p43, List.forall_mem_cons.mpr ⟨lw_p44, List.forall_mem_cons.mpr ⟨lw_p45, List.forall_mem_cons.mpr ⟨lw_p46, List.forall_mem_cons.mpr ⟨lw_p47, fun _ h => absurd h List.not_mem_nil⟩⟩⟩⟩⟩⟩⟩⟩⟩⟩⟩⟩⟩⟩⟩⟩
theorem lw_p48 : lw_okq (⟨"HelterSlideModel", "isSo", "(IIII)Z"⟩, 21) := ⟨⟨by decide +kernel, by decide +kernel⟩, List.mem_of_getElem? (i := 616) (by decide +kernel), List.mem_of_getElem? (i := 935) (by decide +kernel), List.mem_of_getElem? (i := 936) (by decide +kernel)⟩
def lw_privs_4 : List (MethodName × Nat) := [(⟨"HelterSlideModel", "isSo", "(IIII)Z"⟩, 21)]
theorem lw_r4 : ∀ q ∈ lw_privs_4, lw_okq q := List.forall_mem_cons.mpr ⟨lw_p48, fun _ h => absurd h List.not_mem_nil⟩
def lw_privs : List (MethodName × Nat) := lw_privs_1 ++ (lw_privs_2 ++ (lw_privs_3 ++ (lw_privs_4)))
def lw_tbl : List Cond := k2_sels lw_privs ++ tables_1
theorem lw_privs_ok : ∀ q ∈ lw_privs, lw_okq q := by
  show ∀ q ∈ lw_privs_1 ++ (lw_privs_2 ++ (lw_privs_3 ++ (lw_privs_4))), lw_okq q
  exact List.forall_mem_append.mpr ⟨lw_r1, List.forall_mem_append.mpr ⟨lw_r2, List.forall_mem_append.mpr ⟨lw_r3, lw_r4⟩⟩⟩
def RX0 : String := "HelterSlide$History"
def TX0 : u_T := fun k => match k with
  | 0 => ("HelterSlide$History", "pasts", "[LHelterSlide$Slide;", true)
  | _ => ("HelterSlide$History", "known", "I", false)
def tyX0 : Nat → FieldType := fun k => match k with
  | 0 => .array (.object "HelterSlide$Slide")
  | _ => .int
theorem nmX0 : ∀ a, a < 2 → ∀ b, b < 2 → a ≠ b → (TX0 a).2.1 ≠ (TX0 b).2.1 := by decide +kernel
theorem tyX0_ok : ∀ k, k < 2 → parseFieldDescriptor (TX0 k).2.2.1 = some (tyX0 k) := by decide +kernel
abbrev cX0_init : ByteArray := prog_2_method_1_code
def yX0_init : MethodName := ⟨RX0, "<init>", "()V"⟩
abbrev cX0_forgetAll : ByteArray := prog_2_method_2_code
def yX0_forgetAll : MethodName := ⟨RX0, "forgetAll", "()V"⟩
abbrev cX0_remember : ByteArray := prog_2_method_3_code
def yX0_remember : MethodName := ⟨RX0, "remember", "(LHelterSlide$Slide;)V"⟩
abbrev cX0_forgetOldest : ByteArray := prog_2_method_4_code
def yX0_forgetOldest : MethodName := ⟨RX0, "forgetOldest", "()V"⟩
abbrev cX0_takeBack : ByteArray := prog_2_method_5_code
def yX0_takeBack : MethodName := ⟨RX0, "takeBack", "(LHelterSlide$Slide;)Z"⟩
abbrev cX0_become : ByteArray := prog_2_method_6_code
def yX0_become : MethodName := ⟨RX0, "become", "(LHelterSlide$History;)V"⟩
def RX1 : String := "HelterSlide$Order"
def TX1 : u_T := fun k => match k with
  | 0 => ("HelterSlide$Order", "numbers", "[I", true)
  | _ => ("HelterSlide$Order", "size", "I", false)
def tyX1 : Nat → FieldType := fun k => match k with
  | 0 => .array .int
  | _ => .int
theorem nmX1 : ∀ a, a < 2 → ∀ b, b < 2 → a ≠ b → (TX1 a).2.1 ≠ (TX1 b).2.1 := by decide +kernel
theorem tyX1_ok : ∀ k, k < 2 → parseFieldDescriptor (TX1 k).2.2.1 = some (tyX1 k) := by decide +kernel
abbrev cX1_init : ByteArray := prog_3_method_1_code
def yX1_init : MethodName := ⟨RX1, "<init>", "()V"⟩
abbrev cX1_begin : ByteArray := prog_3_method_2_code
def yX1_begin : MethodName := ⟨RX1, "begin", "(LHelterSlide$Slide;)V"⟩
abbrev cX1_numberAt : ByteArray := prog_3_method_3_code
def yX1_numberAt : MethodName := ⟨RX1, "numberAt", "(I)I"⟩
abbrev cX1_become : ByteArray := prog_3_method_4_code
def yX1_become : MethodName := ⟨RX1, "become", "(LHelterSlide$Order;)V"⟩
abbrev cX1_advance : ByteArray := prog_3_method_5_code
def yX1_advance : MethodName := ⟨RX1, "advance", "()Z"⟩
abbrev cX1_lastAbove : ByteArray := prog_3_method_6_code
def yX1_lastAbove : MethodName := ⟨RX1, "lastAbove", "(I)I"⟩
abbrev cX1_turnRound : ByteArray := prog_3_method_7_code
def yX1_turnRound : MethodName := ⟨RX1, "turnRound", "(I)V"⟩
abbrev cX1_swap : ByteArray := prog_3_method_8_code
def yX1_swap : MethodName := ⟨RX1, "swap", "(II)V"⟩
def RX2 : String := "HelterSlide$Rain"
def TX2 : u_T := fun k => match k with
  | 0 => ("HelterSlide$Rain", "ways", "[J", true)
  | _ => ("HelterSlide$Rain", "waysBehind", "[J", true)
def tyX2 : Nat → FieldType := fun k => match k with
  | 0 => .array .long
  | _ => .array .long
theorem nmX2 : ∀ a, a < 2 → ∀ b, b < 2 → a ≠ b → (TX2 a).2.1 ≠ (TX2 b).2.1 := by decide +kernel
theorem tyX2_ok : ∀ k, k < 2 → parseFieldDescriptor (TX2 k).2.2.1 = some (tyX2 k) := by decide +kernel
abbrev cX2_init : ByteArray := prog_4_method_1_code
def yX2_init : MethodName := ⟨RX2, "<init>", "()V"⟩
abbrev cX2_waysThrough : ByteArray := prog_4_method_2_code
def yX2_waysThrough : MethodName := ⟨RX2, "waysThrough", "(LHelterSlide$Slide;II)J"⟩
abbrev cX2_passTurn : ByteArray := prog_4_method_3_code
def yX2_passTurn : MethodName := ⟨RX2, "passTurn", "(LHelterSlide$Slide;III)V"⟩
abbrev cX2_addWays : ByteArray := prog_4_method_4_code
def yX2_addWays : MethodName := ⟨RX2, "addWays", "(IJ)V"⟩
def RX3 : String := "HelterSlide$Sheet"
def TX3 : u_T := fun k => match k with
  | 0 => ("HelterSlide$Sheet", "items", "[J", true)
  | 1 => ("HelterSlide$Sheet", "lane", "I", false)
  | _ => ("HelterSlide$Sheet", "size", "I", false)
def tyX3 : Nat → FieldType := fun k => match k with
  | 0 => .array .long
  | 1 => .int
  | _ => .int
theorem nmX3 : ∀ a, a < 3 → ∀ b, b < 3 → a ≠ b → (TX3 a).2.1 ≠ (TX3 b).2.1 := by decide +kernel
theorem tyX3_ok : ∀ k, k < 3 → parseFieldDescriptor (TX3 k).2.2.1 = some (tyX3 k) := by decide +kernel
abbrev cX3_init : ByteArray := prog_5_method_1_code
def yX3_init : MethodName := ⟨RX3, "<init>", "()V"⟩
abbrev cX3_begin : ByteArray := prog_5_method_2_code
def yX3_begin : MethodName := ⟨RX3, "begin", "(II)V"⟩
abbrev cX3_becomeNothing : ByteArray := prog_5_method_3_code
def yX3_becomeNothing : MethodName := ⟨RX3, "becomeNothing", "()V"⟩
abbrev cX3_isNothing : ByteArray := prog_5_method_4_code
def yX3_isNothing : MethodName := ⟨RX3, "isNothing", "()Z"⟩
abbrev cX3_holds : ByteArray := prog_5_method_5_code
def yX3_holds : MethodName := ⟨RX3, "holds", "(II)Z"⟩
abbrev cX3_refusal : ByteArray := prog_5_method_6_code
def yX3_refusal : MethodName := ⟨RX3, "refusal", "(III)I"⟩
abbrev cX3_put : ByteArray := prog_5_method_7_code
def yX3_put : MethodName := ⟨RX3, "put", "(IJ)V"⟩
abbrev cX3_cut : ByteArray := prog_5_method_8_code
def yX3_cut : MethodName := ⟨RX3, "cut", "(J)J"⟩
abbrev cX3_tells : ByteArray := prog_5_method_9_code
def yX3_tells : MethodName := ⟨RX3, "tells", "(I[III)Z"⟩
def RX4 : String := "HelterSlide$Slide"
def TX4 : u_T := fun k => match k with
  | 0 => ("HelterSlide$Slide", "rough", "[I", true)
  | 1 => ("HelterSlide$Slide", "bump", "[I", true)
  | 2 => ("HelterSlide$Slide", "kind", "[I", true)
  | 3 => ("HelterSlide$Slide", "heavy", "[I", true)
  | 4 => ("HelterSlide$Slide", "lean", "[I", true)
  | 5 => ("HelterSlide$Slide", "place", "[I", true)
  | 6 => ("HelterSlide$Slide", "riders", "I", false)
  | 7 => ("HelterSlide$Slide", "rides", "I", false)
  | _ => ("HelterSlide$Slide", "draw", "I", false)
def tyX4 : Nat → FieldType := fun k => match k with
  | 0 => .array .int
  | 1 => .array .int
  | 2 => .array .int
  | 3 => .array .int
  | 4 => .array .int
  | 5 => .array .int
  | 6 => .int
  | 7 => .int
  | _ => .int
theorem nmX4 : ∀ a, a < 9 → ∀ b, b < 9 → a ≠ b → (TX4 a).2.1 ≠ (TX4 b).2.1 := by decide +kernel
theorem tyX4_ok : ∀ k, k < 9 → parseFieldDescriptor (TX4 k).2.2.1 = some (tyX4 k) := by decide +kernel
abbrev cX4_init : ByteArray := prog_6_method_1_code
def yX4_init : MethodName := ⟨RX4, "<init>", "()V"⟩
abbrev cX4_hasRider : ByteArray := prog_6_method_2_code
def yX4_hasRider : MethodName := ⟨RX4, "hasRider", "(I)Z"⟩
abbrev cX4_addRider : ByteArray := prog_6_method_3_code
def yX4_addRider : MethodName := ⟨RX4, "addRider", "(III)I"⟩
abbrev cX4_stuckOn : ByteArray := prog_6_method_4_code
def yX4_stuckOn : MethodName := ⟨RX4, "stuckOn", "(I)I"⟩
abbrev cX4_ridersAtTop : ByteArray := prog_6_method_5_code
def yX4_ridersAtTop : MethodName := ⟨RX4, "ridersAtTop", "()I"⟩
abbrev cX4_ridersThrough : ByteArray := prog_6_method_6_code
def yX4_ridersThrough : MethodName := ⟨RX4, "ridersThrough", "()I"⟩
abbrev cX4_turnsTaken : ByteArray := prog_6_method_7_code
def yX4_turnsTaken : MethodName := ⟨RX4, "turnsTaken", "()I"⟩
abbrev cX4_gained : ByteArray := prog_6_method_8_code
def yX4_gained : MethodName := ⟨RX4, "gained", "(III)I"⟩
abbrev cX4_speedBehind : ByteArray := prog_6_method_9_code
def yX4_speedBehind : MethodName := ⟨RX4, "speedBehind", "(IIII)I"⟩
abbrev cX4_foretell : ByteArray := prog_6_method_10_code
def yX4_foretell : MethodName := ⟨RX4, "foretell", "(I[I)I"⟩
abbrev cX4_sendDown : ByteArray := prog_6_method_11_code
def yX4_sendDown : MethodName := ⟨RX4, "sendDown", "(I[I)I"⟩
abbrev cX4_liftFrom : ByteArray := prog_6_method_12_code
def yX4_liftFrom : MethodName := ⟨RX4, "liftFrom", "(I)V"⟩
abbrev cX4_driftOnce : ByteArray := prog_6_method_13_code
def yX4_driftOnce : MethodName := ⟨RX4, "driftOnce", "([I)V"⟩
abbrev cX4_goBackTo : ByteArray := prog_6_method_14_code
def yX4_goBackTo : MethodName := ⟨RX4, "goBackTo", "(LHelterSlide$Slide;)V"⟩
abbrev cX4_become : ByteArray := prog_6_method_15_code
def yX4_become : MethodName := ⟨RX4, "become", "(LHelterSlide$Slide;)V"⟩
def RX5 : String := "HelterSlide$Tape"
def TX5 : u_T := fun k => match k with
  | 0 => ("HelterSlide$Tape", "letters", "[I", true)
  | 1 => ("HelterSlide$Tape", "length", "I", false)
  | _ => ("HelterSlide$Tape", "place", "I", false)
def tyX5 : Nat → FieldType := fun k => match k with
  | 0 => .array .int
  | 1 => .int
  | _ => .int
theorem nmX5 : ∀ a, a < 3 → ∀ b, b < 3 → a ≠ b → (TX5 a).2.1 ≠ (TX5 b).2.1 := by decide +kernel
theorem tyX5_ok : ∀ k, k < 3 → parseFieldDescriptor (TX5 k).2.2.1 = some (tyX5 k) := by decide +kernel
abbrev cX5_init : ByteArray := prog_7_method_1_code
def yX5_init : MethodName := ⟨RX5, "<init>", "()V"⟩
abbrev cX5_append : ByteArray := prog_7_method_2_code
def yX5_append : MethodName := ⟨RX5, "append", "(I)I"⟩
abbrev cX5_clear : ByteArray := prog_7_method_3_code
def yX5_clear : MethodName := ⟨RX5, "clear", "()V"⟩
abbrev cX5_readSlide : ByteArray := prog_7_method_4_code
def yX5_readSlide : MethodName := ⟨RX5, "readSlide", "(LHelterSlide$Slide;)Z"⟩
abbrev cX5_readTurns : ByteArray := prog_7_method_5_code
def yX5_readTurns : MethodName := ⟨RX5, "readTurns", "(LHelterSlide$Slide;)Z"⟩
abbrev cX5_readRiders : ByteArray := prog_7_method_6_code
def yX5_readRiders : MethodName := ⟨RX5, "readRiders", "(LHelterSlide$Slide;)Z"⟩
abbrev cX5_readRider : ByteArray := prog_7_method_7_code
def yX5_readRider : MethodName := ⟨RX5, "readRider", "(LHelterSlide$Slide;)Z"⟩
abbrev cX5_kindOf : ByteArray := prog_7_method_8_code
def yX5_kindOf : MethodName := ⟨RX5, "kindOf", "(I)I"⟩
abbrev cX5_readHeavy : ByteArray := prog_7_method_9_code
def yX5_readHeavy : MethodName := ⟨RX5, "readHeavy", "()I"⟩
abbrev cX5_readDigit : ByteArray := prog_7_method_10_code
def yX5_readDigit : MethodName := ⟨RX5, "readDigit", "(II)I"⟩
abbrev cX5_nextLetter : ByteArray := prog_7_method_11_code
def yX5_nextLetter : MethodName := ⟨RX5, "nextLetter", "()I"⟩
abbrev cX5_skipBlanks : ByteArray := prog_7_method_12_code
def yX5_skipBlanks : MethodName := ⟨RX5, "skipBlanks", "()V"⟩
abbrev cX5_letterHere : ByteArray := prog_7_method_13_code
def yX5_letterHere : MethodName := ⟨RX5, "letterHere", "()I"⟩
def RX6 : String := "HelterSlide"
def TX6 : u_T := fun k => match k with
  | 0 => ("HelterSlide", "now", "LHelterSlide$Slide;", true)
  | 1 => ("HelterSlide", "trial", "LHelterSlide$Slide;", true)
  | 2 => ("HelterSlide", "history", "LHelterSlide$History;", true)
  | 3 => ("HelterSlide", "keptSlide", "LHelterSlide$Slide;", true)
  | 4 => ("HelterSlide", "keptHistory", "LHelterSlide$History;", true)
  | 5 => ("HelterSlide", "kept", "Z", false)
  | 6 => ("HelterSlide", "tape", "LHelterSlide$Tape;", true)
  | 7 => ("HelterSlide", "sheets", "[LHelterSlide$Sheet;", true)
  | 8 => ("HelterSlide", "speeds", "[I", true)
  | 9 => ("HelterSlide", "tried", "LHelterSlide$Order;", true)
  | 10 => ("HelterSlide", "best", "LHelterSlide$Order;", true)
  | _ => ("HelterSlide", "rainfall", "LHelterSlide$Rain;", true)
def tyX6 : Nat → FieldType := fun k => match k with
  | 0 => .object "HelterSlide$Slide"
  | 1 => .object "HelterSlide$Slide"
  | 2 => .object "HelterSlide$History"
  | 3 => .object "HelterSlide$Slide"
  | 4 => .object "HelterSlide$History"
  | 5 => .boolean
  | 6 => .object "HelterSlide$Tape"
  | 7 => .array (.object "HelterSlide$Sheet")
  | 8 => .array .int
  | 9 => .object "HelterSlide$Order"
  | 10 => .object "HelterSlide$Order"
  | _ => .object "HelterSlide$Rain"
theorem nmX6 : ∀ a, a < 12 → ∀ b, b < 12 → a ≠ b → (TX6 a).2.1 ≠ (TX6 b).2.1 := by decide +kernel
theorem tyX6_ok : ∀ k, k < 12 → parseFieldDescriptor (TX6 k).2.2.1 = some (tyX6 k) := by decide +kernel
abbrev cX6_init : ByteArray := prog_1_method_1_code
def yX6_init : MethodName := ⟨RX6, "<init>", "()V"⟩
abbrev cX6_rider : ByteArray := prog_1_method_2_code
def yX6_rider : MethodName := ⟨RX6, "rider", "(III)I"⟩
abbrev cX6_lean : ByteArray := prog_1_method_3_code
def yX6_lean : MethodName := ⟨RX6, "lean", "(II)I"⟩
abbrev cX6_of : ByteArray := prog_1_method_4_code
def yX6_of : MethodName := ⟨RX6, "of", "(II)I"⟩
abbrev cX6_at : ByteArray := prog_1_method_5_code
def yX6_at : MethodName := ⟨RX6, "at", "(II)I"⟩
abbrev cX6_gains : ByteArray := prog_1_method_6_code
def yX6_gains : MethodName := ⟨RX6, "gains", "(III)I"⟩
abbrev cX6_type : ByteArray := prog_1_method_7_code
def yX6_type : MethodName := ⟨RX6, "type", "(I)I"⟩
abbrev cX6_slide : ByteArray := prog_1_method_8_code
def yX6_slide : MethodName := ⟨RX6, "slide", "()I"⟩
abbrev cX6_count : ByteArray := prog_1_method_9_code
def yX6_count : MethodName := ⟨RX6, "count", "(I)I"⟩
abbrev cX6_ride : ByteArray := prog_1_method_10_code
def yX6_ride : MethodName := ⟨RX6, "ride", "(I)I"⟩
abbrev cX6_wax : ByteArray := prog_1_method_11_code
def yX6_wax : MethodName := ⟨RX6, "wax", "(II)I"⟩
abbrev cX6_hammer : ByteArray := prog_1_method_12_code
def yX6_hammer : MethodName := ⟨RX6, "hammer", "(II)I"⟩
abbrev cX6_up : ByteArray := prog_1_method_13_code
def yX6_up : MethodName := ⟨RX6, "up", "(I)I"⟩
abbrev cX6_drift : ByteArray := prog_1_method_14_code
def yX6_drift : MethodName := ⟨RX6, "drift", "(I)I"⟩
abbrev cX6_undo : ByteArray := prog_1_method_15_code
def yX6_undo : MethodName := ⟨RX6, "undo", "()I"⟩
abbrev cX6_seed : ByteArray := prog_1_method_16_code
def yX6_seed : MethodName := ⟨RX6, "seed", "(I)I"⟩
abbrev cX6_speed : ByteArray := prog_1_method_17_code
def yX6_speed : MethodName := ⟨RX6, "speed", "(II)I"⟩
abbrev cX6_ends : ByteArray := prog_1_method_18_code
def yX6_ends : MethodName := ⟨RX6, "ends", "(I)I"⟩
abbrev cX6_fast : ByteArray := prog_1_method_19_code
def yX6_fast : MethodName := ⟨RX6, "fast", "(II)I"⟩
abbrev cX6_who : ByteArray := prog_1_method_20_code
def yX6_who : MethodName := ⟨RX6, "who", "(I)I"⟩
abbrev cX6_waxes : ByteArray := prog_1_method_21_code
def yX6_waxes : MethodName := ⟨RX6, "waxes", "(II)I"⟩
abbrev cX6_firstWaxFor : ByteArray := prog_1_method_22_code
def yX6_firstWaxFor : MethodName := ⟨RX6, "firstWaxFor", "(III)I"⟩
abbrev cX6_may : ByteArray := prog_1_method_23_code
def yX6_may : MethodName := ⟨RX6, "may", "(II)I"⟩
abbrev cX6_weight : ByteArray := prog_1_method_24_code
def yX6_weight : MethodName := ⟨RX6, "weight", "(I)I"⟩
abbrev cX6_bump : ByteArray := prog_1_method_25_code
def yX6_bump : MethodName := ⟨RX6, "bump", "(I)I"⟩
abbrev cX6_throughWithoutBump : ByteArray := prog_1_method_26_code
def yX6_throughWithoutBump : MethodName := ⟨RX6, "throughWithoutBump", "(I)I"⟩
abbrev cX6_order : ByteArray := prog_1_method_27_code
def yX6_order : MethodName := ⟨RX6, "order", "(I)I"⟩
abbrev cX6_findBestOrder : ByteArray := prog_1_method_28_code
def yX6_findBestOrder : MethodName := ⟨RX6, "findBestOrder", "()I"⟩
abbrev cX6_throughBy : ByteArray := prog_1_method_29_code
def yX6_throughBy : MethodName := ⟨RX6, "throughBy", "(LHelterSlide$Order;)I"⟩
abbrev cX6_rain : ByteArray := prog_1_method_30_code
def yX6_rain : MethodName := ⟨RX6, "rain", "(III)J"⟩
abbrev cX6_image : ByteArray := prog_1_method_31_code
def yX6_image : MethodName := ⟨RX6, "image", "()I"⟩
abbrev cX6_restore : ByteArray := prog_1_method_32_code
def yX6_restore : MethodName := ⟨RX6, "restore", "()I"⟩
abbrev cX6_clocked : ByteArray := prog_1_method_33_code
def yX6_clocked : MethodName := ⟨RX6, "clocked", "(IIIIIII)I"⟩
abbrev cX6_kindsClocked : ByteArray := prog_1_method_34_code
def yX6_kindsClocked : MethodName := ⟨RX6, "kindsClocked", "(IILHelterSlide$Sheet;II)I"⟩
abbrev cX6_heaviesClocked : ByteArray := prog_1_method_35_code
def yX6_heaviesClocked : MethodName := ⟨RX6, "heaviesClocked", "(IILHelterSlide$Sheet;II)I"⟩
abbrev cX6_film : ByteArray := prog_1_method_36_code
def yX6_film : MethodName := ⟨RX6, "film", "(IIIII)I"⟩
abbrev cX6_sheet : ByteArray := prog_1_method_37_code
def yX6_sheet : MethodName := ⟨RX6, "sheet", "(III)I"⟩
abbrev cX6_drop : ByteArray := prog_1_method_38_code
def yX6_drop : MethodName := ⟨RX6, "drop", "(I)I"⟩
abbrev cX6_item : ByteArray := prog_1_method_39_code
def yX6_item : MethodName := ⟨RX6, "item", "(IIIJ)I"⟩
abbrev cX6_copy : ByteArray := prog_1_method_40_code
def yX6_copy : MethodName := ⟨RX6, "copy", "(IIIII)I"⟩
abbrev cX6_within : ByteArray := prog_1_method_41_code
def yX6_within : MethodName := ⟨RX6, "within", "(III)Z"⟩
abbrev cX6_isTurn : ByteArray := prog_1_method_42_code
def yX6_isTurn : MethodName := ⟨RX6, "isTurn", "(I)Z"⟩
abbrev cX6_isOutcome : ByteArray := prog_1_method_43_code
def yX6_isOutcome : MethodName := ⟨RX6, "isOutcome", "(I)Z"⟩
abbrev cX6_isSheet : ByteArray := prog_1_method_44_code
def yX6_isSheet : MethodName := ⟨RX6, "isSheet", "(I)Z"⟩
abbrev cX6_isLane : ByteArray := prog_1_method_45_code
def yX6_isLane : MethodName := ⟨RX6, "isLane", "(I)Z"⟩
abbrev cX6_sum : ByteArray := prog_1_method_46_code
def yX6_sum : MethodName := ⟨RX6, "sum", "([I)I"⟩
abbrev cX6_firstOfGreatest : ByteArray := prog_1_method_47_code
def yX6_firstOfGreatest : MethodName := ⟨RX6, "firstOfGreatest", "([I)I"⟩
abbrev cX6_copyRow : ByteArray := prog_1_method_48_code
def yX6_copyRow : MethodName := ⟨RX6, "copyRow", "([I[I)V"⟩
def RX7 : String := "HelterSlideModel"
def TX7 : u_T := fun k => match k with
  | 0 => ("HelterSlideModel", "now", "[I", true)
  | 1 => ("HelterSlideModel", "behind", "[I", true)
  | 2 => ("HelterSlideModel", "tape", "[I", true)
  | 3 => ("HelterSlideModel", "typed", "I", false)
  | 4 => ("HelterSlideModel", "place", "I", false)
  | 5 => ("HelterSlideModel", "isFault", "Z", false)
  | 6 => ("HelterSlideModel", "readTurns", "[I", true)
  | 7 => ("HelterSlideModel", "readRiders", "[I", true)
  | 8 => ("HelterSlideModel", "undone", "[I", true)
  | 9 => ("HelterSlideModel", "undos", "I", false)
  | 10 => ("HelterSlideModel", "aside", "[I", true)
  | 11 => ("HelterSlideModel", "tops", "[I", true)
  | 12 => ("HelterSlideModel", "order", "[I", true)
  | 13 => ("HelterSlideModel", "best", "[I", true)
  | 14 => ("HelterSlideModel", "kept", "[I", true)
  | 15 => ("HelterSlideModel", "keptUndos", "I", false)
  | 16 => ("HelterSlideModel", "isKept", "Z", false)
  | 17 => ("HelterSlideModel", "lanes", "[I", true)
  | 18 => ("HelterSlideModel", "sizes", "[I", true)
  | 19 => ("HelterSlideModel", "items", "[J", true)
  | _ => ("HelterSlideModel", "moved", "[J", true)
def tyX7 : Nat → FieldType := fun k => match k with
  | 0 => .array .int
  | 1 => .array .int
  | 2 => .array .int
  | 3 => .int
  | 4 => .int
  | 5 => .boolean
  | 6 => .array .int
  | 7 => .array .int
  | 8 => .array .int
  | 9 => .int
  | 10 => .array .int
  | 11 => .array .int
  | 12 => .array .int
  | 13 => .array .int
  | 14 => .array .int
  | 15 => .int
  | 16 => .boolean
  | 17 => .array .int
  | 18 => .array .int
  | 19 => .array .long
  | _ => .array .long
theorem nmX7 : ∀ a, a < 21 → ∀ b, b < 21 → a ≠ b → (TX7 a).2.1 ≠ (TX7 b).2.1 := by decide +kernel
theorem tyX7_ok : ∀ k, k < 21 → parseFieldDescriptor (TX7 k).2.2.1 = some (tyX7 k) := by decide +kernel
abbrev cX7_in : ByteArray := prog_9_method_2_code
def yX7_in : MethodName := ⟨RX7, "in", "(JJJ)Z"⟩
abbrev cX7_init : ByteArray := prog_9_method_3_code
def yX7_init : MethodName := ⟨RX7, "<init>", "()V"⟩
abbrev cX7_isRider : ByteArray := prog_9_method_4_code
def yX7_isRider : MethodName := ⟨RX7, "isRider", "(I)Z"⟩
abbrev cX7_isTurn : ByteArray := prog_9_method_5_code
def yX7_isTurn : MethodName := ⟨RX7, "isTurn", "(I)Z"⟩
abbrev cX7_told : ByteArray := prog_9_method_6_code
def yX7_told : MethodName := ⟨RX7, "told", "(II)I"⟩
abbrev cX7_tells : ByteArray := prog_9_method_7_code
def yX7_tells : MethodName := ⟨RX7, "tells", "(III)V"⟩
abbrev cX7_where : ByteArray := prog_9_method_8_code
def yX7_where : MethodName := ⟨RX7, "where", "(I)I"⟩
abbrev cX7_isThrough : ByteArray := prog_9_method_9_code
def yX7_isThrough : MethodName := ⟨RX7, "isThrough", "(I)Z"⟩
abbrev cX7_whoStuck : ByteArray := prog_9_method_10_code
def yX7_whoStuck : MethodName := ⟨RX7, "whoStuck", "(I)I"⟩
abbrev cX7_gain : ByteArray := prog_9_method_11_code
def yX7_gain : MethodName := ⟨RX7, "gain", "(III)I"⟩
abbrev cX7_rides : ByteArray := prog_9_method_12_code
def yX7_rides : MethodName := ⟨RX7, "rides", "(I)I"⟩
abbrev cX7_riderComes : ByteArray := prog_9_method_13_code
def yX7_riderComes : MethodName := ⟨RX7, "riderComes", "(III)V"⟩
abbrev cX7_rider : ByteArray := prog_9_method_14_code
def yX7_rider : MethodName := ⟨RX7, "rider", "(III)I"⟩
abbrev cX7_lean : ByteArray := prog_9_method_15_code
def yX7_lean : MethodName := ⟨RX7, "lean", "(II)I"⟩
abbrev cX7_of : ByteArray := prog_9_method_16_code
def yX7_of : MethodName := ⟨RX7, "of", "(II)I"⟩
abbrev cX7_at : ByteArray := prog_9_method_17_code
def yX7_at : MethodName := ⟨RX7, "at", "(II)I"⟩
abbrev cX7_gains : ByteArray := prog_9_method_18_code
def yX7_gains : MethodName := ⟨RX7, "gains", "(III)I"⟩
abbrev cX7_through : ByteArray := prog_9_method_19_code
def yX7_through : MethodName := ⟨RX7, "through", "()I"⟩
abbrev cX7_atTop : ByteArray := prog_9_method_20_code
def yX7_atTop : MethodName := ⟨RX7, "atTop", "()I"⟩
abbrev cX7_stuckTurns : ByteArray := prog_9_method_21_code
def yX7_stuckTurns : MethodName := ⟨RX7, "stuckTurns", "()I"⟩
abbrev cX7_sumOf : ByteArray := prog_9_method_22_code
def yX7_sumOf : MethodName := ⟨RX7, "sumOf", "(I)I"⟩
abbrev cX7_many : ByteArray := prog_9_method_23_code
def yX7_many : MethodName := ⟨RX7, "many", "(I)I"⟩
abbrev cX7_count : ByteArray := prog_9_method_24_code
def yX7_count : MethodName := ⟨RX7, "count", "(I)I"⟩
abbrev cX7_type : ByteArray := prog_9_method_25_code
def yX7_type : MethodName := ⟨RX7, "type", "(I)I"⟩
abbrev cX7_here : ByteArray := prog_9_method_26_code
def yX7_here : MethodName := ⟨RX7, "here", "()I"⟩
abbrev cX7_must : ByteArray := prog_9_method_27_code
def yX7_must : MethodName := ⟨RX7, "must", "(Z)V"⟩
abbrev cX7_digit : ByteArray := prog_9_method_28_code
def yX7_digit : MethodName := ⟨RX7, "digit", "(II)I"⟩
abbrev cX7_number : ByteArray := prog_9_method_29_code
def yX7_number : MethodName := ⟨RX7, "number", "(II)I"⟩
abbrev cX7_turnsRead : ByteArray := prog_9_method_30_code
def yX7_turnsRead : MethodName := ⟨RX7, "turnsRead", "()V"⟩
abbrev cX7_ridersRead : ByteArray := prog_9_method_31_code
def yX7_ridersRead : MethodName := ⟨RX7, "ridersRead", "()I"⟩
abbrev cX7_slide : ByteArray := prog_9_method_32_code
def yX7_slide : MethodName := ⟨RX7, "slide", "()I"⟩
abbrev cX7_notes : ByteArray := prog_9_method_33_code
def yX7_notes : MethodName := ⟨RX7, "notes", "()V"⟩
abbrev cX7_ride : ByteArray := prog_9_method_34_code
def yX7_ride : MethodName := ⟨RX7, "ride", "(I)I"⟩
abbrev cX7_becomes : ByteArray := prog_9_method_35_code
def yX7_becomes : MethodName := ⟨RX7, "becomes", "(III)I"⟩
abbrev cX7_wax : ByteArray := prog_9_method_36_code
def yX7_wax : MethodName := ⟨RX7, "wax", "(II)I"⟩
abbrev cX7_hammer : ByteArray := prog_9_method_37_code
def yX7_hammer : MethodName := ⟨RX7, "hammer", "(II)I"⟩
abbrev cX7_up : ByteArray := prog_9_method_38_code
def yX7_up : MethodName := ⟨RX7, "up", "(I)I"⟩
abbrev cX7_drift : ByteArray := prog_9_method_39_code
def yX7_drift : MethodName := ⟨RX7, "drift", "(I)I"⟩
abbrev cX7_undo : ByteArray := prog_9_method_40_code
def yX7_undo : MethodName := ⟨RX7, "undo", "()I"⟩
abbrev cX7_seed : ByteArray := prog_9_method_41_code
def yX7_seed : MethodName := ⟨RX7, "seed", "(I)I"⟩
abbrev cX7_asides : ByteArray := prog_9_method_42_code
def yX7_asides : MethodName := ⟨RX7, "asides", "()V"⟩
abbrev cX7_backs : ByteArray := prog_9_method_43_code
def yX7_backs : MethodName := ⟨RX7, "backs", "()V"⟩
abbrev cX7_would : ByteArray := prog_9_method_44_code
def yX7_would : MethodName := ⟨RX7, "would", "(I)I"⟩
abbrev cX7_speed : ByteArray := prog_9_method_45_code
def yX7_speed : MethodName := ⟨RX7, "speed", "(II)I"⟩
abbrev cX7_ends : ByteArray := prog_9_method_46_code
def yX7_ends : MethodName := ⟨RX7, "ends", "(I)I"⟩
abbrev cX7_fast : ByteArray := prog_9_method_47_code
def yX7_fast : MethodName := ⟨RX7, "fast", "(II)I"⟩
abbrev cX7_who : ByteArray := prog_9_method_48_code
def yX7_who : MethodName := ⟨RX7, "who", "(I)I"⟩
abbrev cX7_waxes : ByteArray := prog_9_method_49_code
def yX7_waxes : MethodName := ⟨RX7, "waxes", "(II)I"⟩
abbrev cX7_may : ByteArray := prog_9_method_50_code
def yX7_may : MethodName := ⟨RX7, "may", "(II)I"⟩
abbrev cX7_weight : ByteArray := prog_9_method_51_code
def yX7_weight : MethodName := ⟨RX7, "weight", "(I)I"⟩
abbrev cX7_bump : ByteArray := prog_9_method_52_code
def yX7_bump : MethodName := ⟨RX7, "bump", "(I)I"⟩
abbrev cX7_isOrder : ByteArray := prog_9_method_53_code
def yX7_isOrder : MethodName := ⟨RX7, "isOrder", "(II)Z"⟩
abbrev cX7_order : ByteArray := prog_9_method_54_code
def yX7_order : MethodName := ⟨RX7, "order", "(I)I"⟩
abbrev cX7_rain : ByteArray := prog_9_method_55_code
def yX7_rain : MethodName := ⟨RX7, "rain", "(III)J"⟩
abbrev cX7_image : ByteArray := prog_9_method_56_code
def yX7_image : MethodName := ⟨RX7, "image", "()I"⟩
abbrev cX7_restore : ByteArray := prog_9_method_57_code
def yX7_restore : MethodName := ⟨RX7, "restore", "()I"⟩
abbrev cX7_isSheet : ByteArray := prog_9_method_58_code
def yX7_isSheet : MethodName := ⟨RX7, "isSheet", "(I)Z"⟩
abbrev cX7_isLane : ByteArray := prog_9_method_59_code
def yX7_isLane : MethodName := ⟨RX7, "isLane", "(I)Z"⟩
abbrev cX7_why : ByteArray := prog_9_method_60_code
def yX7_why : MethodName := ⟨RX7, "why", "(IIII)I"⟩
abbrev cX7_isSo : ByteArray := prog_9_method_61_code
def yX7_isSo : MethodName := ⟨RX7, "isSo", "(IIII)Z"⟩
abbrev cX7_clocked : ByteArray := prog_9_method_62_code
def yX7_clocked : MethodName := ⟨RX7, "clocked", "(IIIIIII)I"⟩
abbrev cX7_film : ByteArray := prog_9_method_63_code
def yX7_film : MethodName := ⟨RX7, "film", "(IIIII)I"⟩
abbrev cX7_sheet : ByteArray := prog_9_method_64_code
def yX7_sheet : MethodName := ⟨RX7, "sheet", "(III)I"⟩
abbrev cX7_drop : ByteArray := prog_9_method_65_code
def yX7_drop : MethodName := ⟨RX7, "drop", "(I)I"⟩
abbrev cX7_item : ByteArray := prog_9_method_66_code
def yX7_item : MethodName := ⟨RX7, "item", "(IIIJ)I"⟩
abbrev cX7_copy : ByteArray := prog_9_method_67_code
def yX7_copy : MethodName := ⟨RX7, "copy", "(IIIII)I"⟩
def RJ6 : String := "java/lang/Integer"
def TJ6 : u_T := fun k => match k with
  | _ => ("", "", "", false)
def tyJ6 : Nat → FieldType := fun k => match k with
  | _ => .int
theorem nmJ6 : ∀ a, a < 0 → ∀ b, b < 0 → a ≠ b → (TJ6 a).2.1 ≠ (TJ6 b).2.1 := by decide +kernel
theorem tyJ6_ok : ∀ k, k < 0 → parseFieldDescriptor (TJ6 k).2.2.1 = some (tyJ6 k) := by decide +kernel
abbrev cJ6_bitCount_0f7a4 : ByteArray := prog_10_method_49_code
def yJ6_bitCount_0f7a4 : MethodName := ⟨RJ6, "bitCount", "(I)I"⟩
def RJ9 : String := "java/lang/Math"
def TJ9 : u_T := fun k => match k with
  | _ => ("", "", "", false)
def tyJ9 : Nat → FieldType := fun k => match k with
  | _ => .int
theorem nmJ9 : ∀ a, a < 0 → ∀ b, b < 0 → a ≠ b → (TJ9 a).2.1 ≠ (TJ9 b).2.1 := by decide +kernel
theorem tyJ9_ok : ∀ k, k < 0 → parseFieldDescriptor (TJ9 k).2.2.1 = some (tyJ9 k) := by decide +kernel
abbrev cJ9_max_7cf53 : ByteArray := prog_11_method_65_code
def yJ9_max_7cf53 : MethodName := ⟨RJ9, "max", "(II)I"⟩
abbrev cJ9_min_7cf53 : ByteArray := prog_11_method_69_code
def yJ9_min_7cf53 : MethodName := ⟨RJ9, "min", "(II)I"⟩
def RJ10 : String := "java/lang/System"
def TJ10 : u_T := fun k => match k with
  | _ => ("", "", "", false)
def tyJ10 : Nat → FieldType := fun k => match k with
  | _ => .int
theorem nmJ10 : ∀ a, a < 0 → ∀ b, b < 0 → a ≠ b → (TJ10 a).2.1 ≠ (TJ10 b).2.1 := by decide +kernel
theorem tyJ10_ok : ∀ k, k < 0 → parseFieldDescriptor (TJ10 k).2.2.1 = some (tyJ10 k) := by decide +kernel
def RJ7 : String := "java/util/Arrays"
def TJ7 : u_T := fun k => match k with
  | _ => ("", "", "", false)
def tyJ7 : Nat → FieldType := fun k => match k with
  | _ => .int
theorem nmJ7 : ∀ a, a < 0 → ∀ b, b < 0 → a ≠ b → (TJ7 a).2.1 ≠ (TJ7 b).2.1 := by decide +kernel
theorem tyJ7_ok : ∀ k, k < 0 → parseFieldDescriptor (TJ7 k).2.2.1 = some (tyJ7 k) := by decide +kernel
abbrev cJ7_fill_d0a16 : ByteArray := prog_13_method_101_code
def yJ7_fill_d0a16 : MethodName := ⟨RJ7, "fill", "([JJ)V"⟩
abbrev cJ7_fill_53178 : ByteArray := prog_13_method_103_code
def yJ7_fill_53178 : MethodName := ⟨RJ7, "fill", "([II)V"⟩
def RL : String := "HelterSlideLaw"
abbrev cL_law : ByteArray := code
def yL_law : MethodName := ⟨RL, "law", "([I)Z"⟩
abbrev vwCl : List vw_C := [(RX0, TX0, 2), (RX1, TX1, 2), (RX2, TX2, 2), (RX3, TX3, 3), (RX4, TX4, 9), (RX5, TX5, 3), (RX6, TX6, 12), (RX7, TX7, 21)]
