section
/-! the tables' words (the skeleton's PART A), then names as the program prints them -/
/-- a private method of a class that the tables say can be made, by its rows of tables_1 -/
def lw_okq (q : MethodName × Nat) : Prop := (q.1.cls ≠ "java/lang/invoke/MethodHandle" ∧ q.1.cls ≠ "java/lang/invoke/VarHandle") ∧ Cond.instantiable q.1.cls q.2 ∈ tables_1 ∧ Cond.privateMethod q.1 ∈ tables_1 ∧ Cond.instanceMethod q.1 ∈ tables_1
theorem lw_p0 : lw_okq (⟨"HelterSlide$Slide", "stoutGain", "(I)I"⟩, 9) := ⟨⟨by decide +kernel, by decide +kernel⟩, List.mem_of_getElem? (i := 22) (by decide +kernel), List.mem_of_getElem? (i := 242) (by decide +kernel), List.mem_of_getElem? (i := 243) (by decide +kernel)⟩
theorem lw_p1 : lw_okq (⟨"HelterSlide$Tape", "readTurns", "(LHelterSlide$Slide;)Z"⟩, 3) := ⟨⟨by decide +kernel, by decide +kernel⟩, List.mem_of_getElem? (i := 93) (by decide +kernel), List.mem_of_getElem? (i := 265) (by decide +kernel), List.mem_of_getElem? (i := 266) (by decide +kernel)⟩
theorem lw_p2 : lw_okq (⟨"HelterSlide$Tape", "readDigit", "(II)I"⟩, 3) := ⟨⟨by decide +kernel, by decide +kernel⟩, List.mem_of_getElem? (i := 93) (by decide +kernel), List.mem_of_getElem? (i := 269) (by decide +kernel), List.mem_of_getElem? (i := 270) (by decide +kernel)⟩
theorem lw_p3 : lw_okq (⟨"HelterSlide$Tape", "nextLetter", "()I"⟩, 3) := ⟨⟨by decide +kernel, by decide +kernel⟩, List.mem_of_getElem? (i := 93) (by decide +kernel), List.mem_of_getElem? (i := 273) (by decide +kernel), List.mem_of_getElem? (i := 274) (by decide +kernel)⟩
theorem lw_p4 : lw_okq (⟨"HelterSlide$Tape", "letterAt", "(I)I"⟩, 3) := ⟨⟨by decide +kernel, by decide +kernel⟩, List.mem_of_getElem? (i := 93) (by decide +kernel), List.mem_of_getElem? (i := 277) (by decide +kernel), List.mem_of_getElem? (i := 278) (by decide +kernel)⟩
theorem lw_p5 : lw_okq (⟨"HelterSlide$Tape", "readRiders", "(LHelterSlide$Slide;)Z"⟩, 3) := ⟨⟨by decide +kernel, by decide +kernel⟩, List.mem_of_getElem? (i := 93) (by decide +kernel), List.mem_of_getElem? (i := 282) (by decide +kernel), List.mem_of_getElem? (i := 283) (by decide +kernel)⟩
theorem lw_p6 : lw_okq (⟨"HelterSlide$Tape", "readRider", "(LHelterSlide$Slide;)Z"⟩, 3) := ⟨⟨by decide +kernel, by decide +kernel⟩, List.mem_of_getElem? (i := 93) (by decide +kernel), List.mem_of_getElem? (i := 286) (by decide +kernel), List.mem_of_getElem? (i := 287) (by decide +kernel)⟩
theorem lw_p7 : lw_okq (⟨"HelterSlide$Tape", "readHeavy", "()I"⟩, 3) := ⟨⟨by decide +kernel, by decide +kernel⟩, List.mem_of_getElem? (i := 93) (by decide +kernel), List.mem_of_getElem? (i := 293) (by decide +kernel), List.mem_of_getElem? (i := 294) (by decide +kernel)⟩
theorem lw_p8 : lw_okq (⟨"HelterSlide$History", "forgetOldest", "()V"⟩, 2) := ⟨⟨by decide +kernel, by decide +kernel⟩, List.mem_of_getElem? (i := 76) (by decide +kernel), List.mem_of_getElem? (i := 350) (by decide +kernel), List.mem_of_getElem? (i := 351) (by decide +kernel)⟩
theorem lw_p9 : lw_okq (⟨"HelterSlide$Slide", "liftFrom", "(I)V"⟩, 9) := ⟨⟨by decide +kernel, by decide +kernel⟩, List.mem_of_getElem? (i := 22) (by decide +kernel), List.mem_of_getElem? (i := 369) (by decide +kernel), List.mem_of_getElem? (i := 370) (by decide +kernel)⟩
theorem lw_p10 : lw_okq (⟨"HelterSlide", "firstWaxFor", "(III)I"⟩, 12) := ⟨⟨by decide +kernel, by decide +kernel⟩, List.mem_of_getElem? (i := 14) (by decide +kernel), List.mem_of_getElem? (i := 438) (by decide +kernel), List.mem_of_getElem? (i := 439) (by decide +kernel)⟩
theorem lw_p11 : lw_okq (⟨"HelterSlide", "throughWithoutBump", "(I)I"⟩, 12) := ⟨⟨by decide +kernel, by decide +kernel⟩, List.mem_of_getElem? (i := 14) (by decide +kernel), List.mem_of_getElem? (i := 454) (by decide +kernel), List.mem_of_getElem? (i := 455) (by decide +kernel)⟩
theorem lw_p12 : lw_okq (⟨"HelterSlide", "findBestOrder", "()I"⟩, 12) := ⟨⟨by decide +kernel, by decide +kernel⟩, List.mem_of_getElem? (i := 14) (by decide +kernel), List.mem_of_getElem? (i := 462) (by decide +kernel), List.mem_of_getElem? (i := 463) (by decide +kernel)⟩
theorem lw_p13 : lw_okq (⟨"HelterSlide", "throughBy", "(LHelterSlide$Order;)I"⟩, 12) := ⟨⟨by decide +kernel, by decide +kernel⟩, List.mem_of_getElem? (i := 14) (by decide +kernel), List.mem_of_getElem? (i := 470) (by decide +kernel), List.mem_of_getElem? (i := 471) (by decide +kernel)⟩
theorem lw_p14 : lw_okq (⟨"HelterSlide$Order", "lastAbove", "(I)I"⟩, 2) := ⟨⟨by decide +kernel, by decide +kernel⟩, List.mem_of_getElem? (i := 112) (by decide +kernel), List.mem_of_getElem? (i := 494) (by decide +kernel), List.mem_of_getElem? (i := 495) (by decide +kernel)⟩
theorem lw_p15 : lw_okq (⟨"HelterSlide$Order", "swap", "(II)V"⟩, 2) := ⟨⟨by decide +kernel, by decide +kernel⟩, List.mem_of_getElem? (i := 112) (by decide +kernel), List.mem_of_getElem? (i := 498) (by decide +kernel), List.mem_of_getElem? (i := 499) (by decide +kernel)⟩
def lw_privs_1 : List (MethodName × Nat) := [(⟨"HelterSlide$Slide", "stoutGain", "(I)I"⟩, 9), (⟨"HelterSlide$Tape", "readTurns", "(LHelterSlide$Slide;)Z"⟩, 3), (⟨"HelterSlide$Tape", "readDigit", "(II)I"⟩, 3), (⟨"HelterSlide$Tape", "nextLetter", "()I"⟩, 3), (⟨"HelterSlide$Tape", "letterAt", "(I)I"⟩, 3), (⟨"HelterSlide$Tape", "readRiders", "(LHelterSlide$Slide;)Z"⟩, 3), (⟨"HelterSlide$Tape", "readRider", "(LHelterSlide$Slide;)Z"⟩, 3), (⟨"HelterSlide$Tape", "readHeavy", "()I"⟩, 3), (⟨"HelterSlide$History", "forgetOldest", "()V"⟩, 2), (⟨"HelterSlide$Slide", "liftFrom", "(I)V"⟩, 9), (⟨"HelterSlide", "firstWaxFor", "(III)I"⟩, 12), (⟨"HelterSlide", "throughWithoutBump", "(I)I"⟩, 12), (⟨"HelterSlide", "findBestOrder", "()I"⟩, 12), (⟨"HelterSlide", "throughBy", "(LHelterSlide$Order;)I"⟩, 12), (⟨"HelterSlide$Order", "lastAbove", "(I)I"⟩, 2), (⟨"HelterSlide$Order", "swap", "(II)V"⟩, 2)]
theorem lw_r1 : ∀ q ∈ lw_privs_1, lw_okq q := List.forall_mem_cons.mpr ⟨lw_p0, List.forall_mem_cons.mpr ⟨lw_p1, List.forall_mem_cons.mpr ⟨lw_p2, List.forall_mem_cons.mpr ⟨lw_p3, List.forall_mem_cons.mpr ⟨lw_p4, List.forall_mem_cons.mpr ⟨lw_p5, List.forall_mem_cons.mpr ⟨lw_p6, List.forall_mem_cons.mpr ⟨lw_p7, List.forall_mem_cons.mpr ⟨lw_p8, List.forall_mem_cons.mpr ⟨lw_p9, List.forall_mem_cons.mpr ⟨lw_p10, List.forall_mem_cons.mpr ⟨lw_p11, List.forall_mem_cons.mpr ⟨lw_p12, List.forall_mem_cons.mpr ⟨lw_p13, List.forall_mem_cons.mpr ⟨lw_p14, List.forall_mem_cons.mpr ⟨lw_p15, fun _ h => absurd h List.not_mem_nil⟩⟩⟩⟩⟩⟩⟩⟩⟩⟩⟩⟩⟩⟩⟩⟩
theorem lw_p16 : lw_okq (⟨"HelterSlide$Order", "turnRound", "(I)V"⟩, 2) := ⟨⟨by decide +kernel, by decide +kernel⟩, List.mem_of_getElem? (i := 112) (by decide +kernel), List.mem_of_getElem? (i := 502) (by decide +kernel), List.mem_of_getElem? (i := 503) (by decide +kernel)⟩
theorem lw_p17 : lw_okq (⟨"HelterSlide$Rain", "passTurn", "(LHelterSlide$Slide;III)V"⟩, 2) := ⟨⟨by decide +kernel, by decide +kernel⟩, List.mem_of_getElem? (i := 126) (by decide +kernel), List.mem_of_getElem? (i := 518) (by decide +kernel), List.mem_of_getElem? (i := 519) (by decide +kernel)⟩
theorem lw_p18 : lw_okq (⟨"HelterSlide$Rain", "addWays", "(IJ)V"⟩, 2) := ⟨⟨by decide +kernel, by decide +kernel⟩, List.mem_of_getElem? (i := 126) (by decide +kernel), List.mem_of_getElem? (i := 524) (by decide +kernel), List.mem_of_getElem? (i := 525) (by decide +kernel)⟩
theorem lw_p19 : lw_okq (⟨"HelterSlide", "kindsClocked", "(IILHelterSlide$Sheet;II)I"⟩, 12) := ⟨⟨by decide +kernel, by decide +kernel⟩, List.mem_of_getElem? (i := 14) (by decide +kernel), List.mem_of_getElem? (i := 568) (by decide +kernel), List.mem_of_getElem? (i := 569) (by decide +kernel)⟩
theorem lw_p20 : lw_okq (⟨"HelterSlide", "heaviesClocked", "(IILHelterSlide$Sheet;II)I"⟩, 12) := ⟨⟨by decide +kernel, by decide +kernel⟩, List.mem_of_getElem? (i := 14) (by decide +kernel), List.mem_of_getElem? (i := 576) (by decide +kernel), List.mem_of_getElem? (i := 577) (by decide +kernel)⟩
theorem lw_p21 : lw_okq (⟨"HelterSlide$Sheet", "cut", "(J)J"⟩, 3) := ⟨⟨by decide +kernel, by decide +kernel⟩, List.mem_of_getElem? (i := 139) (by decide +kernel), List.mem_of_getElem? (i := 588) (by decide +kernel), List.mem_of_getElem? (i := 589) (by decide +kernel)⟩
theorem lw_p22 : lw_okq (⟨"HelterSlideModel", "riderComes", "(III)V"⟩, 21) := ⟨⟨by decide +kernel, by decide +kernel⟩, List.mem_of_getElem? (i := 619) (by decide +kernel), List.mem_of_getElem? (i := 699) (by decide +kernel), List.mem_of_getElem? (i := 700) (by decide +kernel)⟩
theorem lw_p23 : lw_okq (⟨"HelterSlideModel", "tells", "(III)V"⟩, 21) := ⟨⟨by decide +kernel, by decide +kernel⟩, List.mem_of_getElem? (i := 619) (by decide +kernel), List.mem_of_getElem? (i := 703) (by decide +kernel), List.mem_of_getElem? (i := 704) (by decide +kernel)⟩
theorem lw_p24 : lw_okq (⟨"HelterSlideModel", "isRider", "(I)Z"⟩, 21) := ⟨⟨by decide +kernel, by decide +kernel⟩, List.mem_of_getElem? (i := 619) (by decide +kernel), List.mem_of_getElem? (i := 711) (by decide +kernel), List.mem_of_getElem? (i := 712) (by decide +kernel)⟩
theorem lw_p25 : lw_okq (⟨"HelterSlideModel", "told", "(II)I"⟩, 21) := ⟨⟨by decide +kernel, by decide +kernel⟩, List.mem_of_getElem? (i := 619) (by decide +kernel), List.mem_of_getElem? (i := 715) (by decide +kernel), List.mem_of_getElem? (i := 716) (by decide +kernel)⟩
theorem lw_p26 : lw_okq (⟨"HelterSlideModel", "whoStuck", "(I)I"⟩, 21) := ⟨⟨by decide +kernel, by decide +kernel⟩, List.mem_of_getElem? (i := 619) (by decide +kernel), List.mem_of_getElem? (i := 733) (by decide +kernel), List.mem_of_getElem? (i := 734) (by decide +kernel)⟩
theorem lw_p27 : lw_okq (⟨"HelterSlideModel", "where", "(I)I"⟩, 21) := ⟨⟨by decide +kernel, by decide +kernel⟩, List.mem_of_getElem? (i := 619) (by decide +kernel), List.mem_of_getElem? (i := 737) (by decide +kernel), List.mem_of_getElem? (i := 738) (by decide +kernel)⟩
theorem lw_p28 : lw_okq (⟨"HelterSlideModel", "gain", "(III)I"⟩, 21) := ⟨⟨by decide +kernel, by decide +kernel⟩, List.mem_of_getElem? (i := 619) (by decide +kernel), List.mem_of_getElem? (i := 746) (by decide +kernel), List.mem_of_getElem? (i := 747) (by decide +kernel)⟩
theorem lw_p29 : lw_okq (⟨"HelterSlideModel", "atTop", "()I"⟩, 21) := ⟨⟨by decide +kernel, by decide +kernel⟩, List.mem_of_getElem? (i := 619) (by decide +kernel), List.mem_of_getElem? (i := 754) (by decide +kernel), List.mem_of_getElem? (i := 755) (by decide +kernel)⟩
theorem lw_p30 : lw_okq (⟨"HelterSlideModel", "through", "()I"⟩, 21) := ⟨⟨by decide +kernel, by decide +kernel⟩, List.mem_of_getElem? (i := 619) (by decide +kernel), List.mem_of_getElem? (i := 758) (by decide +kernel), List.mem_of_getElem? (i := 759) (by decide +kernel)⟩
theorem lw_p31 : lw_okq (⟨"HelterSlideModel", "isThrough", "(I)Z"⟩, 21) := ⟨⟨by decide +kernel, by decide +kernel⟩, List.mem_of_getElem? (i := 619) (by decide +kernel), List.mem_of_getElem? (i := 762) (by decide +kernel), List.mem_of_getElem? (i := 763) (by decide +kernel)⟩
def lw_privs_2 : List (MethodName × Nat) := [(⟨"HelterSlide$Order", "turnRound", "(I)V"⟩, 2), (⟨"HelterSlide$Rain", "passTurn", "(LHelterSlide$Slide;III)V"⟩, 2), (⟨"HelterSlide$Rain", "addWays", "(IJ)V"⟩, 2), (⟨"HelterSlide", "kindsClocked", "(IILHelterSlide$Sheet;II)I"⟩, 12), (⟨"HelterSlide", "heaviesClocked", "(IILHelterSlide$Sheet;II)I"⟩, 12), (⟨"HelterSlide$Sheet", "cut", "(J)J"⟩, 3), (⟨"HelterSlideModel", "riderComes", "(III)V"⟩, 21), (⟨"HelterSlideModel", "tells", "(III)V"⟩, 21), (⟨"HelterSlideModel", "isRider", "(I)Z"⟩, 21), (⟨"HelterSlideModel", "told", "(II)I"⟩, 21), (⟨"HelterSlideModel", "whoStuck", "(I)I"⟩, 21), (⟨"HelterSlideModel", "where", "(I)I"⟩, 21), (⟨"HelterSlideModel", "gain", "(III)I"⟩, 21), (⟨"HelterSlideModel", "atTop", "()I"⟩, 21), (⟨"HelterSlideModel", "through", "()I"⟩, 21), (⟨"HelterSlideModel", "isThrough", "(I)Z"⟩, 21)]
theorem lw_r2 : ∀ q ∈ lw_privs_2, lw_okq q := List.forall_mem_cons.mpr ⟨lw_p16, List.forall_mem_cons.mpr ⟨lw_p17, List.forall_mem_cons.mpr ⟨lw_p18, List.forall_mem_cons.mpr ⟨lw_p19, List.forall_mem_cons.mpr ⟨lw_p20, List.forall_mem_cons.mpr ⟨lw_p21, List.forall_mem_cons.mpr ⟨lw_p22, List.forall_mem_cons.mpr ⟨lw_p23, List.forall_mem_cons.mpr ⟨lw_p24, List.forall_mem_cons.mpr ⟨lw_p25, List.forall_mem_cons.mpr ⟨lw_p26, List.forall_mem_cons.mpr ⟨lw_p27, List.forall_mem_cons.mpr ⟨lw_p28, List.forall_mem_cons.mpr ⟨lw_p29, List.forall_mem_cons.mpr ⟨lw_p30, List.forall_mem_cons.mpr ⟨lw_p31, fun _ h => absurd h List.not_mem_nil⟩⟩⟩⟩⟩⟩⟩⟩⟩⟩⟩⟩⟩⟩⟩⟩
theorem lw_p32 : lw_okq (⟨"HelterSlideModel", "stuckTurns", "()I"⟩, 21) := ⟨⟨by decide +kernel, by decide +kernel⟩, List.mem_of_getElem? (i := 619) (by decide +kernel), List.mem_of_getElem? (i := 766) (by decide +kernel), List.mem_of_getElem? (i := 767) (by decide +kernel)⟩
theorem lw_p33 : lw_okq (⟨"HelterSlideModel", "sumOf", "(I)I"⟩, 21) := ⟨⟨by decide +kernel, by decide +kernel⟩, List.mem_of_getElem? (i := 619) (by decide +kernel), List.mem_of_getElem? (i := 770) (by decide +kernel), List.mem_of_getElem? (i := 771) (by decide +kernel)⟩
theorem lw_p34 : lw_okq (⟨"HelterSlideModel", "turnsRead", "()V"⟩, 21) := ⟨⟨by decide +kernel, by decide +kernel⟩, List.mem_of_getElem? (i := 619) (by decide +kernel), List.mem_of_getElem? (i := 784) (by decide +kernel), List.mem_of_getElem? (i := 785) (by decide +kernel)⟩
theorem lw_p35 : lw_okq (⟨"HelterSlideModel", "digit", "(II)I"⟩, 21) := ⟨⟨by decide +kernel, by decide +kernel⟩, List.mem_of_getElem? (i := 619) (by decide +kernel), List.mem_of_getElem? (i := 788) (by decide +kernel), List.mem_of_getElem? (i := 789) (by decide +kernel)⟩
theorem lw_p36 : lw_okq (⟨"HelterSlideModel", "here", "()I"⟩, 21) := ⟨⟨by decide +kernel, by decide +kernel⟩, List.mem_of_getElem? (i := 619) (by decide +kernel), List.mem_of_getElem? (i := 792) (by decide +kernel), List.mem_of_getElem? (i := 793) (by decide +kernel)⟩
theorem lw_p37 : lw_okq (⟨"HelterSlideModel", "must", "(Z)V"⟩, 21) := ⟨⟨by decide +kernel, by decide +kernel⟩, List.mem_of_getElem? (i := 619) (by decide +kernel), List.mem_of_getElem? (i := 796) (by decide +kernel), List.mem_of_getElem? (i := 797) (by decide +kernel)⟩
theorem lw_p38 : lw_okq (⟨"HelterSlideModel", "ridersRead", "()I"⟩, 21) := ⟨⟨by decide +kernel, by decide +kernel⟩, List.mem_of_getElem? (i := 619) (by decide +kernel), List.mem_of_getElem? (i := 800) (by decide +kernel), List.mem_of_getElem? (i := 801) (by decide +kernel)⟩
theorem lw_p39 : lw_okq (⟨"HelterSlideModel", "number", "(II)I"⟩, 21) := ⟨⟨by decide +kernel, by decide +kernel⟩, List.mem_of_getElem? (i := 619) (by decide +kernel), List.mem_of_getElem? (i := 804) (by decide +kernel), List.mem_of_getElem? (i := 805) (by decide +kernel)⟩
theorem lw_p40 : lw_okq (⟨"HelterSlideModel", "notes", "()V"⟩, 21) := ⟨⟨by decide +kernel, by decide +kernel⟩, List.mem_of_getElem? (i := 619) (by decide +kernel), List.mem_of_getElem? (i := 814) (by decide +kernel), List.mem_of_getElem? (i := 815) (by decide +kernel)⟩
theorem lw_p41 : lw_okq (⟨"HelterSlideModel", "rides", "(I)I"⟩, 21) := ⟨⟨by decide +kernel, by decide +kernel⟩, List.mem_of_getElem? (i := 619) (by decide +kernel), List.mem_of_getElem? (i := 818) (by decide +kernel), List.mem_of_getElem? (i := 819) (by decide +kernel)⟩
theorem lw_p42 : lw_okq (⟨"HelterSlideModel", "becomes", "(III)I"⟩, 21) := ⟨⟨by decide +kernel, by decide +kernel⟩, List.mem_of_getElem? (i := 619) (by decide +kernel), List.mem_of_getElem? (i := 826) (by decide +kernel), List.mem_of_getElem? (i := 827) (by decide +kernel)⟩
theorem lw_p43 : lw_okq (⟨"HelterSlideModel", "asides", "()V"⟩, 21) := ⟨⟨by decide +kernel, by decide +kernel⟩, List.mem_of_getElem? (i := 619) (by decide +kernel), List.mem_of_getElem? (i := 859) (by decide +kernel), List.mem_of_getElem? (i := 860) (by decide +kernel)⟩
theorem lw_p44 : lw_okq (⟨"HelterSlideModel", "would", "(I)I"⟩, 21) := ⟨⟨by decide +kernel, by decide +kernel⟩, List.mem_of_getElem? (i := 619) (by decide +kernel), List.mem_of_getElem? (i := 863) (by decide +kernel), List.mem_of_getElem? (i := 864) (by decide +kernel)⟩
theorem lw_p45 : lw_okq (⟨"HelterSlideModel", "backs", "()V"⟩, 21) := ⟨⟨by decide +kernel, by decide +kernel⟩, List.mem_of_getElem? (i := 619) (by decide +kernel), List.mem_of_getElem? (i := 867) (by decide +kernel), List.mem_of_getElem? (i := 868) (by decide +kernel)⟩
theorem lw_p46 : lw_okq (⟨"HelterSlideModel", "isOrder", "(II)Z"⟩, 21) := ⟨⟨by decide +kernel, by decide +kernel⟩, List.mem_of_getElem? (i := 619) (by decide +kernel), List.mem_of_getElem? (i := 903) (by decide +kernel), List.mem_of_getElem? (i := 904) (by decide +kernel)⟩
theorem lw_p47 : lw_okq (⟨"HelterSlideModel", "why", "(IIII)I"⟩, 21) := ⟨⟨by decide +kernel, by decide +kernel⟩, List.mem_of_getElem? (i := 619) (by decide +kernel), List.mem_of_getElem? (i := 934) (by decide +kernel), List.mem_of_getElem? (i := 935) (by decide +kernel)⟩
def lw_privs_3 : List (MethodName × Nat) := [(⟨"HelterSlideModel", "stuckTurns", "()I"⟩, 21), (⟨"HelterSlideModel", "sumOf", "(I)I"⟩, 21), (⟨"HelterSlideModel", "turnsRead", "()V"⟩, 21), (⟨"HelterSlideModel", "digit", "(II)I"⟩, 21), (⟨"HelterSlideModel", "here", "()I"⟩, 21), (⟨"HelterSlideModel", "must", "(Z)V"⟩, 21), (⟨"HelterSlideModel", "ridersRead", "()I"⟩, 21), (⟨"HelterSlideModel", "number", "(II)I"⟩, 21), (⟨"HelterSlideModel", "notes", "()V"⟩, 21), (⟨"HelterSlideModel", "rides", "(I)I"⟩, 21), (⟨"HelterSlideModel", "becomes", "(III)I"⟩, 21), (⟨"HelterSlideModel", "asides", "()V"⟩, 21), (⟨"HelterSlideModel", "would", "(I)I"⟩, 21), (⟨"HelterSlideModel", "backs", "()V"⟩, 21), (⟨"HelterSlideModel", "isOrder", "(II)Z"⟩, 21), (⟨"HelterSlideModel", "why", "(IIII)I"⟩, 21)]
theorem lw_r3 : ∀ q ∈ lw_privs_3, lw_okq q := List.forall_mem_cons.mpr ⟨lw_p32, List.forall_mem_cons.mpr ⟨lw_p33, List.forall_mem_cons.mpr ⟨lw_p34, List.forall_mem_cons.mpr ⟨lw_p35, List.forall_mem_cons.mpr ⟨lw_p36, List.forall_mem_cons.mpr ⟨lw_p37, List.forall_mem_cons.mpr ⟨lw_p38, List.forall_mem_cons.mpr ⟨lw_p39, List.forall_mem_cons.mpr ⟨lw_p40, List.forall_mem_cons.mpr ⟨lw_p41, List.forall_mem_cons.mpr ⟨lw_p42, List.forall_mem_cons.mpr ⟨lw_p43, List.forall_mem_cons.mpr ⟨lw_p44, List.forall_mem_cons.mpr ⟨lw_p45, List.forall_mem_cons.mpr ⟨lw_p46, List.forall_mem_cons.mpr ⟨lw_p47, fun _ h => absurd h List.not_mem_nil⟩⟩⟩⟩⟩⟩⟩⟩⟩⟩⟩⟩⟩⟩⟩⟩
theorem lw_p48 : lw_okq (⟨"HelterSlideModel", "isSo", "(IIII)Z"⟩, 21) := ⟨⟨by decide +kernel, by decide +kernel⟩, List.mem_of_getElem? (i := 619) (by decide +kernel), List.mem_of_getElem? (i := 938) (by decide +kernel), List.mem_of_getElem? (i := 939) (by decide +kernel)⟩
def lw_privs_4 : List (MethodName × Nat) := [(⟨"HelterSlideModel", "isSo", "(IIII)Z"⟩, 21)]
theorem lw_r4 : ∀ q ∈ lw_privs_4, lw_okq q := List.forall_mem_cons.mpr ⟨lw_p48, fun _ h => absurd h List.not_mem_nil⟩
def lw_privs : List (MethodName × Nat) := lw_privs_1 ++ (lw_privs_2 ++ (lw_privs_3 ++ (lw_privs_4)))
def lw_tbl : List Cond := k2_sels lw_privs ++ tables_1
theorem lw_privs_ok : ∀ q ∈ lw_privs, lw_okq q := by
  show ∀ q ∈ lw_privs_1 ++ (lw_privs_2 ++ (lw_privs_3 ++ (lw_privs_4))), lw_okq q
  exact List.forall_mem_append.mpr ⟨lw_r1, List.forall_mem_append.mpr ⟨lw_r2, List.forall_mem_append.mpr ⟨lw_r3, lw_r4⟩⟩⟩
def RX0 : String := "HelterSlide$History"
def TX0 : u_T := fun k => match k with
  | 0 => ("HelterSlide$History", "pasts", "[LHelterSlide$Slide;", true)
  | _ => ("HelterSlide$History", "known", "I", false)
def tyX0 : Nat → FieldType := fun k => match k with
  | 0 => .array (.object "HelterSlide$Slide")
  | _ => .int
theorem nmX0 : ∀ a, a < 2 → ∀ b, b < 2 → a ≠ b → (TX0 a).2.1 ≠ (TX0 b).2.1 := by decide +kernel
theorem tyX0_ok : ∀ k, k < 2 → parseFieldDescriptor (TX0 k).2.2.1 = some (tyX0 k) := by decide +kernel
abbrev cX0_init : ByteArray := prog_2_method_1_code
def yX0_init : MethodName := ⟨RX0, "<init>", "()V"⟩
abbrev cX0_forgetAll : ByteArray := prog_2_method_2_code
def yX0_forgetAll : MethodName := ⟨RX0, "forgetAll", "()V"⟩
abbrev cX0_remember : ByteArray := prog_2_method_3_code
def yX0_remember : MethodName := ⟨RX0, "remember", "(LHelterSlide$Slide;)V"⟩
abbrev cX0_forgetOldest : ByteArray := prog_2_method_4_code
def yX0_forgetOldest : MethodName := ⟨RX0, "forgetOldest", "()V"⟩
abbrev cX0_takeBack : ByteArray := prog_2_method_5_code
def yX0_takeBack : MethodName := ⟨RX0, "takeBack", "(LHelterSlide$Slide;)Z"⟩
abbrev cX0_become : ByteArray := prog_2_method_6_code
def yX0_become : MethodName := ⟨RX0, "become", "(LHelterSlide$History;)V"⟩
def RX1 : String := "HelterSlide$Order"
def TX1 : u_T := fun k => match k with
  | 0 => ("HelterSlide$Order", "numbers", "[I", true)
  | _ => ("HelterSlide$Order", "size", "I", false)
def tyX1 : Nat → FieldType := fun k => match k with
  | 0 => .array .int
  | _ => .int
theorem nmX1 : ∀ a, a < 2 → ∀ b, b < 2 → a ≠ b → (TX1 a).2.1 ≠ (TX1 b).2.1 := by decide +kernel
theorem tyX1_ok : ∀ k, k < 2 → parseFieldDescriptor (TX1 k).2.2.1 = some (tyX1 k) := by decide +kernel
abbrev cX1_init : ByteArray := prog_3_method_1_code
def yX1_init : MethodName := ⟨RX1, "<init>", "()V"⟩
abbrev cX1_begin : ByteArray := prog_3_method_2_code
def yX1_begin : MethodName := ⟨RX1, "begin", "(LHelterSlide$Slide;)V"⟩
abbrev cX1_numberAt : ByteArray := prog_3_method_3_code
def yX1_numberAt : MethodName := ⟨RX1, "numberAt", "(I)I"⟩
abbrev cX1_become : ByteArray := prog_3_method_4_code
def yX1_become : MethodName := ⟨RX1, "become", "(LHelterSlide$Order;)V"⟩
abbrev cX1_advance : ByteArray := prog_3_method_5_code
def yX1_advance : MethodName := ⟨RX1, "advance", "()Z"⟩
abbrev cX1_lastAbove : ByteArray := prog_3_method_6_code
def yX1_lastAbove : MethodName := ⟨RX1, "lastAbove", "(I)I"⟩
abbrev cX1_turnRound : ByteArray := prog_3_method_7_code
def yX1_turnRound : MethodName := ⟨RX1, "turnRound", "(I)V"⟩
abbrev cX1_swap : ByteArray := prog_3_method_8_code
def yX1_swap : MethodName := ⟨RX1, "swap", "(II)V"⟩
def RX2 : String := "HelterSlide$Rain"
def TX2 : u_T := fun k => match k with
  | 0 => ("HelterSlide$Rain", "ways", "[J", true)
  | _ => ("HelterSlide$Rain", "waysBehind", "[J", true)
def tyX2 : Nat → FieldType := fun k => match k with
  | 0 => .array .long
  | _ => .array .long
theorem nmX2 : ∀ a, a < 2 → ∀ b, b < 2 → a ≠ b → (TX2 a).2.1 ≠ (TX2 b).2.1 := by decide +kernel
theorem tyX2_ok : ∀ k, k < 2 → parseFieldDescriptor (TX2 k).2.2.1 = some (tyX2 k) := by decide +kernel
abbrev cX2_init : ByteArray := prog_4_method_1_code
def yX2_init : MethodName := ⟨RX2, "<init>", "()V"⟩
abbrev cX2_waysThrough : ByteArray := prog_4_method_2_code
def yX2_waysThrough : MethodName := ⟨RX2, "waysThrough", "(LHelterSlide$Slide;II)J"⟩
abbrev cX2_passTurn : ByteArray := prog_4_method_3_code
def yX2_passTurn : MethodName := ⟨RX2, "passTurn", "(LHelterSlide$Slide;III)V"⟩
abbrev cX2_addWays : ByteArray := prog_4_method_4_code
def yX2_addWays : MethodName := ⟨RX2, "addWays", "(IJ)V"⟩
def RX3 : String := "HelterSlide$Sheet"
def TX3 : u_T := fun k => match k with
  | 0 => ("HelterSlide$Sheet", "items", "[J", true)
  | 1 => ("HelterSlide$Sheet", "lane", "I", false)
  | _ => ("HelterSlide$Sheet", "size", "I", false)
def tyX3 : Nat → FieldType := fun k => match k with
  | 0 => .array .long
  | 1 => .int
  | _ => .int
theorem nmX3 : ∀ a, a < 3 → ∀ b, b < 3 → a ≠ b → (TX3 a).2.1 ≠ (TX3 b).2.1 := by decide +kernel
theorem tyX3_ok : ∀ k, k < 3 → parseFieldDescriptor (TX3 k).2.2.1 = some (tyX3 k) := by decide +kernel
abbrev cX3_init : ByteArray := prog_5_method_1_code
def yX3_init : MethodName := ⟨RX3, "<init>", "()V"⟩
abbrev cX3_begin : ByteArray := prog_5_method_2_code
def yX3_begin : MethodName := ⟨RX3, "begin", "(II)V"⟩
abbrev cX3_becomeNothing : ByteArray := prog_5_method_3_code
def yX3_becomeNothing : MethodName := ⟨RX3, "becomeNothing", "()V"⟩
abbrev cX3_isNothing : ByteArray := prog_5_method_4_code
def yX3_isNothing : MethodName := ⟨RX3, "isNothing", "()Z"⟩
abbrev cX3_holds : ByteArray := prog_5_method_5_code
def yX3_holds : MethodName := ⟨RX3, "holds", "(II)Z"⟩
abbrev cX3_refusal : ByteArray := prog_5_method_6_code
def yX3_refusal : MethodName := ⟨RX3, "refusal", "(III)I"⟩
abbrev cX3_put : ByteArray := prog_5_method_7_code
def yX3_put : MethodName := ⟨RX3, "put", "(IJ)V"⟩
abbrev cX3_cut : ByteArray := prog_5_method_8_code
def yX3_cut : MethodName := ⟨RX3, "cut", "(J)J"⟩
abbrev cX3_tells : ByteArray := prog_5_method_9_code
def yX3_tells : MethodName := ⟨RX3, "tells", "(I[III)Z"⟩
def RX4 : String := "HelterSlide$Slide"
def TX4 : u_T := fun k => match k with
  | 0 => ("HelterSlide$Slide", "rough", "[I", true)
  | 1 => ("HelterSlide$Slide", "bump", "[I", true)
  | 2 => ("HelterSlide$Slide", "kind", "[I", true)
  | 3 => ("HelterSlide$Slide", "heavy", "[I", true)
  | 4 => ("HelterSlide$Slide", "lean", "[I", true)
  | 5 => ("HelterSlide$Slide", "place", "[I", true)
  | 6 => ("HelterSlide$Slide", "riders", "I", false)
  | 7 => ("HelterSlide$Slide", "rides", "I", false)
  | _ => ("HelterSlide$Slide", "draw", "I", false)
def tyX4 : Nat → FieldType := fun k => match k with
  | 0 => .array .int
  | 1 => .array .int
  | 2 => .array .int
  | 3 => .array .int
  | 4 => .array .int
  | 5 => .array .int
  | 6 => .int
  | 7 => .int
  | _ => .int
theorem nmX4 : ∀ a, a < 9 → ∀ b, b < 9 → a ≠ b → (TX4 a).2.1 ≠ (TX4 b).2.1 := by decide +kernel
theorem tyX4_ok : ∀ k, k < 9 → parseFieldDescriptor (TX4 k).2.2.1 = some (tyX4 k) := by decide +kernel
abbrev cX4_init : ByteArray := prog_6_method_1_code
def yX4_init : MethodName := ⟨RX4, "<init>", "()V"⟩
abbrev cX4_hasRider : ByteArray := prog_6_method_2_code
def yX4_hasRider : MethodName := ⟨RX4, "hasRider", "(I)Z"⟩
abbrev cX4_addRider : ByteArray := prog_6_method_3_code
def yX4_addRider : MethodName := ⟨RX4, "addRider", "(III)I"⟩
abbrev cX4_stuckOn : ByteArray := prog_6_method_4_code
def yX4_stuckOn : MethodName := ⟨RX4, "stuckOn", "(I)I"⟩
abbrev cX4_ridersAtTop : ByteArray := prog_6_method_5_code
def yX4_ridersAtTop : MethodName := ⟨RX4, "ridersAtTop", "()I"⟩
abbrev cX4_ridersThrough : ByteArray := prog_6_method_6_code
def yX4_ridersThrough : MethodName := ⟨RX4, "ridersThrough", "()I"⟩
abbrev cX4_turnsTaken : ByteArray := prog_6_method_7_code
def yX4_turnsTaken : MethodName := ⟨RX4, "turnsTaken", "()I"⟩
abbrev cX4_gained : ByteArray := prog_6_method_8_code
def yX4_gained : MethodName := ⟨RX4, "gained", "(III)I"⟩
abbrev cX4_stoutGain : ByteArray := prog_6_method_9_code
def yX4_stoutGain : MethodName := ⟨RX4, "stoutGain", "(I)I"⟩
abbrev cX4_clerkGain : ByteArray := prog_6_method_10_code
def yX4_clerkGain : MethodName := ⟨RX4, "clerkGain", "(I)I"⟩
abbrev cX4_speedBehind : ByteArray := prog_6_method_11_code
def yX4_speedBehind : MethodName := ⟨RX4, "speedBehind", "(IIII)I"⟩
abbrev cX4_foretell : ByteArray := prog_6_method_12_code
def yX4_foretell : MethodName := ⟨RX4, "foretell", "(I[I)I"⟩
abbrev cX4_sendDown : ByteArray := prog_6_method_13_code
def yX4_sendDown : MethodName := ⟨RX4, "sendDown", "(I[I)I"⟩
abbrev cX4_liftFrom : ByteArray := prog_6_method_14_code
def yX4_liftFrom : MethodName := ⟨RX4, "liftFrom", "(I)V"⟩
abbrev cX4_driftOnce : ByteArray := prog_6_method_15_code
def yX4_driftOnce : MethodName := ⟨RX4, "driftOnce", "([I)V"⟩
abbrev cX4_goBackTo : ByteArray := prog_6_method_16_code
def yX4_goBackTo : MethodName := ⟨RX4, "goBackTo", "(LHelterSlide$Slide;)V"⟩
abbrev cX4_become : ByteArray := prog_6_method_17_code
def yX4_become : MethodName := ⟨RX4, "become", "(LHelterSlide$Slide;)V"⟩
def RX5 : String := "HelterSlide$Tape"
def TX5 : u_T := fun k => match k with
  | 0 => ("HelterSlide$Tape", "letters", "[I", true)
  | 1 => ("HelterSlide$Tape", "length", "I", false)
  | _ => ("HelterSlide$Tape", "place", "I", false)
def tyX5 : Nat → FieldType := fun k => match k with
  | 0 => .array .int
  | 1 => .int
  | _ => .int
theorem nmX5 : ∀ a, a < 3 → ∀ b, b < 3 → a ≠ b → (TX5 a).2.1 ≠ (TX5 b).2.1 := by decide +kernel
theorem tyX5_ok : ∀ k, k < 3 → parseFieldDescriptor (TX5 k).2.2.1 = some (tyX5 k) := by decide +kernel
abbrev cX5_init : ByteArray := prog_7_method_1_code
def yX5_init : MethodName := ⟨RX5, "<init>", "()V"⟩
abbrev cX5_append : ByteArray := prog_7_method_2_code
def yX5_append : MethodName := ⟨RX5, "append", "(I)I"⟩
abbrev cX5_clear : ByteArray := prog_7_method_3_code
def yX5_clear : MethodName := ⟨RX5, "clear", "()V"⟩
abbrev cX5_readSlide : ByteArray := prog_7_method_4_code
def yX5_readSlide : MethodName := ⟨RX5, "readSlide", "(LHelterSlide$Slide;)Z"⟩
abbrev cX5_readTurns : ByteArray := prog_7_method_5_code
def yX5_readTurns : MethodName := ⟨RX5, "readTurns", "(LHelterSlide$Slide;)Z"⟩
abbrev cX5_readRiders : ByteArray := prog_7_method_6_code
def yX5_readRiders : MethodName := ⟨RX5, "readRiders", "(LHelterSlide$Slide;)Z"⟩
abbrev cX5_readRider : ByteArray := prog_7_method_7_code
def yX5_readRider : MethodName := ⟨RX5, "readRider", "(LHelterSlide$Slide;)Z"⟩
abbrev cX5_kindOf : ByteArray := prog_7_method_8_code
def yX5_kindOf : MethodName := ⟨RX5, "kindOf", "(I)I"⟩
abbrev cX5_readHeavy : ByteArray := prog_7_method_9_code
def yX5_readHeavy : MethodName := ⟨RX5, "readHeavy", "()I"⟩
abbrev cX5_readDigit : ByteArray := prog_7_method_10_code
def yX5_readDigit : MethodName := ⟨RX5, "readDigit", "(II)I"⟩
abbrev cX5_nextLetter : ByteArray := prog_7_method_11_code
def yX5_nextLetter : MethodName := ⟨RX5, "nextLetter", "()I"⟩
abbrev cX5_letterAt : ByteArray := prog_7_method_12_code
def yX5_letterAt : MethodName := ⟨RX5, "letterAt", "(I)I"⟩
def RX6 : String := "HelterSlide"
def TX6 : u_T := fun k => match k with
  | 0 => ("HelterSlide", "now", "LHelterSlide$Slide;", true)
  | 1 => ("HelterSlide", "trial", "LHelterSlide$Slide;", true)
  | 2 => ("HelterSlide", "history", "LHelterSlide$History;", true)
  | 3 => ("HelterSlide", "keptSlide", "LHelterSlide$Slide;", true)
  | 4 => ("HelterSlide", "keptHistory", "LHelterSlide$History;", true)
  | 5 => ("HelterSlide", "kept", "Z", false)
  | 6 => ("HelterSlide", "tape", "LHelterSlide$Tape;", true)
  | 7 => ("HelterSlide", "sheets", "[LHelterSlide$Sheet;", true)
  | 8 => ("HelterSlide", "speeds", "[I", true)
  | 9 => ("HelterSlide", "tried", "LHelterSlide$Order;", true)
  | 10 => ("HelterSlide", "best", "LHelterSlide$Order;", true)
  | _ => ("HelterSlide", "rainfall", "LHelterSlide$Rain;", true)
def tyX6 : Nat → FieldType := fun k => match k with
  | 0 => .object "HelterSlide$Slide"
  | 1 => .object "HelterSlide$Slide"
  | 2 => .object "HelterSlide$History"
  | 3 => .object "HelterSlide$Slide"
  | 4 => .object "HelterSlide$History"
  | 5 => .boolean
  | 6 => .object "HelterSlide$Tape"
  | 7 => .array (.object "HelterSlide$Sheet")
  | 8 => .array .int
  | 9 => .object "HelterSlide$Order"
  | 10 => .object "HelterSlide$Order"
  | _ => .object "HelterSlide$Rain"
theorem nmX6 : ∀ a, a < 12 → ∀ b, b < 12 → a ≠ b → (TX6 a).2.1 ≠ (TX6 b).2.1 := by decide +kernel
theorem tyX6_ok : ∀ k, k < 12 → parseFieldDescriptor (TX6 k).2.2.1 = some (tyX6 k) := by decide +kernel
abbrev cX6_init : ByteArray := prog_1_method_1_code
def yX6_init : MethodName := ⟨RX6, "<init>", "()V"⟩
abbrev cX6_rider : ByteArray := prog_1_method_2_code
def yX6_rider : MethodName := ⟨RX6, "rider", "(III)I"⟩
abbrev cX6_lean : ByteArray := prog_1_method_3_code
def yX6_lean : MethodName := ⟨RX6, "lean", "(II)I"⟩
abbrev cX6_of : ByteArray := prog_1_method_4_code
def yX6_of : MethodName := ⟨RX6, "of", "(II)I"⟩
abbrev cX6_at : ByteArray := prog_1_method_5_code
def yX6_at : MethodName := ⟨RX6, "at", "(II)I"⟩
abbrev cX6_gains : ByteArray := prog_1_method_6_code
def yX6_gains : MethodName := ⟨RX6, "gains", "(III)I"⟩
abbrev cX6_type : ByteArray := prog_1_method_7_code
def yX6_type : MethodName := ⟨RX6, "type", "(I)I"⟩
abbrev cX6_slide : ByteArray := prog_1_method_8_code
def yX6_slide : MethodName := ⟨RX6, "slide", "()I"⟩
abbrev cX6_count : ByteArray := prog_1_method_9_code
def yX6_count : MethodName := ⟨RX6, "count", "(I)I"⟩
abbrev cX6_ride : ByteArray := prog_1_method_10_code
def yX6_ride : MethodName := ⟨RX6, "ride", "(I)I"⟩
abbrev cX6_wax : ByteArray := prog_1_method_11_code
def yX6_wax : MethodName := ⟨RX6, "wax", "(II)I"⟩
abbrev cX6_hammer : ByteArray := prog_1_method_12_code
def yX6_hammer : MethodName := ⟨RX6, "hammer", "(II)I"⟩
abbrev cX6_up : ByteArray := prog_1_method_13_code
def yX6_up : MethodName := ⟨RX6, "up", "(I)I"⟩
abbrev cX6_drift : ByteArray := prog_1_method_14_code
def yX6_drift : MethodName := ⟨RX6, "drift", "(I)I"⟩
abbrev cX6_undo : ByteArray := prog_1_method_15_code
def yX6_undo : MethodName := ⟨RX6, "undo", "()I"⟩
abbrev cX6_seed : ByteArray := prog_1_method_16_code
def yX6_seed : MethodName := ⟨RX6, "seed", "(I)I"⟩
abbrev cX6_speed : ByteArray := prog_1_method_17_code
def yX6_speed : MethodName := ⟨RX6, "speed", "(II)I"⟩
abbrev cX6_ends : ByteArray := prog_1_method_18_code
def yX6_ends : MethodName := ⟨RX6, "ends", "(I)I"⟩
abbrev cX6_fast : ByteArray := prog_1_method_19_code
def yX6_fast : MethodName := ⟨RX6, "fast", "(II)I"⟩
abbrev cX6_who : ByteArray := prog_1_method_20_code
def yX6_who : MethodName := ⟨RX6, "who", "(I)I"⟩
abbrev cX6_waxes : ByteArray := prog_1_method_21_code
def yX6_waxes : MethodName := ⟨RX6, "waxes", "(II)I"⟩
abbrev cX6_firstWaxFor : ByteArray := prog_1_method_22_code
def yX6_firstWaxFor : MethodName := ⟨RX6, "firstWaxFor", "(III)I"⟩
abbrev cX6_may : ByteArray := prog_1_method_23_code
def yX6_may : MethodName := ⟨RX6, "may", "(II)I"⟩
abbrev cX6_weight : ByteArray := prog_1_method_24_code
def yX6_weight : MethodName := ⟨RX6, "weight", "(I)I"⟩
abbrev cX6_bump : ByteArray := prog_1_method_25_code
def yX6_bump : MethodName := ⟨RX6, "bump", "(I)I"⟩
abbrev cX6_throughWithoutBump : ByteArray := prog_1_method_26_code
def yX6_throughWithoutBump : MethodName := ⟨RX6, "throughWithoutBump", "(I)I"⟩
abbrev cX6_order : ByteArray := prog_1_method_27_code
def yX6_order : MethodName := ⟨RX6, "order", "(I)I"⟩
abbrev cX6_findBestOrder : ByteArray := prog_1_method_28_code
def yX6_findBestOrder : MethodName := ⟨RX6, "findBestOrder", "()I"⟩
abbrev cX6_throughBy : ByteArray := prog_1_method_29_code
def yX6_throughBy : MethodName := ⟨RX6, "throughBy", "(LHelterSlide$Order;)I"⟩
abbrev cX6_rain : ByteArray := prog_1_method_30_code
def yX6_rain : MethodName := ⟨RX6, "rain", "(III)J"⟩
abbrev cX6_image : ByteArray := prog_1_method_31_code
def yX6_image : MethodName := ⟨RX6, "image", "()I"⟩
abbrev cX6_restore : ByteArray := prog_1_method_32_code
def yX6_restore : MethodName := ⟨RX6, "restore", "()I"⟩
abbrev cX6_clocked : ByteArray := prog_1_method_33_code
def yX6_clocked : MethodName := ⟨RX6, "clocked", "(IIIIIII)I"⟩
abbrev cX6_kindsClocked : ByteArray := prog_1_method_34_code
def yX6_kindsClocked : MethodName := ⟨RX6, "kindsClocked", "(IILHelterSlide$Sheet;II)I"⟩
abbrev cX6_heaviesClocked : ByteArray := prog_1_method_35_code
def yX6_heaviesClocked : MethodName := ⟨RX6, "heaviesClocked", "(IILHelterSlide$Sheet;II)I"⟩
abbrev cX6_film : ByteArray := prog_1_method_36_code
def yX6_film : MethodName := ⟨RX6, "film", "(IIIII)I"⟩
abbrev cX6_sheet : ByteArray := prog_1_method_37_code
def yX6_sheet : MethodName := ⟨RX6, "sheet", "(III)I"⟩
abbrev cX6_drop : ByteArray := prog_1_method_38_code
def yX6_drop : MethodName := ⟨RX6, "drop", "(I)I"⟩
abbrev cX6_item : ByteArray := prog_1_method_39_code
def yX6_item : MethodName := ⟨RX6, "item", "(IIIJ)I"⟩
abbrev cX6_copy : ByteArray := prog_1_method_40_code
def yX6_copy : MethodName := ⟨RX6, "copy", "(IIIII)I"⟩
abbrev cX6_within : ByteArray := prog_1_method_41_code
def yX6_within : MethodName := ⟨RX6, "within", "(III)Z"⟩
abbrev cX6_isTurn : ByteArray := prog_1_method_42_code
def yX6_isTurn : MethodName := ⟨RX6, "isTurn", "(I)Z"⟩
abbrev cX6_isOutcome : ByteArray := prog_1_method_43_code
def yX6_isOutcome : MethodName := ⟨RX6, "isOutcome", "(I)Z"⟩
abbrev cX6_isSheet : ByteArray := prog_1_method_44_code
def yX6_isSheet : MethodName := ⟨RX6, "isSheet", "(I)Z"⟩
abbrev cX6_isLane : ByteArray := prog_1_method_45_code
def yX6_isLane : MethodName := ⟨RX6, "isLane", "(I)Z"⟩
abbrev cX6_sum : ByteArray := prog_1_method_46_code
def yX6_sum : MethodName := ⟨RX6, "sum", "([I)I"⟩
abbrev cX6_firstOfGreatest : ByteArray := prog_1_method_47_code
def yX6_firstOfGreatest : MethodName := ⟨RX6, "firstOfGreatest", "([I)I"⟩
abbrev cX6_copyRow : ByteArray := prog_1_method_48_code
def yX6_copyRow : MethodName := ⟨RX6, "copyRow", "([I[I)V"⟩
def RX7 : String := "HelterSlideModel"
def TX7 : u_T := fun k => match k with
  | 0 => ("HelterSlideModel", "now", "[I", true)
  | 1 => ("HelterSlideModel", "behind", "[I", true)
  | 2 => ("HelterSlideModel", "tape", "[I", true)
  | 3 => ("HelterSlideModel", "typed", "I", false)
  | 4 => ("HelterSlideModel", "place", "I", false)
  | 5 => ("HelterSlideModel", "isFault", "Z", false)
  | 6 => ("HelterSlideModel", "readTurns", "[I", true)
  | 7 => ("HelterSlideModel", "readRiders", "[I", true)
  | 8 => ("HelterSlideModel", "undone", "[I", true)
  | 9 => ("HelterSlideModel", "undos", "I", false)
  | 10 => ("HelterSlideModel", "aside", "[I", true)
  | 11 => ("HelterSlideModel", "tops", "[I", true)
  | 12 => ("HelterSlideModel", "order", "[I", true)
  | 13 => ("HelterSlideModel", "best", "[I", true)
  | 14 => ("HelterSlideModel", "kept", "[I", true)
  | 15 => ("HelterSlideModel", "keptUndos", "I", false)
  | 16 => ("HelterSlideModel", "isKept", "Z", false)
  | 17 => ("HelterSlideModel", "lanes", "[I", true)
  | 18 => ("HelterSlideModel", "sizes", "[I", true)
  | 19 => ("HelterSlideModel", "items", "[J", true)
  | _ => ("HelterSlideModel", "moved", "[J", true)
def tyX7 : Nat → FieldType := fun k => match k with
  | 0 => .array .int
  | 1 => .array .int
  | 2 => .array .int
  | 3 => .int
  | 4 => .int
  | 5 => .boolean
  | 6 => .array .int
  | 7 => .array .int
  | 8 => .array .int
  | 9 => .int
  | 10 => .array .int
  | 11 => .array .int
  | 12 => .array .int
  | 13 => .array .int
  | 14 => .array .int
  | 15 => .int
  | 16 => .boolean
  | 17 => .array .int
  | 18 => .array .int
  | 19 => .array .long
  | _ => .array .long
theorem nmX7 : ∀ a, a < 21 → ∀ b, b < 21 → a ≠ b → (TX7 a).2.1 ≠ (TX7 b).2.1 := by decide +kernel
theorem tyX7_ok : ∀ k, k < 21 → parseFieldDescriptor (TX7 k).2.2.1 = some (tyX7 k) := by decide +kernel
abbrev cX7_in : ByteArray := prog_9_method_2_code
def yX7_in : MethodName := ⟨RX7, "in", "(JJJ)Z"⟩
abbrev cX7_init : ByteArray := prog_9_method_3_code
def yX7_init : MethodName := ⟨RX7, "<init>", "()V"⟩
abbrev cX7_isRider : ByteArray := prog_9_method_4_code
def yX7_isRider : MethodName := ⟨RX7, "isRider", "(I)Z"⟩
abbrev cX7_isTurn : ByteArray := prog_9_method_5_code
def yX7_isTurn : MethodName := ⟨RX7, "isTurn", "(I)Z"⟩
abbrev cX7_told : ByteArray := prog_9_method_6_code
def yX7_told : MethodName := ⟨RX7, "told", "(II)I"⟩
abbrev cX7_tells : ByteArray := prog_9_method_7_code
def yX7_tells : MethodName := ⟨RX7, "tells", "(III)V"⟩
abbrev cX7_where : ByteArray := prog_9_method_8_code
def yX7_where : MethodName := ⟨RX7, "where", "(I)I"⟩
abbrev cX7_isThrough : ByteArray := prog_9_method_9_code
def yX7_isThrough : MethodName := ⟨RX7, "isThrough", "(I)Z"⟩
abbrev cX7_whoStuck : ByteArray := prog_9_method_10_code
def yX7_whoStuck : MethodName := ⟨RX7, "whoStuck", "(I)I"⟩
abbrev cX7_gain : ByteArray := prog_9_method_11_code
def yX7_gain : MethodName := ⟨RX7, "gain", "(III)I"⟩
abbrev cX7_rides : ByteArray := prog_9_method_12_code
def yX7_rides : MethodName := ⟨RX7, "rides", "(I)I"⟩
abbrev cX7_riderComes : ByteArray := prog_9_method_13_code
def yX7_riderComes : MethodName := ⟨RX7, "riderComes", "(III)V"⟩
abbrev cX7_rider : ByteArray := prog_9_method_14_code
def yX7_rider : MethodName := ⟨RX7, "rider", "(III)I"⟩
abbrev cX7_lean : ByteArray := prog_9_method_15_code
def yX7_lean : MethodName := ⟨RX7, "lean", "(II)I"⟩
abbrev cX7_of : ByteArray := prog_9_method_16_code
def yX7_of : MethodName := ⟨RX7, "of", "(II)I"⟩
abbrev cX7_at : ByteArray := prog_9_method_17_code
def yX7_at : MethodName := ⟨RX7, "at", "(II)I"⟩
abbrev cX7_gains : ByteArray := prog_9_method_18_code
def yX7_gains : MethodName := ⟨RX7, "gains", "(III)I"⟩
abbrev cX7_through : ByteArray := prog_9_method_19_code
def yX7_through : MethodName := ⟨RX7, "through", "()I"⟩
abbrev cX7_atTop : ByteArray := prog_9_method_20_code
def yX7_atTop : MethodName := ⟨RX7, "atTop", "()I"⟩
abbrev cX7_stuckTurns : ByteArray := prog_9_method_21_code
def yX7_stuckTurns : MethodName := ⟨RX7, "stuckTurns", "()I"⟩
abbrev cX7_sumOf : ByteArray := prog_9_method_22_code
def yX7_sumOf : MethodName := ⟨RX7, "sumOf", "(I)I"⟩
abbrev cX7_many : ByteArray := prog_9_method_23_code
def yX7_many : MethodName := ⟨RX7, "many", "(I)I"⟩
abbrev cX7_count : ByteArray := prog_9_method_24_code
def yX7_count : MethodName := ⟨RX7, "count", "(I)I"⟩
abbrev cX7_type : ByteArray := prog_9_method_25_code
def yX7_type : MethodName := ⟨RX7, "type", "(I)I"⟩
abbrev cX7_here : ByteArray := prog_9_method_26_code
def yX7_here : MethodName := ⟨RX7, "here", "()I"⟩
abbrev cX7_must : ByteArray := prog_9_method_27_code
def yX7_must : MethodName := ⟨RX7, "must", "(Z)V"⟩
abbrev cX7_digit : ByteArray := prog_9_method_28_code
def yX7_digit : MethodName := ⟨RX7, "digit", "(II)I"⟩
abbrev cX7_number : ByteArray := prog_9_method_29_code
def yX7_number : MethodName := ⟨RX7, "number", "(II)I"⟩
abbrev cX7_turnsRead : ByteArray := prog_9_method_30_code
def yX7_turnsRead : MethodName := ⟨RX7, "turnsRead", "()V"⟩
abbrev cX7_ridersRead : ByteArray := prog_9_method_31_code
def yX7_ridersRead : MethodName := ⟨RX7, "ridersRead", "()I"⟩
abbrev cX7_slide : ByteArray := prog_9_method_32_code
def yX7_slide : MethodName := ⟨RX7, "slide", "()I"⟩
abbrev cX7_notes : ByteArray := prog_9_method_33_code
def yX7_notes : MethodName := ⟨RX7, "notes", "()V"⟩
abbrev cX7_ride : ByteArray := prog_9_method_34_code
def yX7_ride : MethodName := ⟨RX7, "ride", "(I)I"⟩
abbrev cX7_becomes : ByteArray := prog_9_method_35_code
def yX7_becomes : MethodName := ⟨RX7, "becomes", "(III)I"⟩
abbrev cX7_wax : ByteArray := prog_9_method_36_code
def yX7_wax : MethodName := ⟨RX7, "wax", "(II)I"⟩
abbrev cX7_hammer : ByteArray := prog_9_method_37_code
def yX7_hammer : MethodName := ⟨RX7, "hammer", "(II)I"⟩
abbrev cX7_up : ByteArray := prog_9_method_38_code
def yX7_up : MethodName := ⟨RX7, "up", "(I)I"⟩
abbrev cX7_drift : ByteArray := prog_9_method_39_code
def yX7_drift : MethodName := ⟨RX7, "drift", "(I)I"⟩
abbrev cX7_undo : ByteArray := prog_9_method_40_code
def yX7_undo : MethodName := ⟨RX7, "undo", "()I"⟩
abbrev cX7_seed : ByteArray := prog_9_method_41_code
def yX7_seed : MethodName := ⟨RX7, "seed", "(I)I"⟩
abbrev cX7_asides : ByteArray := prog_9_method_42_code
def yX7_asides : MethodName := ⟨RX7, "asides", "()V"⟩
abbrev cX7_backs : ByteArray := prog_9_method_43_code
def yX7_backs : MethodName := ⟨RX7, "backs", "()V"⟩
abbrev cX7_would : ByteArray := prog_9_method_44_code
def yX7_would : MethodName := ⟨RX7, "would", "(I)I"⟩
abbrev cX7_speed : ByteArray := prog_9_method_45_code
def yX7_speed : MethodName := ⟨RX7, "speed", "(II)I"⟩
abbrev cX7_ends : ByteArray := prog_9_method_46_code
def yX7_ends : MethodName := ⟨RX7, "ends", "(I)I"⟩
abbrev cX7_fast : ByteArray := prog_9_method_47_code
def yX7_fast : MethodName := ⟨RX7, "fast", "(II)I"⟩
abbrev cX7_who : ByteArray := prog_9_method_48_code
def yX7_who : MethodName := ⟨RX7, "who", "(I)I"⟩
abbrev cX7_waxes : ByteArray := prog_9_method_49_code
def yX7_waxes : MethodName := ⟨RX7, "waxes", "(II)I"⟩
abbrev cX7_may : ByteArray := prog_9_method_50_code
def yX7_may : MethodName := ⟨RX7, "may", "(II)I"⟩
abbrev cX7_weight : ByteArray := prog_9_method_51_code
def yX7_weight : MethodName := ⟨RX7, "weight", "(I)I"⟩
abbrev cX7_bump : ByteArray := prog_9_method_52_code
def yX7_bump : MethodName := ⟨RX7, "bump", "(I)I"⟩
abbrev cX7_isOrder : ByteArray := prog_9_method_53_code
def yX7_isOrder : MethodName := ⟨RX7, "isOrder", "(II)Z"⟩
abbrev cX7_order : ByteArray := prog_9_method_54_code
def yX7_order : MethodName := ⟨RX7, "order", "(I)I"⟩
abbrev cX7_rain : ByteArray := prog_9_method_55_code
def yX7_rain : MethodName := ⟨RX7, "rain", "(III)J"⟩
abbrev cX7_image : ByteArray := prog_9_method_56_code
def yX7_image : MethodName := ⟨RX7, "image", "()I"⟩
abbrev cX7_restore : ByteArray := prog_9_method_57_code
def yX7_restore : MethodName := ⟨RX7, "restore", "()I"⟩
abbrev cX7_isSheet : ByteArray := prog_9_method_58_code
def yX7_isSheet : MethodName := ⟨RX7, "isSheet", "(I)Z"⟩
abbrev cX7_isLane : ByteArray := prog_9_method_59_code
def yX7_isLane : MethodName := ⟨RX7, "isLane", "(I)Z"⟩
abbrev cX7_why : ByteArray := prog_9_method_60_code
def yX7_why : MethodName := ⟨RX7, "why", "(IIII)I"⟩
abbrev cX7_isSo : ByteArray := prog_9_method_61_code
def yX7_isSo : MethodName := ⟨RX7, "isSo", "(IIII)Z"⟩
abbrev cX7_clocked : ByteArray := prog_9_method_62_code
def yX7_clocked : MethodName := ⟨RX7, "clocked", "(IIIIIII)I"⟩
abbrev cX7_film : ByteArray := prog_9_method_63_code
def yX7_film : MethodName := ⟨RX7, "film", "(IIIII)I"⟩
abbrev cX7_sheet : ByteArray := prog_9_method_64_code
def yX7_sheet : MethodName := ⟨RX7, "sheet", "(III)I"⟩
abbrev cX7_drop : ByteArray := prog_9_method_65_code
def yX7_drop : MethodName := ⟨RX7, "drop", "(I)I"⟩
abbrev cX7_item : ByteArray := prog_9_method_66_code
def yX7_item : MethodName := ⟨RX7, "item", "(IIIJ)I"⟩
abbrev cX7_copy : ByteArray := prog_9_method_67_code
def yX7_copy : MethodName := ⟨RX7, "copy", "(IIIII)I"⟩
def RJ6 : String := "java/lang/Integer"
def TJ6 : u_T := fun k => match k with
  | _ => ("", "", "", false)
def tyJ6 : Nat → FieldType := fun k => match k with
  | _ => .int
theorem nmJ6 : ∀ a, a < 0 → ∀ b, b < 0 → a ≠ b → (TJ6 a).2.1 ≠ (TJ6 b).2.1 := by decide +kernel
theorem tyJ6_ok : ∀ k, k < 0 → parseFieldDescriptor (TJ6 k).2.2.1 = some (tyJ6 k) := by decide +kernel
abbrev cJ6_bitCount_0f7a4 : ByteArray := prog_10_method_49_code
def yJ6_bitCount_0f7a4 : MethodName := ⟨RJ6, "bitCount", "(I)I"⟩
def RJ9 : String := "java/lang/Math"
def TJ9 : u_T := fun k => match k with
  | _ => ("", "", "", false)
def tyJ9 : Nat → FieldType := fun k => match k with
  | _ => .int
theorem nmJ9 : ∀ a, a < 0 → ∀ b, b < 0 → a ≠ b → (TJ9 a).2.1 ≠ (TJ9 b).2.1 := by decide +kernel
theorem tyJ9_ok : ∀ k, k < 0 → parseFieldDescriptor (TJ9 k).2.2.1 = some (tyJ9 k) := by decide +kernel
abbrev cJ9_max_7cf53 : ByteArray := prog_11_method_65_code
def yJ9_max_7cf53 : MethodName := ⟨RJ9, "max", "(II)I"⟩
abbrev cJ9_min_7cf53 : ByteArray := prog_11_method_69_code
def yJ9_min_7cf53 : MethodName := ⟨RJ9, "min", "(II)I"⟩
def RJ10 : String := "java/lang/System"
def TJ10 : u_T := fun k => match k with
  | _ => ("", "", "", false)
def tyJ10 : Nat → FieldType := fun k => match k with
  | _ => .int
theorem nmJ10 : ∀ a, a < 0 → ∀ b, b < 0 → a ≠ b → (TJ10 a).2.1 ≠ (TJ10 b).2.1 := by decide +kernel
theorem tyJ10_ok : ∀ k, k < 0 → parseFieldDescriptor (TJ10 k).2.2.1 = some (tyJ10 k) := by decide +kernel
def RJ7 : String := "java/util/Arrays"
def TJ7 : u_T := fun k => match k with
  | _ => ("", "", "", false)
def tyJ7 : Nat → FieldType := fun k => match k with
  | _ => .int
theorem nmJ7 : ∀ a, a < 0 → ∀ b, b < 0 → a ≠ b → (TJ7 a).2.1 ≠ (TJ7 b).2.1 := by decide +kernel
theorem tyJ7_ok : ∀ k, k < 0 → parseFieldDescriptor (TJ7 k).2.2.1 = some (tyJ7 k) := by decide +kernel
abbrev cJ7_fill_d0a16 : ByteArray := prog_13_method_101_code
def yJ7_fill_d0a16 : MethodName := ⟨RJ7, "fill", "([JJ)V"⟩
abbrev cJ7_fill_53178 : ByteArray := prog_13_method_103_code
def yJ7_fill_53178 : MethodName := ⟨RJ7, "fill", "([II)V"⟩
def RL : String := "HelterSlideLaw"
abbrev cL_law : ByteArray := code
def yL_law : MethodName := ⟨RL, "law", "([I)Z"⟩
abbrev vwCl : List vw_C := [(RX0, TX0, 2), (RX1, TX1, 2), (RX2, TX2, 2), (RX3, TX3, 3), (RX4, TX4, 9), (RX5, TX5, 3), (RX6, TX6, 12), (RX7, TX7, 21)]
end
section
theorem dX0_init_0 : decode cX0_init 0 = .ok (.aload_n 0, 1) := by decide +kernel
theorem dX0_init_1 : decode cX0_init 1 = .ok (.invokespecial 1, 3) := by decide +kernel
theorem dX0_init_4 : decode cX0_init 4 = .ok (.aload_n 0, 1) := by decide +kernel
theorem dX0_init_5 : decode cX0_init 5 = .ok (.bipush 8, 2) := by decide +kernel
theorem dX0_init_7 : decode cX0_init 7 = .ok (.anewarray 7, 3) := by decide +kernel
theorem dX0_init_10 : decode cX0_init 10 = .ok (.putfield 9, 3) := by decide +kernel
theorem dX0_init_13 : decode cX0_init 13 = .ok (.aload_n 0, 1) := by decide +kernel
theorem dX0_init_14 : decode cX0_init 14 = .ok (.iconst 0, 1) := by decide +kernel
theorem dX0_init_15 : decode cX0_init 15 = .ok (.putfield 15, 3) := by decide +kernel
theorem dX0_init_18 : decode cX0_init 18 = .ok (.iconst 0, 1) := by decide +kernel
theorem dX0_init_19 : decode cX0_init 19 = .ok (.istore_n 1, 1) := by decide +kernel
theorem dX0_init_20 : decode cX0_init 20 = .ok (.iload_n 1, 1) := by decide +kernel
theorem dX0_init_21 : decode cX0_init 21 = .ok (.aload_n 0, 1) := by decide +kernel
theorem dX0_init_22 : decode cX0_init 22 = .ok (.getfield 9, 3) := by decide +kernel
theorem dX0_init_25 : decode cX0_init 25 = .ok (.arraylength, 1) := by decide +kernel
theorem dX0_init_26 : decode cX0_init 26 = .ok (.if_icmp .ge 22, 3) := by decide +kernel
theorem dX0_init_29 : decode cX0_init 29 = .ok (.aload_n 0, 1) := by decide +kernel
theorem dX0_init_30 : decode cX0_init 30 = .ok (.getfield 9, 3) := by decide +kernel
theorem dX0_init_33 : decode cX0_init 33 = .ok (.iload_n 1, 1) := by decide +kernel
theorem dX0_init_34 : decode cX0_init 34 = .ok (.new 7, 3) := by decide +kernel
theorem dX0_init_37 : decode cX0_init 37 = .ok (.dup, 1) := by decide +kernel
theorem dX0_init_38 : decode cX0_init 38 = .ok (.invokespecial 19, 3) := by decide +kernel
theorem dX0_init_41 : decode cX0_init 41 = .ok (.aastore, 1) := by decide +kernel
theorem dX0_init_42 : decode cX0_init 42 = .ok (.iinc 1 1, 3) := by decide +kernel
theorem dX0_init_45 : decode cX0_init 45 = .ok (.goto (-25), 3) := by decide +kernel
theorem dX0_init_48 : decode cX0_init 48 = .ok (.return_, 1) := by decide +kernel
theorem dX0_forgetAll_0 : decode cX0_forgetAll 0 = .ok (.aload_n 0, 1) := by decide +kernel
theorem dX0_forgetAll_1 : decode cX0_forgetAll 1 = .ok (.iconst 0, 1) := by decide +kernel
theorem dX0_forgetAll_2 : decode cX0_forgetAll 2 = .ok (.putfield 15, 3) := by decide +kernel
theorem dX0_forgetAll_5 : decode cX0_forgetAll 5 = .ok (.return_, 1) := by decide +kernel
theorem dX0_remember_0 : decode cX0_remember 0 = .ok (.aload_n 0, 1) := by decide +kernel
theorem dX0_remember_1 : decode cX0_remember 1 = .ok (.getfield 15, 3) := by decide +kernel
theorem dX0_remember_4 : decode cX0_remember 4 = .ok (.aload_n 0, 1) := by decide +kernel
theorem dX0_remember_5 : decode cX0_remember 5 = .ok (.getfield 9, 3) := by decide +kernel
theorem dX0_remember_8 : decode cX0_remember 8 = .ok (.arraylength, 1) := by decide +kernel
theorem dX0_remember_9 : decode cX0_remember 9 = .ok (.if_icmp .lt 7, 3) := by decide +kernel
theorem dX0_remember_12 : decode cX0_remember 12 = .ok (.aload_n 0, 1) := by decide +kernel
theorem dX0_remember_13 : decode cX0_remember 13 = .ok (.invokevirtual 20, 3) := by decide +kernel
theorem dX0_remember_16 : decode cX0_remember 16 = .ok (.aload_n 0, 1) := by decide +kernel
theorem dX0_remember_17 : decode cX0_remember 17 = .ok (.getfield 9, 3) := by decide +kernel
theorem dX0_remember_20 : decode cX0_remember 20 = .ok (.aload_n 0, 1) := by decide +kernel
theorem dX0_remember_21 : decode cX0_remember 21 = .ok (.getfield 15, 3) := by decide +kernel
theorem dX0_remember_24 : decode cX0_remember 24 = .ok (.aaload, 1) := by decide +kernel
theorem dX0_remember_25 : decode cX0_remember 25 = .ok (.aload_n 1, 1) := by decide +kernel
theorem dX0_remember_26 : decode cX0_remember 26 = .ok (.invokevirtual 23, 3) := by decide +kernel
theorem dX0_remember_29 : decode cX0_remember 29 = .ok (.aload_n 0, 1) := by decide +kernel
theorem dX0_remember_30 : decode cX0_remember 30 = .ok (.dup, 1) := by decide +kernel
theorem dX0_remember_31 : decode cX0_remember 31 = .ok (.getfield 15, 3) := by decide +kernel
theorem dX0_remember_34 : decode cX0_remember 34 = .ok (.iconst 1, 1) := by decide +kernel
theorem dX0_remember_35 : decode cX0_remember 35 = .ok (.iadd, 1) := by decide +kernel
theorem dX0_remember_36 : decode cX0_remember 36 = .ok (.putfield 15, 3) := by decide +kernel
theorem dX0_remember_39 : decode cX0_remember 39 = .ok (.return_, 1) := by decide +kernel
theorem dX0_forgetOldest_0 : decode cX0_forgetOldest 0 = .ok (.aload_n 0, 1) := by decide +kernel
theorem dX0_forgetOldest_1 : decode cX0_forgetOldest 1 = .ok (.getfield 9, 3) := by decide +kernel
theorem dX0_forgetOldest_4 : decode cX0_forgetOldest 4 = .ok (.iconst 0, 1) := by decide +kernel
theorem dX0_forgetOldest_5 : decode cX0_forgetOldest 5 = .ok (.aaload, 1) := by decide +kernel
theorem dX0_forgetOldest_6 : decode cX0_forgetOldest 6 = .ok (.astore_n 1, 1) := by decide +kernel
theorem dX0_forgetOldest_7 : decode cX0_forgetOldest 7 = .ok (.iconst 1, 1) := by decide +kernel
theorem dX0_forgetOldest_8 : decode cX0_forgetOldest 8 = .ok (.istore_n 2, 1) := by decide +kernel
theorem dX0_forgetOldest_9 : decode cX0_forgetOldest 9 = .ok (.iload_n 2, 1) := by decide +kernel
theorem dX0_forgetOldest_10 : decode cX0_forgetOldest 10 = .ok (.aload_n 0, 1) := by decide +kernel
theorem dX0_forgetOldest_11 : decode cX0_forgetOldest 11 = .ok (.getfield 9, 3) := by decide +kernel
theorem dX0_forgetOldest_14 : decode cX0_forgetOldest 14 = .ok (.arraylength, 1) := by decide +kernel
theorem dX0_forgetOldest_15 : decode cX0_forgetOldest 15 = .ok (.if_icmp .ge 23, 3) := by decide +kernel
theorem dX0_forgetOldest_18 : decode cX0_forgetOldest 18 = .ok (.aload_n 0, 1) := by decide +kernel
theorem dX0_forgetOldest_19 : decode cX0_forgetOldest 19 = .ok (.getfield 9, 3) := by decide +kernel
theorem dX0_forgetOldest_22 : decode cX0_forgetOldest 22 = .ok (.iload_n 2, 1) := by decide +kernel
theorem dX0_forgetOldest_23 : decode cX0_forgetOldest 23 = .ok (.iconst 1, 1) := by decide +kernel
theorem dX0_forgetOldest_24 : decode cX0_forgetOldest 24 = .ok (.isub, 1) := by decide +kernel
theorem dX0_forgetOldest_25 : decode cX0_forgetOldest 25 = .ok (.aload_n 0, 1) := by decide +kernel
theorem dX0_forgetOldest_26 : decode cX0_forgetOldest 26 = .ok (.getfield 9, 3) := by decide +kernel
theorem dX0_forgetOldest_29 : decode cX0_forgetOldest 29 = .ok (.iload_n 2, 1) := by decide +kernel
theorem dX0_forgetOldest_30 : decode cX0_forgetOldest 30 = .ok (.aaload, 1) := by decide +kernel
theorem dX0_forgetOldest_31 : decode cX0_forgetOldest 31 = .ok (.aastore, 1) := by decide +kernel
theorem dX0_forgetOldest_32 : decode cX0_forgetOldest 32 = .ok (.iinc 2 1, 3) := by decide +kernel
theorem dX0_forgetOldest_35 : decode cX0_forgetOldest 35 = .ok (.goto (-26), 3) := by decide +kernel
theorem dX0_forgetOldest_38 : decode cX0_forgetOldest 38 = .ok (.aload_n 0, 1) := by decide +kernel
theorem dX0_forgetOldest_39 : decode cX0_forgetOldest 39 = .ok (.getfield 9, 3) := by decide +kernel
theorem dX0_forgetOldest_42 : decode cX0_forgetOldest 42 = .ok (.aload_n 0, 1) := by decide +kernel
theorem dX0_forgetOldest_43 : decode cX0_forgetOldest 43 = .ok (.getfield 9, 3) := by decide +kernel
theorem dX0_forgetOldest_46 : decode cX0_forgetOldest 46 = .ok (.arraylength, 1) := by decide +kernel
theorem dX0_forgetOldest_47 : decode cX0_forgetOldest 47 = .ok (.iconst 1, 1) := by decide +kernel
theorem dX0_forgetOldest_48 : decode cX0_forgetOldest 48 = .ok (.isub, 1) := by decide +kernel
theorem dX0_forgetOldest_49 : decode cX0_forgetOldest 49 = .ok (.aload_n 1, 1) := by decide +kernel
theorem dX0_forgetOldest_50 : decode cX0_forgetOldest 50 = .ok (.aastore, 1) := by decide +kernel
theorem dX0_forgetOldest_51 : decode cX0_forgetOldest 51 = .ok (.aload_n 0, 1) := by decide +kernel
theorem dX0_forgetOldest_52 : decode cX0_forgetOldest 52 = .ok (.aload_n 0, 1) := by decide +kernel
theorem dX0_forgetOldest_53 : decode cX0_forgetOldest 53 = .ok (.getfield 9, 3) := by decide +kernel
theorem dX0_forgetOldest_56 : decode cX0_forgetOldest 56 = .ok (.arraylength, 1) := by decide +kernel
theorem dX0_forgetOldest_57 : decode cX0_forgetOldest 57 = .ok (.iconst 1, 1) := by decide +kernel
theorem dX0_forgetOldest_58 : decode cX0_forgetOldest 58 = .ok (.isub, 1) := by decide +kernel
theorem dX0_forgetOldest_59 : decode cX0_forgetOldest 59 = .ok (.putfield 15, 3) := by decide +kernel
theorem dX0_forgetOldest_62 : decode cX0_forgetOldest 62 = .ok (.return_, 1) := by decide +kernel
theorem dX0_takeBack_0 : decode cX0_takeBack 0 = .ok (.aload_n 0, 1) := by decide +kernel
theorem dX0_takeBack_1 : decode cX0_takeBack 1 = .ok (.getfield 15, 3) := by decide +kernel
theorem dX0_takeBack_4 : decode cX0_takeBack 4 = .ok (.ifCond .gt 5, 3) := by decide +kernel
theorem dX0_takeBack_7 : decode cX0_takeBack 7 = .ok (.iconst 0, 1) := by decide +kernel
theorem dX0_takeBack_8 : decode cX0_takeBack 8 = .ok (.ireturn, 1) := by decide +kernel
theorem dX0_takeBack_9 : decode cX0_takeBack 9 = .ok (.aload_n 0, 1) := by decide +kernel
theorem dX0_takeBack_10 : decode cX0_takeBack 10 = .ok (.dup, 1) := by decide +kernel
theorem dX0_takeBack_11 : decode cX0_takeBack 11 = .ok (.getfield 15, 3) := by decide +kernel
theorem dX0_takeBack_14 : decode cX0_takeBack 14 = .ok (.iconst 1, 1) := by decide +kernel
theorem dX0_takeBack_15 : decode cX0_takeBack 15 = .ok (.isub, 1) := by decide +kernel
theorem dX0_takeBack_16 : decode cX0_takeBack 16 = .ok (.putfield 15, 3) := by decide +kernel
theorem dX0_takeBack_19 : decode cX0_takeBack 19 = .ok (.aload_n 1, 1) := by decide +kernel
theorem dX0_takeBack_20 : decode cX0_takeBack 20 = .ok (.aload_n 0, 1) := by decide +kernel
theorem dX0_takeBack_21 : decode cX0_takeBack 21 = .ok (.getfield 9, 3) := by decide +kernel
theorem dX0_takeBack_24 : decode cX0_takeBack 24 = .ok (.aload_n 0, 1) := by decide +kernel
theorem dX0_takeBack_25 : decode cX0_takeBack 25 = .ok (.getfield 15, 3) := by decide +kernel
theorem dX0_takeBack_28 : decode cX0_takeBack 28 = .ok (.aaload, 1) := by decide +kernel
theorem dX0_takeBack_29 : decode cX0_takeBack 29 = .ok (.invokevirtual 27, 3) := by decide +kernel
theorem dX0_takeBack_32 : decode cX0_takeBack 32 = .ok (.iconst 1, 1) := by decide +kernel
theorem dX0_takeBack_33 : decode cX0_takeBack 33 = .ok (.ireturn, 1) := by decide +kernel
theorem dX0_become_0 : decode cX0_become 0 = .ok (.aload_n 0, 1) := by decide +kernel
theorem dX0_become_1 : decode cX0_become 1 = .ok (.aload_n 1, 1) := by decide +kernel
theorem dX0_become_2 : decode cX0_become 2 = .ok (.getfield 15, 3) := by decide +kernel
theorem dX0_become_5 : decode cX0_become 5 = .ok (.putfield 15, 3) := by decide +kernel
theorem dX0_become_8 : decode cX0_become 8 = .ok (.iconst 0, 1) := by decide +kernel
theorem dX0_become_9 : decode cX0_become 9 = .ok (.istore_n 2, 1) := by decide +kernel
theorem dX0_become_10 : decode cX0_become 10 = .ok (.iload_n 2, 1) := by decide +kernel
theorem dX0_become_11 : decode cX0_become 11 = .ok (.aload_n 0, 1) := by decide +kernel
theorem dX0_become_12 : decode cX0_become 12 = .ok (.getfield 15, 3) := by decide +kernel
theorem dX0_become_15 : decode cX0_become 15 = .ok (.if_icmp .ge 24, 3) := by decide +kernel
theorem dX0_become_18 : decode cX0_become 18 = .ok (.aload_n 0, 1) := by decide +kernel
theorem dX0_become_19 : decode cX0_become 19 = .ok (.getfield 9, 3) := by decide +kernel
theorem dX0_become_22 : decode cX0_become 22 = .ok (.iload_n 2, 1) := by decide +kernel
theorem dX0_become_23 : decode cX0_become 23 = .ok (.aaload, 1) := by decide +kernel
theorem dX0_become_24 : decode cX0_become 24 = .ok (.aload_n 1, 1) := by decide +kernel
theorem dX0_become_25 : decode cX0_become 25 = .ok (.getfield 9, 3) := by decide +kernel
theorem dX0_become_28 : decode cX0_become 28 = .ok (.iload_n 2, 1) := by decide +kernel
theorem dX0_become_29 : decode cX0_become 29 = .ok (.aaload, 1) := by decide +kernel
theorem dX0_become_30 : decode cX0_become 30 = .ok (.invokevirtual 23, 3) := by decide +kernel
theorem dX0_become_33 : decode cX0_become 33 = .ok (.iinc 2 1, 3) := by decide +kernel
theorem dX0_become_36 : decode cX0_become 36 = .ok (.goto (-26), 3) := by decide +kernel
theorem dX0_become_39 : decode cX0_become 39 = .ok (.return_, 1) := by decide +kernel
theorem dX1_init_0 : decode cX1_init 0 = .ok (.aload_n 0, 1) := by decide +kernel
theorem dX1_init_1 : decode cX1_init 1 = .ok (.invokespecial 3, 3) := by decide +kernel
theorem dX1_init_4 : decode cX1_init 4 = .ok (.aload_n 0, 1) := by decide +kernel
theorem dX1_init_5 : decode cX1_init 5 = .ok (.iconst 5, 1) := by decide +kernel
theorem dX1_init_6 : decode cX1_init 6 = .ok (.newarray .int, 2) := by decide +kernel
theorem dX1_init_8 : decode cX1_init 8 = .ok (.putfield 9, 3) := by decide +kernel
theorem dX1_init_11 : decode cX1_init 11 = .ok (.aload_n 0, 1) := by decide +kernel
theorem dX1_init_12 : decode cX1_init 12 = .ok (.iconst 0, 1) := by decide +kernel
theorem dX1_init_13 : decode cX1_init 13 = .ok (.putfield 15, 3) := by decide +kernel
theorem dX1_init_16 : decode cX1_init 16 = .ok (.return_, 1) := by decide +kernel
theorem dX1_begin_0 : decode cX1_begin 0 = .ok (.aload_n 0, 1) := by decide +kernel
theorem dX1_begin_1 : decode cX1_begin 1 = .ok (.iconst 0, 1) := by decide +kernel
theorem dX1_begin_2 : decode cX1_begin 2 = .ok (.putfield 15, 3) := by decide +kernel
theorem dX1_begin_5 : decode cX1_begin 5 = .ok (.iconst 0, 1) := by decide +kernel
theorem dX1_begin_6 : decode cX1_begin 6 = .ok (.istore_n 2, 1) := by decide +kernel
theorem dX1_begin_7 : decode cX1_begin 7 = .ok (.iload_n 2, 1) := by decide +kernel
theorem dX1_begin_8 : decode cX1_begin 8 = .ok (.aload_n 1, 1) := by decide +kernel
theorem dX1_begin_9 : decode cX1_begin 9 = .ok (.getfield 19, 3) := by decide +kernel
theorem dX1_begin_12 : decode cX1_begin 12 = .ok (.if_icmp .ge 52, 3) := by decide +kernel
theorem dX1_begin_15 : decode cX1_begin 15 = .ok (.aload_n 0, 1) := by decide +kernel
theorem dX1_begin_16 : decode cX1_begin 16 = .ok (.getfield 15, 3) := by decide +kernel
theorem dX1_begin_19 : decode cX1_begin 19 = .ok (.aload_n 0, 1) := by decide +kernel
theorem dX1_begin_20 : decode cX1_begin 20 = .ok (.getfield 9, 3) := by decide +kernel
theorem dX1_begin_23 : decode cX1_begin 23 = .ok (.arraylength, 1) := by decide +kernel
theorem dX1_begin_24 : decode cX1_begin 24 = .ok (.if_icmp .ge 40, 3) := by decide +kernel
theorem dX1_begin_27 : decode cX1_begin 27 = .ok (.aload_n 1, 1) := by decide +kernel
theorem dX1_begin_28 : decode cX1_begin 28 = .ok (.getfield 24, 3) := by decide +kernel
theorem dX1_begin_31 : decode cX1_begin 31 = .ok (.iload_n 2, 1) := by decide +kernel
theorem dX1_begin_32 : decode cX1_begin 32 = .ok (.iaload, 1) := by decide +kernel
theorem dX1_begin_33 : decode cX1_begin 33 = .ok (.bipush 30, 2) := by decide +kernel
theorem dX1_begin_35 : decode cX1_begin 35 = .ok (.if_icmp .ne 23, 3) := by decide +kernel
theorem dX1_begin_38 : decode cX1_begin 38 = .ok (.aload_n 0, 1) := by decide +kernel
theorem dX1_begin_39 : decode cX1_begin 39 = .ok (.getfield 9, 3) := by decide +kernel
theorem dX1_begin_42 : decode cX1_begin 42 = .ok (.aload_n 0, 1) := by decide +kernel
theorem dX1_begin_43 : decode cX1_begin 43 = .ok (.getfield 15, 3) := by decide +kernel
theorem dX1_begin_46 : decode cX1_begin 46 = .ok (.iload_n 2, 1) := by decide +kernel
theorem dX1_begin_47 : decode cX1_begin 47 = .ok (.iastore, 1) := by decide +kernel
theorem dX1_begin_48 : decode cX1_begin 48 = .ok (.aload_n 0, 1) := by decide +kernel
theorem dX1_begin_49 : decode cX1_begin 49 = .ok (.dup, 1) := by decide +kernel
theorem dX1_begin_50 : decode cX1_begin 50 = .ok (.getfield 15, 3) := by decide +kernel
theorem dX1_begin_53 : decode cX1_begin 53 = .ok (.iconst 1, 1) := by decide +kernel
theorem dX1_begin_54 : decode cX1_begin 54 = .ok (.iadd, 1) := by decide +kernel
theorem dX1_begin_55 : decode cX1_begin 55 = .ok (.putfield 15, 3) := by decide +kernel
theorem dX1_begin_58 : decode cX1_begin 58 = .ok (.iinc 2 1, 3) := by decide +kernel
theorem dX1_begin_61 : decode cX1_begin 61 = .ok (.goto (-54), 3) := by decide +kernel
theorem dX1_begin_64 : decode cX1_begin 64 = .ok (.return_, 1) := by decide +kernel
theorem dX1_numberAt_0 : decode cX1_numberAt 0 = .ok (.iload_n 1, 1) := by decide +kernel
theorem dX1_numberAt_1 : decode cX1_numberAt 1 = .ok (.iconst 0, 1) := by decide +kernel
theorem dX1_numberAt_2 : decode cX1_numberAt 2 = .ok (.aload_n 0, 1) := by decide +kernel
theorem dX1_numberAt_3 : decode cX1_numberAt 3 = .ok (.getfield 15, 3) := by decide +kernel
theorem dX1_numberAt_6 : decode cX1_numberAt 6 = .ok (.iconst 1, 1) := by decide +kernel
theorem dX1_numberAt_7 : decode cX1_numberAt 7 = .ok (.isub, 1) := by decide +kernel
theorem dX1_numberAt_8 : decode cX1_numberAt 8 = .ok (.invokestatic 27, 3) := by decide +kernel
theorem dX1_numberAt_11 : decode cX1_numberAt 11 = .ok (.ifCond .eq 12, 3) := by decide +kernel
theorem dX1_numberAt_14 : decode cX1_numberAt 14 = .ok (.aload_n 0, 1) := by decide +kernel
theorem dX1_numberAt_15 : decode cX1_numberAt 15 = .ok (.getfield 9, 3) := by decide +kernel
theorem dX1_numberAt_18 : decode cX1_numberAt 18 = .ok (.iload_n 1, 1) := by decide +kernel
theorem dX1_numberAt_19 : decode cX1_numberAt 19 = .ok (.iaload, 1) := by decide +kernel
theorem dX1_numberAt_20 : decode cX1_numberAt 20 = .ok (.goto 5, 3) := by decide +kernel
theorem dX1_numberAt_23 : decode cX1_numberAt 23 = .ok (.bipush (-4), 2) := by decide +kernel
theorem dX1_numberAt_25 : decode cX1_numberAt 25 = .ok (.ireturn, 1) := by decide +kernel
theorem dX1_become_0 : decode cX1_become 0 = .ok (.aload_n 1, 1) := by decide +kernel
theorem dX1_become_1 : decode cX1_become 1 = .ok (.getfield 9, 3) := by decide +kernel
theorem dX1_become_4 : decode cX1_become 4 = .ok (.aload_n 0, 1) := by decide +kernel
theorem dX1_become_5 : decode cX1_become 5 = .ok (.getfield 9, 3) := by decide +kernel
theorem dX1_become_8 : decode cX1_become 8 = .ok (.invokestatic 31, 3) := by decide +kernel
theorem dX1_become_11 : decode cX1_become 11 = .ok (.aload_n 0, 1) := by decide +kernel
theorem dX1_become_12 : decode cX1_become 12 = .ok (.aload_n 1, 1) := by decide +kernel
theorem dX1_become_13 : decode cX1_become 13 = .ok (.getfield 15, 3) := by decide +kernel
theorem dX1_become_16 : decode cX1_become 16 = .ok (.putfield 15, 3) := by decide +kernel
theorem dX1_become_19 : decode cX1_become 19 = .ok (.return_, 1) := by decide +kernel
theorem dX1_advance_0 : decode cX1_advance 0 = .ok (.aload_n 0, 1) := by decide +kernel
theorem dX1_advance_1 : decode cX1_advance 1 = .ok (.getfield 15, 3) := by decide +kernel
theorem dX1_advance_4 : decode cX1_advance 4 = .ok (.iconst 2, 1) := by decide +kernel
theorem dX1_advance_5 : decode cX1_advance 5 = .ok (.isub, 1) := by decide +kernel
theorem dX1_advance_6 : decode cX1_advance 6 = .ok (.istore_n 1, 1) := by decide +kernel
theorem dX1_advance_7 : decode cX1_advance 7 = .ok (.iload_n 1, 1) := by decide +kernel
theorem dX1_advance_8 : decode cX1_advance 8 = .ok (.ifCond .lt 45, 3) := by decide +kernel
theorem dX1_advance_11 : decode cX1_advance 11 = .ok (.aload_n 0, 1) := by decide +kernel
theorem dX1_advance_12 : decode cX1_advance 12 = .ok (.getfield 9, 3) := by decide +kernel
theorem dX1_advance_15 : decode cX1_advance 15 = .ok (.iload_n 1, 1) := by decide +kernel
theorem dX1_advance_16 : decode cX1_advance 16 = .ok (.iaload, 1) := by decide +kernel
theorem dX1_advance_17 : decode cX1_advance 17 = .ok (.aload_n 0, 1) := by decide +kernel
theorem dX1_advance_18 : decode cX1_advance 18 = .ok (.getfield 9, 3) := by decide +kernel
theorem dX1_advance_21 : decode cX1_advance 21 = .ok (.iload_n 1, 1) := by decide +kernel
theorem dX1_advance_22 : decode cX1_advance 22 = .ok (.iconst 1, 1) := by decide +kernel
theorem dX1_advance_23 : decode cX1_advance 23 = .ok (.iadd, 1) := by decide +kernel
theorem dX1_advance_24 : decode cX1_advance 24 = .ok (.iaload, 1) := by decide +kernel
theorem dX1_advance_25 : decode cX1_advance 25 = .ok (.if_icmp .ge 22, 3) := by decide +kernel
theorem dX1_advance_28 : decode cX1_advance 28 = .ok (.aload_n 0, 1) := by decide +kernel
theorem dX1_advance_29 : decode cX1_advance 29 = .ok (.iload_n 1, 1) := by decide +kernel
theorem dX1_advance_30 : decode cX1_advance 30 = .ok (.aload_n 0, 1) := by decide +kernel
theorem dX1_advance_31 : decode cX1_advance 31 = .ok (.iload_n 1, 1) := by decide +kernel
theorem dX1_advance_32 : decode cX1_advance 32 = .ok (.invokevirtual 35, 3) := by decide +kernel
theorem dX1_advance_35 : decode cX1_advance 35 = .ok (.invokevirtual 39, 3) := by decide +kernel
theorem dX1_advance_38 : decode cX1_advance 38 = .ok (.aload_n 0, 1) := by decide +kernel
theorem dX1_advance_39 : decode cX1_advance 39 = .ok (.iload_n 1, 1) := by decide +kernel
theorem dX1_advance_40 : decode cX1_advance 40 = .ok (.iconst 1, 1) := by decide +kernel
theorem dX1_advance_41 : decode cX1_advance 41 = .ok (.iadd, 1) := by decide +kernel
theorem dX1_advance_42 : decode cX1_advance 42 = .ok (.invokevirtual 43, 3) := by decide +kernel
theorem dX1_advance_45 : decode cX1_advance 45 = .ok (.iconst 1, 1) := by decide +kernel
theorem dX1_advance_46 : decode cX1_advance 46 = .ok (.ireturn, 1) := by decide +kernel
theorem dX1_advance_47 : decode cX1_advance 47 = .ok (.iinc 1 (-1), 3) := by decide +kernel
theorem dX1_advance_50 : decode cX1_advance 50 = .ok (.goto (-43), 3) := by decide +kernel
theorem dX1_advance_53 : decode cX1_advance 53 = .ok (.iconst 0, 1) := by decide +kernel
theorem dX1_advance_54 : decode cX1_advance 54 = .ok (.ireturn, 1) := by decide +kernel
theorem dX1_lastAbove_0 : decode cX1_lastAbove 0 = .ok (.iload_n 1, 1) := by decide +kernel
theorem dX1_lastAbove_1 : decode cX1_lastAbove 1 = .ok (.iconst 1, 1) := by decide +kernel
theorem dX1_lastAbove_2 : decode cX1_lastAbove 2 = .ok (.iadd, 1) := by decide +kernel
theorem dX1_lastAbove_3 : decode cX1_lastAbove 3 = .ok (.istore_n 2, 1) := by decide +kernel
theorem dX1_lastAbove_4 : decode cX1_lastAbove 4 = .ok (.iload_n 1, 1) := by decide +kernel
theorem dX1_lastAbove_5 : decode cX1_lastAbove 5 = .ok (.iconst 2, 1) := by decide +kernel
theorem dX1_lastAbove_6 : decode cX1_lastAbove 6 = .ok (.iadd, 1) := by decide +kernel
theorem dX1_lastAbove_7 : decode cX1_lastAbove 7 = .ok (.istore_n 3, 1) := by decide +kernel
theorem dX1_lastAbove_8 : decode cX1_lastAbove 8 = .ok (.iload_n 3, 1) := by decide +kernel
theorem dX1_lastAbove_9 : decode cX1_lastAbove 9 = .ok (.aload_n 0, 1) := by decide +kernel
theorem dX1_lastAbove_10 : decode cX1_lastAbove 10 = .ok (.getfield 15, 3) := by decide +kernel
theorem dX1_lastAbove_13 : decode cX1_lastAbove 13 = .ok (.if_icmp .ge 26, 3) := by decide +kernel
theorem dX1_lastAbove_16 : decode cX1_lastAbove 16 = .ok (.aload_n 0, 1) := by decide +kernel
theorem dX1_lastAbove_17 : decode cX1_lastAbove 17 = .ok (.getfield 9, 3) := by decide +kernel
theorem dX1_lastAbove_20 : decode cX1_lastAbove 20 = .ok (.iload_n 3, 1) := by decide +kernel
theorem dX1_lastAbove_21 : decode cX1_lastAbove 21 = .ok (.iaload, 1) := by decide +kernel
theorem dX1_lastAbove_22 : decode cX1_lastAbove 22 = .ok (.aload_n 0, 1) := by decide +kernel
theorem dX1_lastAbove_23 : decode cX1_lastAbove 23 = .ok (.getfield 9, 3) := by decide +kernel
theorem dX1_lastAbove_26 : decode cX1_lastAbove 26 = .ok (.iload_n 1, 1) := by decide +kernel
theorem dX1_lastAbove_27 : decode cX1_lastAbove 27 = .ok (.iaload, 1) := by decide +kernel
theorem dX1_lastAbove_28 : decode cX1_lastAbove 28 = .ok (.if_icmp .le 5, 3) := by decide +kernel
theorem dX1_lastAbove_31 : decode cX1_lastAbove 31 = .ok (.iload_n 3, 1) := by decide +kernel
theorem dX1_lastAbove_32 : decode cX1_lastAbove 32 = .ok (.istore_n 2, 1) := by decide +kernel
theorem dX1_lastAbove_33 : decode cX1_lastAbove 33 = .ok (.iinc 3 1, 3) := by decide +kernel
theorem dX1_lastAbove_36 : decode cX1_lastAbove 36 = .ok (.goto (-28), 3) := by decide +kernel
theorem dX1_lastAbove_39 : decode cX1_lastAbove 39 = .ok (.iload_n 2, 1) := by decide +kernel
theorem dX1_lastAbove_40 : decode cX1_lastAbove 40 = .ok (.ireturn, 1) := by decide +kernel
theorem dX1_turnRound_0 : decode cX1_turnRound 0 = .ok (.aload_n 0, 1) := by decide +kernel
theorem dX1_turnRound_1 : decode cX1_turnRound 1 = .ok (.getfield 15, 3) := by decide +kernel
theorem dX1_turnRound_4 : decode cX1_turnRound 4 = .ok (.iconst 1, 1) := by decide +kernel
theorem dX1_turnRound_5 : decode cX1_turnRound 5 = .ok (.isub, 1) := by decide +kernel
theorem dX1_turnRound_6 : decode cX1_turnRound 6 = .ok (.istore_n 2, 1) := by decide +kernel
theorem dX1_turnRound_7 : decode cX1_turnRound 7 = .ok (.iload_n 1, 1) := by decide +kernel
theorem dX1_turnRound_8 : decode cX1_turnRound 8 = .ok (.istore_n 3, 1) := by decide +kernel
theorem dX1_turnRound_9 : decode cX1_turnRound 9 = .ok (.iload_n 3, 1) := by decide +kernel
theorem dX1_turnRound_10 : decode cX1_turnRound 10 = .ok (.iload_n 2, 1) := by decide +kernel
theorem dX1_turnRound_11 : decode cX1_turnRound 11 = .ok (.if_icmp .ge 18, 3) := by decide +kernel
theorem dX1_turnRound_14 : decode cX1_turnRound 14 = .ok (.aload_n 0, 1) := by decide +kernel
theorem dX1_turnRound_15 : decode cX1_turnRound 15 = .ok (.iload_n 3, 1) := by decide +kernel
theorem dX1_turnRound_16 : decode cX1_turnRound 16 = .ok (.iload_n 2, 1) := by decide +kernel
theorem dX1_turnRound_17 : decode cX1_turnRound 17 = .ok (.invokevirtual 39, 3) := by decide +kernel
theorem dX1_turnRound_20 : decode cX1_turnRound 20 = .ok (.iinc 2 (-1), 3) := by decide +kernel
theorem dX1_turnRound_23 : decode cX1_turnRound 23 = .ok (.iinc 3 1, 3) := by decide +kernel
theorem dX1_turnRound_26 : decode cX1_turnRound 26 = .ok (.goto (-17), 3) := by decide +kernel
theorem dX1_turnRound_29 : decode cX1_turnRound 29 = .ok (.return_, 1) := by decide +kernel
theorem dX1_swap_0 : decode cX1_swap 0 = .ok (.aload_n 0, 1) := by decide +kernel
theorem dX1_swap_1 : decode cX1_swap 1 = .ok (.getfield 9, 3) := by decide +kernel
theorem dX1_swap_4 : decode cX1_swap 4 = .ok (.iload_n 1, 1) := by decide +kernel
theorem dX1_swap_5 : decode cX1_swap 5 = .ok (.iaload, 1) := by decide +kernel
theorem dX1_swap_6 : decode cX1_swap 6 = .ok (.istore_n 3, 1) := by decide +kernel
theorem dX1_swap_7 : decode cX1_swap 7 = .ok (.aload_n 0, 1) := by decide +kernel
theorem dX1_swap_8 : decode cX1_swap 8 = .ok (.getfield 9, 3) := by decide +kernel
theorem dX1_swap_11 : decode cX1_swap 11 = .ok (.iload_n 1, 1) := by decide +kernel
theorem dX1_swap_12 : decode cX1_swap 12 = .ok (.aload_n 0, 1) := by decide +kernel
theorem dX1_swap_13 : decode cX1_swap 13 = .ok (.getfield 9, 3) := by decide +kernel
theorem dX1_swap_16 : decode cX1_swap 16 = .ok (.iload_n 2, 1) := by decide +kernel
theorem dX1_swap_17 : decode cX1_swap 17 = .ok (.iaload, 1) := by decide +kernel
theorem dX1_swap_18 : decode cX1_swap 18 = .ok (.iastore, 1) := by decide +kernel
theorem dX1_swap_19 : decode cX1_swap 19 = .ok (.aload_n 0, 1) := by decide +kernel
theorem dX1_swap_20 : decode cX1_swap 20 = .ok (.getfield 9, 3) := by decide +kernel
theorem dX1_swap_23 : decode cX1_swap 23 = .ok (.iload_n 2, 1) := by decide +kernel
theorem dX1_swap_24 : decode cX1_swap 24 = .ok (.iload_n 3, 1) := by decide +kernel
theorem dX1_swap_25 : decode cX1_swap 25 = .ok (.iastore, 1) := by decide +kernel
theorem dX1_swap_26 : decode cX1_swap 26 = .ok (.return_, 1) := by decide +kernel
theorem dX2_init_0 : decode cX2_init 0 = .ok (.aload_n 0, 1) := by decide +kernel
theorem dX2_init_1 : decode cX2_init 1 = .ok (.invokespecial 3, 3) := by decide +kernel
theorem dX2_init_4 : decode cX2_init 4 = .ok (.aload_n 0, 1) := by decide +kernel
theorem dX2_init_5 : decode cX2_init 5 = .ok (.bipush 31, 2) := by decide +kernel
theorem dX2_init_7 : decode cX2_init 7 = .ok (.newarray .long, 2) := by decide +kernel
theorem dX2_init_9 : decode cX2_init 9 = .ok (.putfield 9, 3) := by decide +kernel
theorem dX2_init_12 : decode cX2_init 12 = .ok (.aload_n 0, 1) := by decide +kernel
theorem dX2_init_13 : decode cX2_init 13 = .ok (.bipush 31, 2) := by decide +kernel
theorem dX2_init_15 : decode cX2_init 15 = .ok (.newarray .long, 2) := by decide +kernel
theorem dX2_init_17 : decode cX2_init 17 = .ok (.putfield 15, 3) := by decide +kernel
theorem dX2_init_20 : decode cX2_init 20 = .ok (.return_, 1) := by decide +kernel
theorem dX2_waysThrough_0 : decode cX2_waysThrough 0 = .ok (.aload_n 0, 1) := by decide +kernel
theorem dX2_waysThrough_1 : decode cX2_waysThrough 1 = .ok (.getfield 9, 3) := by decide +kernel
theorem dX2_waysThrough_4 : decode cX2_waysThrough 4 = .ok (.lconst 0, 1) := by decide +kernel
theorem dX2_waysThrough_5 : decode cX2_waysThrough 5 = .ok (.invokestatic 18, 3) := by decide +kernel
theorem dX2_waysThrough_8 : decode cX2_waysThrough 8 = .ok (.aload_n 0, 1) := by decide +kernel
theorem dX2_waysThrough_9 : decode cX2_waysThrough 9 = .ok (.getfield 9, 3) := by decide +kernel
theorem dX2_waysThrough_12 : decode cX2_waysThrough 12 = .ok (.iconst 2, 1) := by decide +kernel
theorem dX2_waysThrough_13 : decode cX2_waysThrough 13 = .ok (.lconst 1, 1) := by decide +kernel
theorem dX2_waysThrough_14 : decode cX2_waysThrough 14 = .ok (.lastore, 1) := by decide +kernel
theorem dX2_waysThrough_15 : decode cX2_waysThrough 15 = .ok (.iconst 0, 1) := by decide +kernel
theorem dX2_waysThrough_16 : decode cX2_waysThrough 16 = .ok (.istore 4, 2) := by decide +kernel
theorem dX2_waysThrough_18 : decode cX2_waysThrough 18 = .ok (.iload 4, 2) := by decide +kernel
theorem dX2_waysThrough_20 : decode cX2_waysThrough 20 = .ok (.bipush 10, 2) := by decide +kernel
theorem dX2_waysThrough_22 : decode cX2_waysThrough 22 = .ok (.if_icmp .ge 18, 3) := by decide +kernel
theorem dX2_waysThrough_25 : decode cX2_waysThrough 25 = .ok (.aload_n 0, 1) := by decide +kernel
theorem dX2_waysThrough_26 : decode cX2_waysThrough 26 = .ok (.aload_n 1, 1) := by decide +kernel
theorem dX2_waysThrough_27 : decode cX2_waysThrough 27 = .ok (.iload_n 2, 1) := by decide +kernel
theorem dX2_waysThrough_28 : decode cX2_waysThrough 28 = .ok (.iload_n 3, 1) := by decide +kernel
theorem dX2_waysThrough_29 : decode cX2_waysThrough 29 = .ok (.iload 4, 2) := by decide +kernel
theorem dX2_waysThrough_31 : decode cX2_waysThrough 31 = .ok (.invokevirtual 24, 3) := by decide +kernel
theorem dX2_waysThrough_34 : decode cX2_waysThrough 34 = .ok (.iinc 4 1, 3) := by decide +kernel
theorem dX2_waysThrough_37 : decode cX2_waysThrough 37 = .ok (.goto (-19), 3) := by decide +kernel
theorem dX2_waysThrough_40 : decode cX2_waysThrough 40 = .ok (.lconst 0, 1) := by decide +kernel
theorem dX2_waysThrough_41 : decode cX2_waysThrough 41 = .ok (.lstore 4, 2) := by decide +kernel
theorem dX2_waysThrough_43 : decode cX2_waysThrough 43 = .ok (.iconst 1, 1) := by decide +kernel
theorem dX2_waysThrough_44 : decode cX2_waysThrough 44 = .ok (.istore 6, 2) := by decide +kernel
theorem dX2_waysThrough_46 : decode cX2_waysThrough 46 = .ok (.iload 6, 2) := by decide +kernel
theorem dX2_waysThrough_48 : decode cX2_waysThrough 48 = .ok (.aload_n 0, 1) := by decide +kernel
theorem dX2_waysThrough_49 : decode cX2_waysThrough 49 = .ok (.getfield 9, 3) := by decide +kernel
theorem dX2_waysThrough_52 : decode cX2_waysThrough 52 = .ok (.arraylength, 1) := by decide +kernel
theorem dX2_waysThrough_53 : decode cX2_waysThrough 53 = .ok (.if_icmp .ge 21, 3) := by decide +kernel
theorem dX2_waysThrough_56 : decode cX2_waysThrough 56 = .ok (.lload 4, 2) := by decide +kernel
theorem dX2_waysThrough_58 : decode cX2_waysThrough 58 = .ok (.aload_n 0, 1) := by decide +kernel
theorem dX2_waysThrough_59 : decode cX2_waysThrough 59 = .ok (.getfield 9, 3) := by decide +kernel
theorem dX2_waysThrough_62 : decode cX2_waysThrough 62 = .ok (.iload 6, 2) := by decide +kernel
theorem dX2_waysThrough_64 : decode cX2_waysThrough 64 = .ok (.laload, 1) := by decide +kernel
theorem dX2_waysThrough_65 : decode cX2_waysThrough 65 = .ok (.ladd, 1) := by decide +kernel
theorem dX2_waysThrough_66 : decode cX2_waysThrough 66 = .ok (.lstore 4, 2) := by decide +kernel
theorem dX2_waysThrough_68 : decode cX2_waysThrough 68 = .ok (.iinc 6 1, 3) := by decide +kernel
theorem dX2_waysThrough_71 : decode cX2_waysThrough 71 = .ok (.goto (-25), 3) := by decide +kernel
theorem dX2_waysThrough_74 : decode cX2_waysThrough 74 = .ok (.lload 4, 2) := by decide +kernel
theorem dX2_waysThrough_76 : decode cX2_waysThrough 76 = .ok (.lreturn, 1) := by decide +kernel
theorem dX2_passTurn_0 : decode cX2_passTurn 0 = .ok (.aload_n 0, 1) := by decide +kernel
theorem dX2_passTurn_1 : decode cX2_passTurn 1 = .ok (.getfield 15, 3) := by decide +kernel
theorem dX2_passTurn_4 : decode cX2_passTurn 4 = .ok (.lconst 0, 1) := by decide +kernel
theorem dX2_passTurn_5 : decode cX2_passTurn 5 = .ok (.invokestatic 18, 3) := by decide +kernel
theorem dX2_passTurn_8 : decode cX2_passTurn 8 = .ok (.aload_n 1, 1) := by decide +kernel
theorem dX2_passTurn_9 : decode cX2_passTurn 9 = .ok (.getfield 28, 3) := by decide +kernel
theorem dX2_passTurn_12 : decode cX2_passTurn 12 = .ok (.iload 4, 2) := by decide +kernel
theorem dX2_passTurn_14 : decode cX2_passTurn 14 = .ok (.iaload, 1) := by decide +kernel
theorem dX2_passTurn_15 : decode cX2_passTurn 15 = .ok (.istore 5, 2) := by decide +kernel
theorem dX2_passTurn_17 : decode cX2_passTurn 17 = .ok (.bipush 9, 2) := by decide +kernel
theorem dX2_passTurn_19 : decode cX2_passTurn 19 = .ok (.iload 5, 2) := by decide +kernel
theorem dX2_passTurn_21 : decode cX2_passTurn 21 = .ok (.iconst 2, 1) := by decide +kernel
theorem dX2_passTurn_22 : decode cX2_passTurn 22 = .ok (.iadd, 1) := by decide +kernel
theorem dX2_passTurn_23 : decode cX2_passTurn 23 = .ok (.invokestatic 34, 3) := by decide +kernel
theorem dX2_passTurn_26 : decode cX2_passTurn 26 = .ok (.istore 6, 2) := by decide +kernel
theorem dX2_passTurn_28 : decode cX2_passTurn 28 = .ok (.iconst 1, 1) := by decide +kernel
theorem dX2_passTurn_29 : decode cX2_passTurn 29 = .ok (.istore 7, 2) := by decide +kernel
theorem dX2_passTurn_31 : decode cX2_passTurn 31 = .ok (.iload 7, 2) := by decide +kernel
theorem dX2_passTurn_33 : decode cX2_passTurn 33 = .ok (.aload_n 0, 1) := by decide +kernel
theorem dX2_passTurn_34 : decode cX2_passTurn 34 = .ok (.getfield 9, 3) := by decide +kernel
theorem dX2_passTurn_37 : decode cX2_passTurn 37 = .ok (.arraylength, 1) := by decide +kernel
theorem dX2_passTurn_38 : decode cX2_passTurn 38 = .ok (.if_icmp .ge 74, 3) := by decide +kernel
theorem dX2_passTurn_41 : decode cX2_passTurn 41 = .ok (.aload_n 0, 1) := by decide +kernel
theorem dX2_passTurn_42 : decode cX2_passTurn 42 = .ok (.getfield 9, 3) := by decide +kernel
theorem dX2_passTurn_45 : decode cX2_passTurn 45 = .ok (.iload 7, 2) := by decide +kernel
theorem dX2_passTurn_47 : decode cX2_passTurn 47 = .ok (.laload, 1) := by decide +kernel
theorem dX2_passTurn_48 : decode cX2_passTurn 48 = .ok (.lconst 0, 1) := by decide +kernel
theorem dX2_passTurn_49 : decode cX2_passTurn 49 = .ok (.lcmp, 1) := by decide +kernel
theorem dX2_passTurn_50 : decode cX2_passTurn 50 = .ok (.ifCond .le 56, 3) := by decide +kernel
theorem dX2_passTurn_53 : decode cX2_passTurn 53 = .ok (.aload_n 0, 1) := by decide +kernel
theorem dX2_passTurn_54 : decode cX2_passTurn 54 = .ok (.aload_n 1, 1) := by decide +kernel
theorem dX2_passTurn_55 : decode cX2_passTurn 55 = .ok (.iload 4, 2) := by decide +kernel
theorem dX2_passTurn_57 : decode cX2_passTurn 57 = .ok (.iload_n 2, 1) := by decide +kernel
theorem dX2_passTurn_58 : decode cX2_passTurn 58 = .ok (.iload 7, 2) := by decide +kernel
theorem dX2_passTurn_60 : decode cX2_passTurn 60 = .ok (.iload 5, 2) := by decide +kernel
theorem dX2_passTurn_62 : decode cX2_passTurn 62 = .ok (.invokevirtual 40, 3) := by decide +kernel
theorem dX2_passTurn_65 : decode cX2_passTurn 65 = .ok (.aload_n 0, 1) := by decide +kernel
theorem dX2_passTurn_66 : decode cX2_passTurn 66 = .ok (.getfield 9, 3) := by decide +kernel
theorem dX2_passTurn_69 : decode cX2_passTurn 69 = .ok (.iload 7, 2) := by decide +kernel
theorem dX2_passTurn_71 : decode cX2_passTurn 71 = .ok (.laload, 1) := by decide +kernel
theorem dX2_passTurn_72 : decode cX2_passTurn 72 = .ok (.bipush 10, 2) := by decide +kernel
theorem dX2_passTurn_74 : decode cX2_passTurn 74 = .ok (.iload_n 3, 1) := by decide +kernel
theorem dX2_passTurn_75 : decode cX2_passTurn 75 = .ok (.isub, 1) := by decide +kernel
theorem dX2_passTurn_76 : decode cX2_passTurn 76 = .ok (.i2l, 1) := by decide +kernel
theorem dX2_passTurn_77 : decode cX2_passTurn 77 = .ok (.lmul, 1) := by decide +kernel
theorem dX2_passTurn_78 : decode cX2_passTurn 78 = .ok (.invokevirtual 44, 3) := by decide +kernel
theorem dX2_passTurn_81 : decode cX2_passTurn 81 = .ok (.aload_n 0, 1) := by decide +kernel
theorem dX2_passTurn_82 : decode cX2_passTurn 82 = .ok (.aload_n 1, 1) := by decide +kernel
theorem dX2_passTurn_83 : decode cX2_passTurn 83 = .ok (.iload 4, 2) := by decide +kernel
theorem dX2_passTurn_85 : decode cX2_passTurn 85 = .ok (.iload_n 2, 1) := by decide +kernel
theorem dX2_passTurn_86 : decode cX2_passTurn 86 = .ok (.iload 7, 2) := by decide +kernel
theorem dX2_passTurn_88 : decode cX2_passTurn 88 = .ok (.iload 6, 2) := by decide +kernel
theorem dX2_passTurn_90 : decode cX2_passTurn 90 = .ok (.invokevirtual 40, 3) := by decide +kernel
theorem dX2_passTurn_93 : decode cX2_passTurn 93 = .ok (.aload_n 0, 1) := by decide +kernel
theorem dX2_passTurn_94 : decode cX2_passTurn 94 = .ok (.getfield 9, 3) := by decide +kernel
theorem dX2_passTurn_97 : decode cX2_passTurn 97 = .ok (.iload 7, 2) := by decide +kernel
theorem dX2_passTurn_99 : decode cX2_passTurn 99 = .ok (.laload, 1) := by decide +kernel
theorem dX2_passTurn_100 : decode cX2_passTurn 100 = .ok (.iload_n 3, 1) := by decide +kernel
theorem dX2_passTurn_101 : decode cX2_passTurn 101 = .ok (.i2l, 1) := by decide +kernel
theorem dX2_passTurn_102 : decode cX2_passTurn 102 = .ok (.lmul, 1) := by decide +kernel
theorem dX2_passTurn_103 : decode cX2_passTurn 103 = .ok (.invokevirtual 44, 3) := by decide +kernel
theorem dX2_passTurn_106 : decode cX2_passTurn 106 = .ok (.iinc 7 1, 3) := by decide +kernel
theorem dX2_passTurn_109 : decode cX2_passTurn 109 = .ok (.goto (-78), 3) := by decide +kernel
theorem dX2_passTurn_112 : decode cX2_passTurn 112 = .ok (.aload_n 0, 1) := by decide +kernel
theorem dX2_passTurn_113 : decode cX2_passTurn 113 = .ok (.getfield 15, 3) := by decide +kernel
theorem dX2_passTurn_116 : decode cX2_passTurn 116 = .ok (.iconst 0, 1) := by decide +kernel
theorem dX2_passTurn_117 : decode cX2_passTurn 117 = .ok (.aload_n 0, 1) := by decide +kernel
theorem dX2_passTurn_118 : decode cX2_passTurn 118 = .ok (.getfield 9, 3) := by decide +kernel
theorem dX2_passTurn_121 : decode cX2_passTurn 121 = .ok (.iconst 0, 1) := by decide +kernel
theorem dX2_passTurn_122 : decode cX2_passTurn 122 = .ok (.aload_n 0, 1) := by decide +kernel
theorem dX2_passTurn_123 : decode cX2_passTurn 123 = .ok (.getfield 9, 3) := by decide +kernel
theorem dX2_passTurn_126 : decode cX2_passTurn 126 = .ok (.arraylength, 1) := by decide +kernel
theorem dX2_passTurn_127 : decode cX2_passTurn 127 = .ok (.invokestatic 48, 3) := by decide +kernel
theorem dX2_passTurn_130 : decode cX2_passTurn 130 = .ok (.return_, 1) := by decide +kernel
theorem dX2_addWays_0 : decode cX2_addWays 0 = .ok (.iload_n 1, 1) := by decide +kernel
theorem dX2_addWays_1 : decode cX2_addWays 1 = .ok (.iconst 1, 1) := by decide +kernel
theorem dX2_addWays_2 : decode cX2_addWays 2 = .ok (.bipush 30, 2) := by decide +kernel
theorem dX2_addWays_4 : decode cX2_addWays 4 = .ok (.invokestatic 54, 3) := by decide +kernel
theorem dX2_addWays_7 : decode cX2_addWays 7 = .ok (.ifCond .eq 13, 3) := by decide +kernel
theorem dX2_addWays_10 : decode cX2_addWays 10 = .ok (.aload_n 0, 1) := by decide +kernel
theorem dX2_addWays_11 : decode cX2_addWays 11 = .ok (.getfield 15, 3) := by decide +kernel
theorem dX2_addWays_14 : decode cX2_addWays 14 = .ok (.iload_n 1, 1) := by decide +kernel
theorem dX2_addWays_15 : decode cX2_addWays 15 = .ok (.dup2, 1) := by decide +kernel
theorem dX2_addWays_16 : decode cX2_addWays 16 = .ok (.laload, 1) := by decide +kernel
theorem dX2_addWays_17 : decode cX2_addWays 17 = .ok (.lload_n 2, 1) := by decide +kernel
theorem dX2_addWays_18 : decode cX2_addWays 18 = .ok (.ladd, 1) := by decide +kernel
theorem dX2_addWays_19 : decode cX2_addWays 19 = .ok (.lastore, 1) := by decide +kernel
theorem dX2_addWays_20 : decode cX2_addWays 20 = .ok (.return_, 1) := by decide +kernel
theorem dX3_init_0 : decode cX3_init 0 = .ok (.aload_n 0, 1) := by decide +kernel
theorem dX3_init_1 : decode cX3_init 1 = .ok (.invokespecial 3, 3) := by decide +kernel
theorem dX3_init_4 : decode cX3_init 4 = .ok (.aload_n 0, 1) := by decide +kernel
theorem dX3_init_5 : decode cX3_init 5 = .ok (.bipush 24, 2) := by decide +kernel
theorem dX3_init_7 : decode cX3_init 7 = .ok (.newarray .long, 2) := by decide +kernel
theorem dX3_init_9 : decode cX3_init 9 = .ok (.putfield 11, 3) := by decide +kernel
theorem dX3_init_12 : decode cX3_init 12 = .ok (.aload_n 0, 1) := by decide +kernel
theorem dX3_init_13 : decode cX3_init 13 = .ok (.iconst (-1), 1) := by decide +kernel
theorem dX3_init_14 : decode cX3_init 14 = .ok (.putfield 15, 3) := by decide +kernel
theorem dX3_init_17 : decode cX3_init 17 = .ok (.aload_n 0, 1) := by decide +kernel
theorem dX3_init_18 : decode cX3_init 18 = .ok (.iconst 0, 1) := by decide +kernel
theorem dX3_init_19 : decode cX3_init 19 = .ok (.putfield 19, 3) := by decide +kernel
theorem dX3_init_22 : decode cX3_init 22 = .ok (.return_, 1) := by decide +kernel
theorem dX3_begin_0 : decode cX3_begin 0 = .ok (.aload_n 0, 1) := by decide +kernel
theorem dX3_begin_1 : decode cX3_begin 1 = .ok (.getfield 11, 3) := by decide +kernel
theorem dX3_begin_4 : decode cX3_begin 4 = .ok (.lconst 0, 1) := by decide +kernel
theorem dX3_begin_5 : decode cX3_begin 5 = .ok (.invokestatic 22, 3) := by decide +kernel
theorem dX3_begin_8 : decode cX3_begin 8 = .ok (.aload_n 0, 1) := by decide +kernel
theorem dX3_begin_9 : decode cX3_begin 9 = .ok (.iload_n 1, 1) := by decide +kernel
theorem dX3_begin_10 : decode cX3_begin 10 = .ok (.putfield 15, 3) := by decide +kernel
theorem dX3_begin_13 : decode cX3_begin 13 = .ok (.aload_n 0, 1) := by decide +kernel
theorem dX3_begin_14 : decode cX3_begin 14 = .ok (.iload_n 2, 1) := by decide +kernel
theorem dX3_begin_15 : decode cX3_begin 15 = .ok (.putfield 19, 3) := by decide +kernel
theorem dX3_begin_18 : decode cX3_begin 18 = .ok (.return_, 1) := by decide +kernel
theorem dX3_becomeNothing_0 : decode cX3_becomeNothing 0 = .ok (.aload_n 0, 1) := by decide +kernel
theorem dX3_becomeNothing_1 : decode cX3_becomeNothing 1 = .ok (.iconst (-1), 1) := by decide +kernel
theorem dX3_becomeNothing_2 : decode cX3_becomeNothing 2 = .ok (.putfield 15, 3) := by decide +kernel
theorem dX3_becomeNothing_5 : decode cX3_becomeNothing 5 = .ok (.aload_n 0, 1) := by decide +kernel
theorem dX3_becomeNothing_6 : decode cX3_becomeNothing 6 = .ok (.iconst 0, 1) := by decide +kernel
theorem dX3_becomeNothing_7 : decode cX3_becomeNothing 7 = .ok (.putfield 19, 3) := by decide +kernel
theorem dX3_becomeNothing_10 : decode cX3_becomeNothing 10 = .ok (.return_, 1) := by decide +kernel
theorem dX3_isNothing_0 : decode cX3_isNothing 0 = .ok (.aload_n 0, 1) := by decide +kernel
theorem dX3_isNothing_1 : decode cX3_isNothing 1 = .ok (.getfield 15, 3) := by decide +kernel
theorem dX3_isNothing_4 : decode cX3_isNothing 4 = .ok (.iconst (-1), 1) := by decide +kernel
theorem dX3_isNothing_5 : decode cX3_isNothing 5 = .ok (.if_icmp .ne 7, 3) := by decide +kernel
theorem dX3_isNothing_8 : decode cX3_isNothing 8 = .ok (.iconst 1, 1) := by decide +kernel
theorem dX3_isNothing_9 : decode cX3_isNothing 9 = .ok (.goto 4, 3) := by decide +kernel
theorem dX3_isNothing_12 : decode cX3_isNothing 12 = .ok (.iconst 0, 1) := by decide +kernel
theorem dX3_isNothing_13 : decode cX3_isNothing 13 = .ok (.ireturn, 1) := by decide +kernel
theorem dX3_holds_0 : decode cX3_holds 0 = .ok (.iload_n 1, 1) := by decide +kernel
theorem dX3_holds_1 : decode cX3_holds 1 = .ok (.iconst 0, 1) := by decide +kernel
theorem dX3_holds_2 : decode cX3_holds 2 = .ok (.aload_n 0, 1) := by decide +kernel
theorem dX3_holds_3 : decode cX3_holds 3 = .ok (.getfield 19, 3) := by decide +kernel
theorem dX3_holds_6 : decode cX3_holds 6 = .ok (.invokestatic 28, 3) := by decide +kernel
theorem dX3_holds_9 : decode cX3_holds 9 = .ok (.ifCond .eq 21, 3) := by decide +kernel
theorem dX3_holds_12 : decode cX3_holds 12 = .ok (.iload_n 2, 1) := by decide +kernel
theorem dX3_holds_13 : decode cX3_holds 13 = .ok (.iconst 0, 1) := by decide +kernel
theorem dX3_holds_14 : decode cX3_holds 14 = .ok (.aload_n 0, 1) := by decide +kernel
theorem dX3_holds_15 : decode cX3_holds 15 = .ok (.getfield 19, 3) := by decide +kernel
theorem dX3_holds_18 : decode cX3_holds 18 = .ok (.iload_n 1, 1) := by decide +kernel
theorem dX3_holds_19 : decode cX3_holds 19 = .ok (.isub, 1) := by decide +kernel
theorem dX3_holds_20 : decode cX3_holds 20 = .ok (.invokestatic 28, 3) := by decide +kernel
theorem dX3_holds_23 : decode cX3_holds 23 = .ok (.ifCond .eq 7, 3) := by decide +kernel
theorem dX3_holds_26 : decode cX3_holds 26 = .ok (.iconst 1, 1) := by decide +kernel
theorem dX3_holds_27 : decode cX3_holds 27 = .ok (.goto 4, 3) := by decide +kernel
theorem dX3_holds_30 : decode cX3_holds 30 = .ok (.iconst 0, 1) := by decide +kernel
theorem dX3_holds_31 : decode cX3_holds 31 = .ok (.ireturn, 1) := by decide +kernel
theorem dX3_refusal_0 : decode cX3_refusal 0 = .ok (.aload_n 0, 1) := by decide +kernel
theorem dX3_refusal_1 : decode cX3_refusal 1 = .ok (.invokevirtual 32, 3) := by decide +kernel
theorem dX3_refusal_4 : decode cX3_refusal 4 = .ok (.ifCond .eq 6, 3) := by decide +kernel
theorem dX3_refusal_7 : decode cX3_refusal 7 = .ok (.bipush (-11), 2) := by decide +kernel
theorem dX3_refusal_9 : decode cX3_refusal 9 = .ok (.ireturn, 1) := by decide +kernel
theorem dX3_refusal_10 : decode cX3_refusal 10 = .ok (.aload_n 0, 1) := by decide +kernel
theorem dX3_refusal_11 : decode cX3_refusal 11 = .ok (.getfield 15, 3) := by decide +kernel
theorem dX3_refusal_14 : decode cX3_refusal 14 = .ok (.iload_n 1, 1) := by decide +kernel
theorem dX3_refusal_15 : decode cX3_refusal 15 = .ok (.if_icmp .eq 6, 3) := by decide +kernel
theorem dX3_refusal_18 : decode cX3_refusal 18 = .ok (.bipush (-12), 2) := by decide +kernel
theorem dX3_refusal_20 : decode cX3_refusal 20 = .ok (.ireturn, 1) := by decide +kernel
theorem dX3_refusal_21 : decode cX3_refusal 21 = .ok (.aload_n 0, 1) := by decide +kernel
theorem dX3_refusal_22 : decode cX3_refusal 22 = .ok (.iload_n 2, 1) := by decide +kernel
theorem dX3_refusal_23 : decode cX3_refusal 23 = .ok (.iload_n 3, 1) := by decide +kernel
theorem dX3_refusal_24 : decode cX3_refusal 24 = .ok (.invokevirtual 36, 3) := by decide +kernel
theorem dX3_refusal_27 : decode cX3_refusal 27 = .ok (.ifCond .eq 7, 3) := by decide +kernel
theorem dX3_refusal_30 : decode cX3_refusal 30 = .ok (.iconst 0, 1) := by decide +kernel
theorem dX3_refusal_31 : decode cX3_refusal 31 = .ok (.goto 5, 3) := by decide +kernel
theorem dX3_refusal_34 : decode cX3_refusal 34 = .ok (.bipush (-13), 2) := by decide +kernel
theorem dX3_refusal_36 : decode cX3_refusal 36 = .ok (.ireturn, 1) := by decide +kernel
theorem dX3_put_0 : decode cX3_put 0 = .ok (.iload_n 1, 1) := by decide +kernel
theorem dX3_put_1 : decode cX3_put 1 = .ok (.iconst 0, 1) := by decide +kernel
theorem dX3_put_2 : decode cX3_put 2 = .ok (.aload_n 0, 1) := by decide +kernel
theorem dX3_put_3 : decode cX3_put 3 = .ok (.getfield 19, 3) := by decide +kernel
theorem dX3_put_6 : decode cX3_put 6 = .ok (.iconst 1, 1) := by decide +kernel
theorem dX3_put_7 : decode cX3_put 7 = .ok (.isub, 1) := by decide +kernel
theorem dX3_put_8 : decode cX3_put 8 = .ok (.invokestatic 28, 3) := by decide +kernel
theorem dX3_put_11 : decode cX3_put 11 = .ok (.ifCond .eq 14, 3) := by decide +kernel
theorem dX3_put_14 : decode cX3_put 14 = .ok (.aload_n 0, 1) := by decide +kernel
theorem dX3_put_15 : decode cX3_put 15 = .ok (.getfield 11, 3) := by decide +kernel
theorem dX3_put_18 : decode cX3_put 18 = .ok (.iload_n 1, 1) := by decide +kernel
theorem dX3_put_19 : decode cX3_put 19 = .ok (.aload_n 0, 1) := by decide +kernel
theorem dX3_put_20 : decode cX3_put 20 = .ok (.lload_n 2, 1) := by decide +kernel
theorem dX3_put_21 : decode cX3_put 21 = .ok (.invokevirtual 40, 3) := by decide +kernel
theorem dX3_put_24 : decode cX3_put 24 = .ok (.lastore, 1) := by decide +kernel
theorem dX3_put_25 : decode cX3_put 25 = .ok (.return_, 1) := by decide +kernel
theorem dX3_cut_0 : decode cX3_cut 0 = .ok (.aload_n 0, 1) := by decide +kernel
theorem dX3_cut_1 : decode cX3_cut 1 = .ok (.getfield 15, 3) := by decide +kernel
theorem dX3_cut_4 : decode cX3_cut 4 = .ok (.tableswitch 42 0 2 #[28, 33, 38], 28) := by decide +kernel
theorem dX3_cut_32 : decode cX3_cut 32 = .ok (.lload_n 1, 1) := by decide +kernel
theorem dX3_cut_33 : decode cX3_cut 33 = .ok (.l2i, 1) := by decide +kernel
theorem dX3_cut_34 : decode cX3_cut 34 = .ok (.i2b, 1) := by decide +kernel
theorem dX3_cut_35 : decode cX3_cut 35 = .ok (.i2l, 1) := by decide +kernel
theorem dX3_cut_36 : decode cX3_cut 36 = .ok (.lreturn, 1) := by decide +kernel
theorem dX3_cut_37 : decode cX3_cut 37 = .ok (.lload_n 1, 1) := by decide +kernel
theorem dX3_cut_38 : decode cX3_cut 38 = .ok (.l2i, 1) := by decide +kernel
theorem dX3_cut_39 : decode cX3_cut 39 = .ok (.i2s, 1) := by decide +kernel
theorem dX3_cut_40 : decode cX3_cut 40 = .ok (.i2l, 1) := by decide +kernel
theorem dX3_cut_41 : decode cX3_cut 41 = .ok (.lreturn, 1) := by decide +kernel
theorem dX3_cut_42 : decode cX3_cut 42 = .ok (.lload_n 1, 1) := by decide +kernel
theorem dX3_cut_43 : decode cX3_cut 43 = .ok (.l2i, 1) := by decide +kernel
theorem dX3_cut_44 : decode cX3_cut 44 = .ok (.i2l, 1) := by decide +kernel
theorem dX3_cut_45 : decode cX3_cut 45 = .ok (.lreturn, 1) := by decide +kernel
theorem dX3_cut_46 : decode cX3_cut 46 = .ok (.lload_n 1, 1) := by decide +kernel
theorem dX3_cut_47 : decode cX3_cut 47 = .ok (.lreturn, 1) := by decide +kernel
theorem dX3_tells_0 : decode cX3_tells 0 = .ok (.iconst 0, 1) := by decide +kernel
theorem dX3_tells_1 : decode cX3_tells 1 = .ok (.istore 5, 2) := by decide +kernel
theorem dX3_tells_3 : decode cX3_tells 3 = .ok (.iload 5, 2) := by decide +kernel
theorem dX3_tells_5 : decode cX3_tells 5 = .ok (.iload 4, 2) := by decide +kernel
theorem dX3_tells_7 : decode cX3_tells 7 = .ok (.if_icmp .ge 31, 3) := by decide +kernel
theorem dX3_tells_10 : decode cX3_tells 10 = .ok (.aload_n 0, 1) := by decide +kernel
theorem dX3_tells_11 : decode cX3_tells 11 = .ok (.getfield 11, 3) := by decide +kernel
theorem dX3_tells_14 : decode cX3_tells 14 = .ok (.iload_n 1, 1) := by decide +kernel
theorem dX3_tells_15 : decode cX3_tells 15 = .ok (.iload 5, 2) := by decide +kernel
theorem dX3_tells_17 : decode cX3_tells 17 = .ok (.iadd, 1) := by decide +kernel
theorem dX3_tells_18 : decode cX3_tells 18 = .ok (.laload, 1) := by decide +kernel
theorem dX3_tells_19 : decode cX3_tells 19 = .ok (.aload_n 2, 1) := by decide +kernel
theorem dX3_tells_20 : decode cX3_tells 20 = .ok (.iload_n 3, 1) := by decide +kernel
theorem dX3_tells_21 : decode cX3_tells 21 = .ok (.iload 5, 2) := by decide +kernel
theorem dX3_tells_23 : decode cX3_tells 23 = .ok (.iadd, 1) := by decide +kernel
theorem dX3_tells_24 : decode cX3_tells 24 = .ok (.iaload, 1) := by decide +kernel
theorem dX3_tells_25 : decode cX3_tells 25 = .ok (.i2l, 1) := by decide +kernel
theorem dX3_tells_26 : decode cX3_tells 26 = .ok (.lcmp, 1) := by decide +kernel
theorem dX3_tells_27 : decode cX3_tells 27 = .ok (.ifCond .eq 5, 3) := by decide +kernel
theorem dX3_tells_30 : decode cX3_tells 30 = .ok (.iconst 0, 1) := by decide +kernel
theorem dX3_tells_31 : decode cX3_tells 31 = .ok (.ireturn, 1) := by decide +kernel
theorem dX3_tells_32 : decode cX3_tells 32 = .ok (.iinc 5 1, 3) := by decide +kernel
theorem dX3_tells_35 : decode cX3_tells 35 = .ok (.goto (-32), 3) := by decide +kernel
theorem dX3_tells_38 : decode cX3_tells 38 = .ok (.iconst 1, 1) := by decide +kernel
theorem dX3_tells_39 : decode cX3_tells 39 = .ok (.ireturn, 1) := by decide +kernel
theorem dX4_init_0 : decode cX4_init 0 = .ok (.aload_n 0, 1) := by decide +kernel
theorem dX4_init_1 : decode cX4_init 1 = .ok (.invokespecial 3, 3) := by decide +kernel
theorem dX4_init_4 : decode cX4_init 4 = .ok (.aload_n 0, 1) := by decide +kernel
theorem dX4_init_5 : decode cX4_init 5 = .ok (.bipush 10, 2) := by decide +kernel
theorem dX4_init_7 : decode cX4_init 7 = .ok (.newarray .int, 2) := by decide +kernel
theorem dX4_init_9 : decode cX4_init 9 = .ok (.putfield 9, 3) := by decide +kernel
theorem dX4_init_12 : decode cX4_init 12 = .ok (.aload_n 0, 1) := by decide +kernel
theorem dX4_init_13 : decode cX4_init 13 = .ok (.bipush 10, 2) := by decide +kernel
theorem dX4_init_15 : decode cX4_init 15 = .ok (.newarray .int, 2) := by decide +kernel
theorem dX4_init_17 : decode cX4_init 17 = .ok (.putfield 15, 3) := by decide +kernel
theorem dX4_init_20 : decode cX4_init 20 = .ok (.aload_n 0, 1) := by decide +kernel
theorem dX4_init_21 : decode cX4_init 21 = .ok (.iconst 5, 1) := by decide +kernel
theorem dX4_init_22 : decode cX4_init 22 = .ok (.newarray .int, 2) := by decide +kernel
theorem dX4_init_24 : decode cX4_init 24 = .ok (.putfield 18, 3) := by decide +kernel
theorem dX4_init_27 : decode cX4_init 27 = .ok (.aload_n 0, 1) := by decide +kernel
theorem dX4_init_28 : decode cX4_init 28 = .ok (.iconst 5, 1) := by decide +kernel
theorem dX4_init_29 : decode cX4_init 29 = .ok (.newarray .int, 2) := by decide +kernel
theorem dX4_init_31 : decode cX4_init 31 = .ok (.putfield 21, 3) := by decide +kernel
theorem dX4_init_34 : decode cX4_init 34 = .ok (.aload_n 0, 1) := by decide +kernel
theorem dX4_init_35 : decode cX4_init 35 = .ok (.iconst 5, 1) := by decide +kernel
theorem dX4_init_36 : decode cX4_init 36 = .ok (.newarray .int, 2) := by decide +kernel
theorem dX4_init_38 : decode cX4_init 38 = .ok (.putfield 24, 3) := by decide +kernel
theorem dX4_init_41 : decode cX4_init 41 = .ok (.aload_n 0, 1) := by decide +kernel
theorem dX4_init_42 : decode cX4_init 42 = .ok (.iconst 5, 1) := by decide +kernel
theorem dX4_init_43 : decode cX4_init 43 = .ok (.newarray .int, 2) := by decide +kernel
theorem dX4_init_45 : decode cX4_init 45 = .ok (.putfield 27, 3) := by decide +kernel
theorem dX4_init_48 : decode cX4_init 48 = .ok (.aload_n 0, 1) := by decide +kernel
theorem dX4_init_49 : decode cX4_init 49 = .ok (.iconst 0, 1) := by decide +kernel
theorem dX4_init_50 : decode cX4_init 50 = .ok (.putfield 30, 3) := by decide +kernel
theorem dX4_init_53 : decode cX4_init 53 = .ok (.aload_n 0, 1) := by decide +kernel
theorem dX4_init_54 : decode cX4_init 54 = .ok (.iconst 0, 1) := by decide +kernel
theorem dX4_init_55 : decode cX4_init 55 = .ok (.putfield 34, 3) := by decide +kernel
theorem dX4_init_58 : decode cX4_init 58 = .ok (.aload_n 0, 1) := by decide +kernel
theorem dX4_init_59 : decode cX4_init 59 = .ok (.iconst 1, 1) := by decide +kernel
theorem dX4_init_60 : decode cX4_init 60 = .ok (.putfield 37, 3) := by decide +kernel
theorem dX4_init_63 : decode cX4_init 63 = .ok (.aload_n 0, 1) := by decide +kernel
theorem dX4_init_64 : decode cX4_init 64 = .ok (.getfield 9, 3) := by decide +kernel
theorem dX4_init_67 : decode cX4_init 67 = .ok (.iconst 1, 1) := by decide +kernel
theorem dX4_init_68 : decode cX4_init 68 = .ok (.invokestatic 40, 3) := by decide +kernel
theorem dX4_init_71 : decode cX4_init 71 = .ok (.return_, 1) := by decide +kernel
theorem dX4_hasRider_0 : decode cX4_hasRider 0 = .ok (.iload_n 1, 1) := by decide +kernel
theorem dX4_hasRider_1 : decode cX4_hasRider 1 = .ok (.iconst 0, 1) := by decide +kernel
theorem dX4_hasRider_2 : decode cX4_hasRider 2 = .ok (.aload_n 0, 1) := by decide +kernel
theorem dX4_hasRider_3 : decode cX4_hasRider 3 = .ok (.getfield 30, 3) := by decide +kernel
theorem dX4_hasRider_6 : decode cX4_hasRider 6 = .ok (.iconst 1, 1) := by decide +kernel
theorem dX4_hasRider_7 : decode cX4_hasRider 7 = .ok (.isub, 1) := by decide +kernel
theorem dX4_hasRider_8 : decode cX4_hasRider 8 = .ok (.invokestatic 46, 3) := by decide +kernel
theorem dX4_hasRider_11 : decode cX4_hasRider 11 = .ok (.ireturn, 1) := by decide +kernel
theorem dX4_addRider_0 : decode cX4_addRider 0 = .ok (.aload_n 0, 1) := by decide +kernel
theorem dX4_addRider_1 : decode cX4_addRider 1 = .ok (.getfield 30, 3) := by decide +kernel
theorem dX4_addRider_4 : decode cX4_addRider 4 = .ok (.istore 4, 2) := by decide +kernel
theorem dX4_addRider_6 : decode cX4_addRider 6 = .ok (.iload 4, 2) := by decide +kernel
theorem dX4_addRider_8 : decode cX4_addRider 8 = .ok (.iconst 0, 1) := by decide +kernel
theorem dX4_addRider_9 : decode cX4_addRider 9 = .ok (.iconst 4, 1) := by decide +kernel
theorem dX4_addRider_10 : decode cX4_addRider 10 = .ok (.invokestatic 46, 3) := by decide +kernel
theorem dX4_addRider_13 : decode cX4_addRider 13 = .ok (.ifCond .ne 6, 3) := by decide +kernel
theorem dX4_addRider_16 : decode cX4_addRider 16 = .ok (.bipush (-3), 2) := by decide +kernel
theorem dX4_addRider_18 : decode cX4_addRider 18 = .ok (.ireturn, 1) := by decide +kernel
theorem dX4_addRider_19 : decode cX4_addRider 19 = .ok (.aload_n 0, 1) := by decide +kernel
theorem dX4_addRider_20 : decode cX4_addRider 20 = .ok (.getfield 18, 3) := by decide +kernel
theorem dX4_addRider_23 : decode cX4_addRider 23 = .ok (.iload 4, 2) := by decide +kernel
theorem dX4_addRider_25 : decode cX4_addRider 25 = .ok (.iload_n 1, 1) := by decide +kernel
theorem dX4_addRider_26 : decode cX4_addRider 26 = .ok (.iastore, 1) := by decide +kernel
theorem dX4_addRider_27 : decode cX4_addRider 27 = .ok (.aload_n 0, 1) := by decide +kernel
theorem dX4_addRider_28 : decode cX4_addRider 28 = .ok (.getfield 21, 3) := by decide +kernel
theorem dX4_addRider_31 : decode cX4_addRider 31 = .ok (.iload 4, 2) := by decide +kernel
theorem dX4_addRider_33 : decode cX4_addRider 33 = .ok (.iload_n 2, 1) := by decide +kernel
theorem dX4_addRider_34 : decode cX4_addRider 34 = .ok (.iastore, 1) := by decide +kernel
theorem dX4_addRider_35 : decode cX4_addRider 35 = .ok (.aload_n 0, 1) := by decide +kernel
theorem dX4_addRider_36 : decode cX4_addRider 36 = .ok (.getfield 24, 3) := by decide +kernel
theorem dX4_addRider_39 : decode cX4_addRider 39 = .ok (.iload 4, 2) := by decide +kernel
theorem dX4_addRider_41 : decode cX4_addRider 41 = .ok (.iload_n 3, 1) := by decide +kernel
theorem dX4_addRider_42 : decode cX4_addRider 42 = .ok (.iastore, 1) := by decide +kernel
theorem dX4_addRider_43 : decode cX4_addRider 43 = .ok (.aload_n 0, 1) := by decide +kernel
theorem dX4_addRider_44 : decode cX4_addRider 44 = .ok (.getfield 27, 3) := by decide +kernel
theorem dX4_addRider_47 : decode cX4_addRider 47 = .ok (.iload 4, 2) := by decide +kernel
theorem dX4_addRider_49 : decode cX4_addRider 49 = .ok (.bipush 30, 2) := by decide +kernel
theorem dX4_addRider_51 : decode cX4_addRider 51 = .ok (.iastore, 1) := by decide +kernel
theorem dX4_addRider_52 : decode cX4_addRider 52 = .ok (.aload_n 0, 1) := by decide +kernel
theorem dX4_addRider_53 : decode cX4_addRider 53 = .ok (.iload 4, 2) := by decide +kernel
theorem dX4_addRider_55 : decode cX4_addRider 55 = .ok (.iconst 1, 1) := by decide +kernel
theorem dX4_addRider_56 : decode cX4_addRider 56 = .ok (.iadd, 1) := by decide +kernel
theorem dX4_addRider_57 : decode cX4_addRider 57 = .ok (.putfield 30, 3) := by decide +kernel
theorem dX4_addRider_60 : decode cX4_addRider 60 = .ok (.iload 4, 2) := by decide +kernel
theorem dX4_addRider_62 : decode cX4_addRider 62 = .ok (.ireturn, 1) := by decide +kernel
theorem dX4_stuckOn_0 : decode cX4_stuckOn 0 = .ok (.iconst 0, 1) := by decide +kernel
theorem dX4_stuckOn_1 : decode cX4_stuckOn 1 = .ok (.istore_n 2, 1) := by decide +kernel
theorem dX4_stuckOn_2 : decode cX4_stuckOn 2 = .ok (.iload_n 2, 1) := by decide +kernel
theorem dX4_stuckOn_3 : decode cX4_stuckOn 3 = .ok (.aload_n 0, 1) := by decide +kernel
theorem dX4_stuckOn_4 : decode cX4_stuckOn 4 = .ok (.getfield 30, 3) := by decide +kernel
theorem dX4_stuckOn_7 : decode cX4_stuckOn 7 = .ok (.if_icmp .ge 24, 3) := by decide +kernel
theorem dX4_stuckOn_10 : decode cX4_stuckOn 10 = .ok (.aload_n 0, 1) := by decide +kernel
theorem dX4_stuckOn_11 : decode cX4_stuckOn 11 = .ok (.getfield 27, 3) := by decide +kernel
theorem dX4_stuckOn_14 : decode cX4_stuckOn 14 = .ok (.iload_n 2, 1) := by decide +kernel
theorem dX4_stuckOn_15 : decode cX4_stuckOn 15 = .ok (.iaload, 1) := by decide +kernel
theorem dX4_stuckOn_16 : decode cX4_stuckOn 16 = .ok (.bipush 10, 2) := by decide +kernel
theorem dX4_stuckOn_18 : decode cX4_stuckOn 18 = .ok (.iload_n 1, 1) := by decide +kernel
theorem dX4_stuckOn_19 : decode cX4_stuckOn 19 = .ok (.iadd, 1) := by decide +kernel
theorem dX4_stuckOn_20 : decode cX4_stuckOn 20 = .ok (.if_icmp .ne 5, 3) := by decide +kernel
theorem dX4_stuckOn_23 : decode cX4_stuckOn 23 = .ok (.iload_n 2, 1) := by decide +kernel
theorem dX4_stuckOn_24 : decode cX4_stuckOn 24 = .ok (.ireturn, 1) := by decide +kernel
theorem dX4_stuckOn_25 : decode cX4_stuckOn 25 = .ok (.iinc 2 1, 3) := by decide +kernel
theorem dX4_stuckOn_28 : decode cX4_stuckOn 28 = .ok (.goto (-26), 3) := by decide +kernel
theorem dX4_stuckOn_31 : decode cX4_stuckOn 31 = .ok (.bipush (-4), 2) := by decide +kernel
theorem dX4_stuckOn_33 : decode cX4_stuckOn 33 = .ok (.ireturn, 1) := by decide +kernel
theorem dX4_ridersAtTop_0 : decode cX4_ridersAtTop 0 = .ok (.iconst 0, 1) := by decide +kernel
theorem dX4_ridersAtTop_1 : decode cX4_ridersAtTop 1 = .ok (.istore_n 1, 1) := by decide +kernel
theorem dX4_ridersAtTop_2 : decode cX4_ridersAtTop 2 = .ok (.iconst 0, 1) := by decide +kernel
theorem dX4_ridersAtTop_3 : decode cX4_ridersAtTop 3 = .ok (.istore_n 2, 1) := by decide +kernel
theorem dX4_ridersAtTop_4 : decode cX4_ridersAtTop 4 = .ok (.iload_n 2, 1) := by decide +kernel
theorem dX4_ridersAtTop_5 : decode cX4_ridersAtTop 5 = .ok (.aload_n 0, 1) := by decide +kernel
theorem dX4_ridersAtTop_6 : decode cX4_ridersAtTop 6 = .ok (.getfield 30, 3) := by decide +kernel
theorem dX4_ridersAtTop_9 : decode cX4_ridersAtTop 9 = .ok (.if_icmp .ge 26, 3) := by decide +kernel
theorem dX4_ridersAtTop_12 : decode cX4_ridersAtTop 12 = .ok (.aload_n 0, 1) := by decide +kernel
theorem dX4_ridersAtTop_13 : decode cX4_ridersAtTop 13 = .ok (.getfield 27, 3) := by decide +kernel
theorem dX4_ridersAtTop_16 : decode cX4_ridersAtTop 16 = .ok (.iload_n 2, 1) := by decide +kernel
theorem dX4_ridersAtTop_17 : decode cX4_ridersAtTop 17 = .ok (.iaload, 1) := by decide +kernel
theorem dX4_ridersAtTop_18 : decode cX4_ridersAtTop 18 = .ok (.bipush 30, 2) := by decide +kernel
theorem dX4_ridersAtTop_20 : decode cX4_ridersAtTop 20 = .ok (.if_icmp .ne 9, 3) := by decide +kernel
theorem dX4_ridersAtTop_23 : decode cX4_ridersAtTop 23 = .ok (.iload_n 1, 1) := by decide +kernel
theorem dX4_ridersAtTop_24 : decode cX4_ridersAtTop 24 = .ok (.iconst 1, 1) := by decide +kernel
theorem dX4_ridersAtTop_25 : decode cX4_ridersAtTop 25 = .ok (.iload_n 2, 1) := by decide +kernel
theorem dX4_ridersAtTop_26 : decode cX4_ridersAtTop 26 = .ok (.ishl, 1) := by decide +kernel
theorem dX4_ridersAtTop_27 : decode cX4_ridersAtTop 27 = .ok (.ior, 1) := by decide +kernel
theorem dX4_ridersAtTop_28 : decode cX4_ridersAtTop 28 = .ok (.istore_n 1, 1) := by decide +kernel
theorem dX4_ridersAtTop_29 : decode cX4_ridersAtTop 29 = .ok (.iinc 2 1, 3) := by decide +kernel
theorem dX4_ridersAtTop_32 : decode cX4_ridersAtTop 32 = .ok (.goto (-28), 3) := by decide +kernel
theorem dX4_ridersAtTop_35 : decode cX4_ridersAtTop 35 = .ok (.iload_n 1, 1) := by decide +kernel
theorem dX4_ridersAtTop_36 : decode cX4_ridersAtTop 36 = .ok (.ireturn, 1) := by decide +kernel
theorem dX4_ridersThrough_0 : decode cX4_ridersThrough 0 = .ok (.iconst 0, 1) := by decide +kernel
theorem dX4_ridersThrough_1 : decode cX4_ridersThrough 1 = .ok (.istore_n 1, 1) := by decide +kernel
theorem dX4_ridersThrough_2 : decode cX4_ridersThrough 2 = .ok (.iconst 0, 1) := by decide +kernel
theorem dX4_ridersThrough_3 : decode cX4_ridersThrough 3 = .ok (.istore_n 2, 1) := by decide +kernel
theorem dX4_ridersThrough_4 : decode cX4_ridersThrough 4 = .ok (.iload_n 2, 1) := by decide +kernel
theorem dX4_ridersThrough_5 : decode cX4_ridersThrough 5 = .ok (.aload_n 0, 1) := by decide +kernel
theorem dX4_ridersThrough_6 : decode cX4_ridersThrough 6 = .ok (.getfield 30, 3) := by decide +kernel
theorem dX4_ridersThrough_9 : decode cX4_ridersThrough 9 = .ok (.if_icmp .ge 27, 3) := by decide +kernel
theorem dX4_ridersThrough_12 : decode cX4_ridersThrough 12 = .ok (.aload_n 0, 1) := by decide +kernel
theorem dX4_ridersThrough_13 : decode cX4_ridersThrough 13 = .ok (.getfield 27, 3) := by decide +kernel
theorem dX4_ridersThrough_16 : decode cX4_ridersThrough 16 = .ok (.iload_n 2, 1) := by decide +kernel
theorem dX4_ridersThrough_17 : decode cX4_ridersThrough 17 = .ok (.iaload, 1) := by decide +kernel
theorem dX4_ridersThrough_18 : decode cX4_ridersThrough 18 = .ok (.invokestatic 50, 3) := by decide +kernel
theorem dX4_ridersThrough_21 : decode cX4_ridersThrough 21 = .ok (.ifCond .eq 9, 3) := by decide +kernel
theorem dX4_ridersThrough_24 : decode cX4_ridersThrough 24 = .ok (.iload_n 1, 1) := by decide +kernel
theorem dX4_ridersThrough_25 : decode cX4_ridersThrough 25 = .ok (.iconst 1, 1) := by decide +kernel
theorem dX4_ridersThrough_26 : decode cX4_ridersThrough 26 = .ok (.iload_n 2, 1) := by decide +kernel
theorem dX4_ridersThrough_27 : decode cX4_ridersThrough 27 = .ok (.ishl, 1) := by decide +kernel
theorem dX4_ridersThrough_28 : decode cX4_ridersThrough 28 = .ok (.ior, 1) := by decide +kernel
theorem dX4_ridersThrough_29 : decode cX4_ridersThrough 29 = .ok (.istore_n 1, 1) := by decide +kernel
theorem dX4_ridersThrough_30 : decode cX4_ridersThrough 30 = .ok (.iinc 2 1, 3) := by decide +kernel
theorem dX4_ridersThrough_33 : decode cX4_ridersThrough 33 = .ok (.goto (-29), 3) := by decide +kernel
theorem dX4_ridersThrough_36 : decode cX4_ridersThrough 36 = .ok (.iload_n 1, 1) := by decide +kernel
theorem dX4_ridersThrough_37 : decode cX4_ridersThrough 37 = .ok (.ireturn, 1) := by decide +kernel
theorem dX4_turnsTaken_0 : decode cX4_turnsTaken 0 = .ok (.iconst 0, 1) := by decide +kernel
theorem dX4_turnsTaken_1 : decode cX4_turnsTaken 1 = .ok (.istore_n 1, 1) := by decide +kernel
theorem dX4_turnsTaken_2 : decode cX4_turnsTaken 2 = .ok (.iconst 0, 1) := by decide +kernel
theorem dX4_turnsTaken_3 : decode cX4_turnsTaken 3 = .ok (.istore_n 2, 1) := by decide +kernel
theorem dX4_turnsTaken_4 : decode cX4_turnsTaken 4 = .ok (.iload_n 2, 1) := by decide +kernel
theorem dX4_turnsTaken_5 : decode cX4_turnsTaken 5 = .ok (.bipush 10, 2) := by decide +kernel
theorem dX4_turnsTaken_7 : decode cX4_turnsTaken 7 = .ok (.if_icmp .ge 25, 3) := by decide +kernel
theorem dX4_turnsTaken_10 : decode cX4_turnsTaken 10 = .ok (.aload_n 0, 1) := by decide +kernel
theorem dX4_turnsTaken_11 : decode cX4_turnsTaken 11 = .ok (.iload_n 2, 1) := by decide +kernel
theorem dX4_turnsTaken_12 : decode cX4_turnsTaken 12 = .ok (.invokevirtual 54, 3) := by decide +kernel
theorem dX4_turnsTaken_15 : decode cX4_turnsTaken 15 = .ok (.bipush (-4), 2) := by decide +kernel
theorem dX4_turnsTaken_17 : decode cX4_turnsTaken 17 = .ok (.if_icmp .eq 9, 3) := by decide +kernel
theorem dX4_turnsTaken_20 : decode cX4_turnsTaken 20 = .ok (.iload_n 1, 1) := by decide +kernel
theorem dX4_turnsTaken_21 : decode cX4_turnsTaken 21 = .ok (.iconst 1, 1) := by decide +kernel
theorem dX4_turnsTaken_22 : decode cX4_turnsTaken 22 = .ok (.iload_n 2, 1) := by decide +kernel
theorem dX4_turnsTaken_23 : decode cX4_turnsTaken 23 = .ok (.ishl, 1) := by decide +kernel
theorem dX4_turnsTaken_24 : decode cX4_turnsTaken 24 = .ok (.ior, 1) := by decide +kernel
theorem dX4_turnsTaken_25 : decode cX4_turnsTaken 25 = .ok (.istore_n 1, 1) := by decide +kernel
theorem dX4_turnsTaken_26 : decode cX4_turnsTaken 26 = .ok (.iinc 2 1, 3) := by decide +kernel
theorem dX4_turnsTaken_29 : decode cX4_turnsTaken 29 = .ok (.goto (-25), 3) := by decide +kernel
theorem dX4_turnsTaken_32 : decode cX4_turnsTaken 32 = .ok (.iload_n 1, 1) := by decide +kernel
theorem dX4_turnsTaken_33 : decode cX4_turnsTaken 33 = .ok (.ireturn, 1) := by decide +kernel
theorem dX4_gained_0 : decode cX4_gained 0 = .ok (.aload_n 0, 1) := by decide +kernel
theorem dX4_gained_1 : decode cX4_gained 1 = .ok (.getfield 18, 3) := by decide +kernel
theorem dX4_gained_4 : decode cX4_gained 4 = .ok (.iload_n 1, 1) := by decide +kernel
theorem dX4_gained_5 : decode cX4_gained 5 = .ok (.iaload, 1) := by decide +kernel
theorem dX4_gained_6 : decode cX4_gained 6 = .ok (.tableswitch 77 1 4 #[30, 36, 41, 63], 30) := by decide +kernel
theorem dX4_gained_36 : decode cX4_gained 36 = .ok (.aload_n 0, 1) := by decide +kernel
theorem dX4_gained_37 : decode cX4_gained 37 = .ok (.iload_n 1, 1) := by decide +kernel
theorem dX4_gained_38 : decode cX4_gained 38 = .ok (.invokevirtual 58, 3) := by decide +kernel
theorem dX4_gained_41 : decode cX4_gained 41 = .ok (.ireturn, 1) := by decide +kernel
theorem dX4_gained_42 : decode cX4_gained 42 = .ok (.iload_n 3, 1) := by decide +kernel
theorem dX4_gained_43 : decode cX4_gained 43 = .ok (.invokestatic 61, 3) := by decide +kernel
theorem dX4_gained_46 : decode cX4_gained 46 = .ok (.ireturn, 1) := by decide +kernel
theorem dX4_gained_47 : decode cX4_gained 47 = .ok (.iload_n 2, 1) := by decide +kernel
theorem dX4_gained_48 : decode cX4_gained 48 = .ok (.iconst 2, 1) := by decide +kernel
theorem dX4_gained_49 : decode cX4_gained 49 = .ok (.irem, 1) := by decide +kernel
theorem dX4_gained_50 : decode cX4_gained 50 = .ok (.ifCond .ne 11, 3) := by decide +kernel
theorem dX4_gained_53 : decode cX4_gained 53 = .ok (.aload_n 0, 1) := by decide +kernel
theorem dX4_gained_54 : decode cX4_gained 54 = .ok (.iload_n 1, 1) := by decide +kernel
theorem dX4_gained_55 : decode cX4_gained 55 = .ok (.invokevirtual 58, 3) := by decide +kernel
theorem dX4_gained_58 : decode cX4_gained 58 = .ok (.goto 10, 3) := by decide +kernel
theorem dX4_gained_61 : decode cX4_gained 61 = .ok (.aload_n 0, 1) := by decide +kernel
theorem dX4_gained_62 : decode cX4_gained 62 = .ok (.iload_n 1, 1) := by decide +kernel
theorem dX4_gained_63 : decode cX4_gained 63 = .ok (.invokevirtual 58, 3) := by decide +kernel
theorem dX4_gained_66 : decode cX4_gained 66 = .ok (.iconst 2, 1) := by decide +kernel
theorem dX4_gained_67 : decode cX4_gained 67 = .ok (.idiv, 1) := by decide +kernel
theorem dX4_gained_68 : decode cX4_gained 68 = .ok (.ireturn, 1) := by decide +kernel
theorem dX4_gained_69 : decode cX4_gained 69 = .ok (.iload_n 3, 1) := by decide +kernel
theorem dX4_gained_70 : decode cX4_gained 70 = .ok (.invokestatic 61, 3) := by decide +kernel
theorem dX4_gained_73 : decode cX4_gained 73 = .ok (.iconst 2, 1) := by decide +kernel
theorem dX4_gained_74 : decode cX4_gained 74 = .ok (.aload_n 0, 1) := by decide +kernel
theorem dX4_gained_75 : decode cX4_gained 75 = .ok (.getfield 15, 3) := by decide +kernel
theorem dX4_gained_78 : decode cX4_gained 78 = .ok (.iload_n 2, 1) := by decide +kernel
theorem dX4_gained_79 : decode cX4_gained 79 = .ok (.iaload, 1) := by decide +kernel
theorem dX4_gained_80 : decode cX4_gained 80 = .ok (.imul, 1) := by decide +kernel
theorem dX4_gained_81 : decode cX4_gained 81 = .ok (.iadd, 1) := by decide +kernel
theorem dX4_gained_82 : decode cX4_gained 82 = .ok (.ireturn, 1) := by decide +kernel
theorem dX4_gained_83 : decode cX4_gained 83 = .ok (.iconst 2, 1) := by decide +kernel
theorem dX4_gained_84 : decode cX4_gained 84 = .ok (.ireturn, 1) := by decide +kernel
theorem dX4_stoutGain_0 : decode cX4_stoutGain 0 = .ok (.iconst 2, 1) := by decide +kernel
theorem dX4_stoutGain_1 : decode cX4_stoutGain 1 = .ok (.aload_n 0, 1) := by decide +kernel
theorem dX4_stoutGain_2 : decode cX4_stoutGain 2 = .ok (.getfield 21, 3) := by decide +kernel
theorem dX4_stoutGain_5 : decode cX4_stoutGain 5 = .ok (.iload_n 1, 1) := by decide +kernel
theorem dX4_stoutGain_6 : decode cX4_stoutGain 6 = .ok (.iaload, 1) := by decide +kernel
theorem dX4_stoutGain_7 : decode cX4_stoutGain 7 = .ok (.iconst 5, 1) := by decide +kernel
theorem dX4_stoutGain_8 : decode cX4_stoutGain 8 = .ok (.idiv, 1) := by decide +kernel
theorem dX4_stoutGain_9 : decode cX4_stoutGain 9 = .ok (.iadd, 1) := by decide +kernel
theorem dX4_stoutGain_10 : decode cX4_stoutGain 10 = .ok (.ireturn, 1) := by decide +kernel
theorem dX4_clerkGain_0 : decode cX4_clerkGain 0 = .ok (.iload_n 0, 1) := by decide +kernel
theorem dX4_clerkGain_1 : decode cX4_clerkGain 1 = .ok (.bipush 6, 2) := by decide +kernel
theorem dX4_clerkGain_3 : decode cX4_clerkGain 3 = .ok (.if_icmp .lt 7, 3) := by decide +kernel
theorem dX4_clerkGain_6 : decode cX4_clerkGain 6 = .ok (.iconst 0, 1) := by decide +kernel
theorem dX4_clerkGain_7 : decode cX4_clerkGain 7 = .ok (.goto 4, 3) := by decide +kernel
theorem dX4_clerkGain_10 : decode cX4_clerkGain 10 = .ok (.iconst 2, 1) := by decide +kernel
theorem dX4_clerkGain_11 : decode cX4_clerkGain 11 = .ok (.ireturn, 1) := by decide +kernel
theorem dX4_speedBehind_0 : decode cX4_speedBehind 0 = .ok (.bipush 30, 2) := by decide +kernel
theorem dX4_speedBehind_2 : decode cX4_speedBehind 2 = .ok (.iload_n 3, 1) := by decide +kernel
theorem dX4_speedBehind_3 : decode cX4_speedBehind 3 = .ok (.aload_n 0, 1) := by decide +kernel
theorem dX4_speedBehind_4 : decode cX4_speedBehind 4 = .ok (.iload_n 2, 1) := by decide +kernel
theorem dX4_speedBehind_5 : decode cX4_speedBehind 5 = .ok (.iload_n 1, 1) := by decide +kernel
theorem dX4_speedBehind_6 : decode cX4_speedBehind 6 = .ok (.iload_n 3, 1) := by decide +kernel
theorem dX4_speedBehind_7 : decode cX4_speedBehind 7 = .ok (.invokevirtual 64, 3) := by decide +kernel
theorem dX4_speedBehind_10 : decode cX4_speedBehind 10 = .ok (.iadd, 1) := by decide +kernel
theorem dX4_speedBehind_11 : decode cX4_speedBehind 11 = .ok (.iload 4, 2) := by decide +kernel
theorem dX4_speedBehind_13 : decode cX4_speedBehind 13 = .ok (.isub, 1) := by decide +kernel
theorem dX4_speedBehind_14 : decode cX4_speedBehind 14 = .ok (.aload_n 0, 1) := by decide +kernel
theorem dX4_speedBehind_15 : decode cX4_speedBehind 15 = .ok (.getfield 15, 3) := by decide +kernel
theorem dX4_speedBehind_18 : decode cX4_speedBehind 18 = .ok (.iload_n 1, 1) := by decide +kernel
theorem dX4_speedBehind_19 : decode cX4_speedBehind 19 = .ok (.iaload, 1) := by decide +kernel
theorem dX4_speedBehind_20 : decode cX4_speedBehind 20 = .ok (.isub, 1) := by decide +kernel
theorem dX4_speedBehind_21 : decode cX4_speedBehind 21 = .ok (.invokestatic 68, 3) := by decide +kernel
theorem dX4_speedBehind_24 : decode cX4_speedBehind 24 = .ok (.istore 5, 2) := by decide +kernel
theorem dX4_speedBehind_26 : decode cX4_speedBehind 26 = .ok (.aload_n 0, 1) := by decide +kernel
theorem dX4_speedBehind_27 : decode cX4_speedBehind 27 = .ok (.iload_n 1, 1) := by decide +kernel
theorem dX4_speedBehind_28 : decode cX4_speedBehind 28 = .ok (.invokevirtual 54, 3) := by decide +kernel
theorem dX4_speedBehind_31 : decode cX4_speedBehind 31 = .ok (.istore 6, 2) := by decide +kernel
theorem dX4_speedBehind_33 : decode cX4_speedBehind 33 = .ok (.iload 6, 2) := by decide +kernel
theorem dX4_speedBehind_35 : decode cX4_speedBehind 35 = .ok (.bipush (-4), 2) := by decide +kernel
theorem dX4_speedBehind_37 : decode cX4_speedBehind 37 = .ok (.if_icmp .eq 13, 3) := by decide +kernel
theorem dX4_speedBehind_40 : decode cX4_speedBehind 40 = .ok (.iload 6, 2) := by decide +kernel
theorem dX4_speedBehind_42 : decode cX4_speedBehind 42 = .ok (.iload_n 2, 1) := by decide +kernel
theorem dX4_speedBehind_43 : decode cX4_speedBehind 43 = .ok (.if_icmp .eq 7, 3) := by decide +kernel
theorem dX4_speedBehind_46 : decode cX4_speedBehind 46 = .ok (.iconst 1, 1) := by decide +kernel
theorem dX4_speedBehind_47 : decode cX4_speedBehind 47 = .ok (.goto 4, 3) := by decide +kernel
theorem dX4_speedBehind_50 : decode cX4_speedBehind 50 = .ok (.iconst 0, 1) := by decide +kernel
theorem dX4_speedBehind_51 : decode cX4_speedBehind 51 = .ok (.istore 7, 2) := by decide +kernel
theorem dX4_speedBehind_53 : decode cX4_speedBehind 53 = .ok (.iload 7, 2) := by decide +kernel
theorem dX4_speedBehind_55 : decode cX4_speedBehind 55 = .ok (.ifCond .eq 15, 3) := by decide +kernel
theorem dX4_speedBehind_58 : decode cX4_speedBehind 58 = .ok (.iload 5, 2) := by decide +kernel
theorem dX4_speedBehind_60 : decode cX4_speedBehind 60 = .ok (.ifCond .le 10, 3) := by decide +kernel
theorem dX4_speedBehind_63 : decode cX4_speedBehind 63 = .ok (.iload 5, 2) := by decide +kernel
theorem dX4_speedBehind_65 : decode cX4_speedBehind 65 = .ok (.iconst 2, 1) := by decide +kernel
theorem dX4_speedBehind_66 : decode cX4_speedBehind 66 = .ok (.idiv, 1) := by decide +kernel
theorem dX4_speedBehind_67 : decode cX4_speedBehind 67 = .ok (.goto 5, 3) := by decide +kernel
theorem dX4_speedBehind_70 : decode cX4_speedBehind 70 = .ok (.iload 5, 2) := by decide +kernel
theorem dX4_speedBehind_72 : decode cX4_speedBehind 72 = .ok (.ireturn, 1) := by decide +kernel
theorem dX4_foretell_0 : decode cX4_foretell 0 = .ok (.aload_n 2, 1) := by decide +kernel
theorem dX4_foretell_1 : decode cX4_foretell 1 = .ok (.bipush (-4), 2) := by decide +kernel
theorem dX4_foretell_3 : decode cX4_foretell 3 = .ok (.invokestatic 40, 3) := by decide +kernel
theorem dX4_foretell_6 : decode cX4_foretell 6 = .ok (.iconst 2, 1) := by decide +kernel
theorem dX4_foretell_7 : decode cX4_foretell 7 = .ok (.istore_n 3, 1) := by decide +kernel
theorem dX4_foretell_8 : decode cX4_foretell 8 = .ok (.iconst 0, 1) := by decide +kernel
theorem dX4_foretell_9 : decode cX4_foretell 9 = .ok (.istore 4, 2) := by decide +kernel
theorem dX4_foretell_11 : decode cX4_foretell 11 = .ok (.iload 4, 2) := by decide +kernel
theorem dX4_foretell_13 : decode cX4_foretell 13 = .ok (.bipush 10, 2) := by decide +kernel
theorem dX4_foretell_15 : decode cX4_foretell 15 = .ok (.if_icmp .ge 40, 3) := by decide +kernel
theorem dX4_foretell_18 : decode cX4_foretell 18 = .ok (.aload_n 0, 1) := by decide +kernel
theorem dX4_foretell_19 : decode cX4_foretell 19 = .ok (.iload 4, 2) := by decide +kernel
theorem dX4_foretell_21 : decode cX4_foretell 21 = .ok (.iload_n 1, 1) := by decide +kernel
theorem dX4_foretell_22 : decode cX4_foretell 22 = .ok (.iload_n 3, 1) := by decide +kernel
theorem dX4_foretell_23 : decode cX4_foretell 23 = .ok (.aload_n 0, 1) := by decide +kernel
theorem dX4_foretell_24 : decode cX4_foretell 24 = .ok (.getfield 9, 3) := by decide +kernel
theorem dX4_foretell_27 : decode cX4_foretell 27 = .ok (.iload 4, 2) := by decide +kernel
theorem dX4_foretell_29 : decode cX4_foretell 29 = .ok (.iaload, 1) := by decide +kernel
theorem dX4_foretell_30 : decode cX4_foretell 30 = .ok (.invokevirtual 74, 3) := by decide +kernel
theorem dX4_foretell_33 : decode cX4_foretell 33 = .ok (.istore_n 3, 1) := by decide +kernel
theorem dX4_foretell_34 : decode cX4_foretell 34 = .ok (.iload_n 3, 1) := by decide +kernel
theorem dX4_foretell_35 : decode cX4_foretell 35 = .ok (.ifCond .gt 9, 3) := by decide +kernel
theorem dX4_foretell_38 : decode cX4_foretell 38 = .ok (.bipush 10, 2) := by decide +kernel
theorem dX4_foretell_40 : decode cX4_foretell 40 = .ok (.iload 4, 2) := by decide +kernel
theorem dX4_foretell_42 : decode cX4_foretell 42 = .ok (.iadd, 1) := by decide +kernel
theorem dX4_foretell_43 : decode cX4_foretell 43 = .ok (.ireturn, 1) := by decide +kernel
theorem dX4_foretell_44 : decode cX4_foretell 44 = .ok (.aload_n 2, 1) := by decide +kernel
theorem dX4_foretell_45 : decode cX4_foretell 45 = .ok (.iload 4, 2) := by decide +kernel
theorem dX4_foretell_47 : decode cX4_foretell 47 = .ok (.iload_n 3, 1) := by decide +kernel
theorem dX4_foretell_48 : decode cX4_foretell 48 = .ok (.iastore, 1) := by decide +kernel
theorem dX4_foretell_49 : decode cX4_foretell 49 = .ok (.iinc 4 1, 3) := by decide +kernel
theorem dX4_foretell_52 : decode cX4_foretell 52 = .ok (.goto (-41), 3) := by decide +kernel
theorem dX4_foretell_55 : decode cX4_foretell 55 = .ok (.iload_n 3, 1) := by decide +kernel
theorem dX4_foretell_56 : decode cX4_foretell 56 = .ok (.aload_n 0, 1) := by decide +kernel
theorem dX4_foretell_57 : decode cX4_foretell 57 = .ok (.getfield 24, 3) := by decide +kernel
theorem dX4_foretell_60 : decode cX4_foretell 60 = .ok (.iload_n 1, 1) := by decide +kernel
theorem dX4_foretell_61 : decode cX4_foretell 61 = .ok (.iaload, 1) := by decide +kernel
theorem dX4_foretell_62 : decode cX4_foretell 62 = .ok (.iadd, 1) := by decide +kernel
theorem dX4_foretell_63 : decode cX4_foretell 63 = .ok (.bipush 8, 2) := by decide +kernel
theorem dX4_foretell_65 : decode cX4_foretell 65 = .ok (.irem, 1) := by decide +kernel
theorem dX4_foretell_66 : decode cX4_foretell 66 = .ok (.ireturn, 1) := by decide +kernel
theorem dX4_sendDown_0 : decode cX4_sendDown 0 = .ok (.aload_n 0, 1) := by decide +kernel
theorem dX4_sendDown_1 : decode cX4_sendDown 1 = .ok (.iload_n 1, 1) := by decide +kernel
theorem dX4_sendDown_2 : decode cX4_sendDown 2 = .ok (.aload_n 2, 1) := by decide +kernel
theorem dX4_sendDown_3 : decode cX4_sendDown 3 = .ok (.invokevirtual 78, 3) := by decide +kernel
theorem dX4_sendDown_6 : decode cX4_sendDown 6 = .ok (.istore_n 3, 1) := by decide +kernel
theorem dX4_sendDown_7 : decode cX4_sendDown 7 = .ok (.iconst 1, 1) := by decide +kernel
theorem dX4_sendDown_8 : decode cX4_sendDown 8 = .ok (.istore 4, 2) := by decide +kernel
theorem dX4_sendDown_10 : decode cX4_sendDown 10 = .ok (.iconst 0, 1) := by decide +kernel
theorem dX4_sendDown_11 : decode cX4_sendDown 11 = .ok (.istore 5, 2) := by decide +kernel
theorem dX4_sendDown_13 : decode cX4_sendDown 13 = .ok (.iload 5, 2) := by decide +kernel
theorem dX4_sendDown_15 : decode cX4_sendDown 15 = .ok (.bipush 10, 2) := by decide +kernel
theorem dX4_sendDown_17 : decode cX4_sendDown 17 = .ok (.if_icmp .ge 61, 3) := by decide +kernel
theorem dX4_sendDown_20 : decode cX4_sendDown 20 = .ok (.iload 4, 2) := by decide +kernel
theorem dX4_sendDown_22 : decode cX4_sendDown 22 = .ok (.ifCond .eq 56, 3) := by decide +kernel
theorem dX4_sendDown_25 : decode cX4_sendDown 25 = .ok (.aload_n 0, 1) := by decide +kernel
theorem dX4_sendDown_26 : decode cX4_sendDown 26 = .ok (.iload 5, 2) := by decide +kernel
theorem dX4_sendDown_28 : decode cX4_sendDown 28 = .ok (.invokevirtual 82, 3) := by decide +kernel
theorem dX4_sendDown_31 : decode cX4_sendDown 31 = .ok (.aload_n 2, 1) := by decide +kernel
theorem dX4_sendDown_32 : decode cX4_sendDown 32 = .ok (.iload 5, 2) := by decide +kernel
theorem dX4_sendDown_34 : decode cX4_sendDown 34 = .ok (.iaload, 1) := by decide +kernel
theorem dX4_sendDown_35 : decode cX4_sendDown 35 = .ok (.bipush (-4), 2) := by decide +kernel
theorem dX4_sendDown_37 : decode cX4_sendDown 37 = .ok (.if_icmp .eq 7, 3) := by decide +kernel
theorem dX4_sendDown_40 : decode cX4_sendDown 40 = .ok (.iconst 1, 1) := by decide +kernel
theorem dX4_sendDown_41 : decode cX4_sendDown 41 = .ok (.goto 4, 3) := by decide +kernel
theorem dX4_sendDown_44 : decode cX4_sendDown 44 = .ok (.iconst 0, 1) := by decide +kernel
theorem dX4_sendDown_45 : decode cX4_sendDown 45 = .ok (.istore 4, 2) := by decide +kernel
theorem dX4_sendDown_47 : decode cX4_sendDown 47 = .ok (.iload 4, 2) := by decide +kernel
theorem dX4_sendDown_49 : decode cX4_sendDown 49 = .ok (.ifCond .eq 23, 3) := by decide +kernel
theorem dX4_sendDown_52 : decode cX4_sendDown 52 = .ok (.aload_n 0, 1) := by decide +kernel
theorem dX4_sendDown_53 : decode cX4_sendDown 53 = .ok (.getfield 9, 3) := by decide +kernel
theorem dX4_sendDown_56 : decode cX4_sendDown 56 = .ok (.iload 5, 2) := by decide +kernel
theorem dX4_sendDown_58 : decode cX4_sendDown 58 = .ok (.iconst 0, 1) := by decide +kernel
theorem dX4_sendDown_59 : decode cX4_sendDown 59 = .ok (.aload_n 0, 1) := by decide +kernel
theorem dX4_sendDown_60 : decode cX4_sendDown 60 = .ok (.getfield 9, 3) := by decide +kernel
theorem dX4_sendDown_63 : decode cX4_sendDown 63 = .ok (.iload 5, 2) := by decide +kernel
theorem dX4_sendDown_65 : decode cX4_sendDown 65 = .ok (.iaload, 1) := by decide +kernel
theorem dX4_sendDown_66 : decode cX4_sendDown 66 = .ok (.iconst 1, 1) := by decide +kernel
theorem dX4_sendDown_67 : decode cX4_sendDown 67 = .ok (.isub, 1) := by decide +kernel
theorem dX4_sendDown_68 : decode cX4_sendDown 68 = .ok (.invokestatic 86, 3) := by decide +kernel
theorem dX4_sendDown_71 : decode cX4_sendDown 71 = .ok (.iastore, 1) := by decide +kernel
theorem dX4_sendDown_72 : decode cX4_sendDown 72 = .ok (.iinc 5 1, 3) := by decide +kernel
theorem dX4_sendDown_75 : decode cX4_sendDown 75 = .ok (.goto (-62), 3) := by decide +kernel
theorem dX4_sendDown_78 : decode cX4_sendDown 78 = .ok (.aload_n 0, 1) := by decide +kernel
theorem dX4_sendDown_79 : decode cX4_sendDown 79 = .ok (.getfield 27, 3) := by decide +kernel
theorem dX4_sendDown_82 : decode cX4_sendDown 82 = .ok (.iload_n 1, 1) := by decide +kernel
theorem dX4_sendDown_83 : decode cX4_sendDown 83 = .ok (.iload_n 3, 1) := by decide +kernel
theorem dX4_sendDown_84 : decode cX4_sendDown 84 = .ok (.iastore, 1) := by decide +kernel
theorem dX4_sendDown_85 : decode cX4_sendDown 85 = .ok (.aload_n 0, 1) := by decide +kernel
theorem dX4_sendDown_86 : decode cX4_sendDown 86 = .ok (.dup, 1) := by decide +kernel
theorem dX4_sendDown_87 : decode cX4_sendDown 87 = .ok (.getfield 34, 3) := by decide +kernel
theorem dX4_sendDown_90 : decode cX4_sendDown 90 = .ok (.iconst 1, 1) := by decide +kernel
theorem dX4_sendDown_91 : decode cX4_sendDown 91 = .ok (.iadd, 1) := by decide +kernel
theorem dX4_sendDown_92 : decode cX4_sendDown 92 = .ok (.putfield 34, 3) := by decide +kernel
theorem dX4_sendDown_95 : decode cX4_sendDown 95 = .ok (.iload_n 3, 1) := by decide +kernel
theorem dX4_sendDown_96 : decode cX4_sendDown 96 = .ok (.ireturn, 1) := by decide +kernel
theorem dX4_liftFrom_0 : decode cX4_liftFrom 0 = .ok (.aload_n 0, 1) := by decide +kernel
theorem dX4_liftFrom_1 : decode cX4_liftFrom 1 = .ok (.iload_n 1, 1) := by decide +kernel
theorem dX4_liftFrom_2 : decode cX4_liftFrom 2 = .ok (.invokevirtual 54, 3) := by decide +kernel
theorem dX4_liftFrom_5 : decode cX4_liftFrom 5 = .ok (.istore_n 2, 1) := by decide +kernel
theorem dX4_liftFrom_6 : decode cX4_liftFrom 6 = .ok (.iload_n 2, 1) := by decide +kernel
theorem dX4_liftFrom_7 : decode cX4_liftFrom 7 = .ok (.bipush (-4), 2) := by decide +kernel
theorem dX4_liftFrom_9 : decode cX4_liftFrom 9 = .ok (.if_icmp .eq 11, 3) := by decide +kernel
theorem dX4_liftFrom_12 : decode cX4_liftFrom 12 = .ok (.aload_n 0, 1) := by decide +kernel
theorem dX4_liftFrom_13 : decode cX4_liftFrom 13 = .ok (.getfield 27, 3) := by decide +kernel
theorem dX4_liftFrom_16 : decode cX4_liftFrom 16 = .ok (.iload_n 2, 1) := by decide +kernel
theorem dX4_liftFrom_17 : decode cX4_liftFrom 17 = .ok (.bipush 30, 2) := by decide +kernel
theorem dX4_liftFrom_19 : decode cX4_liftFrom 19 = .ok (.iastore, 1) := by decide +kernel
theorem dX4_liftFrom_20 : decode cX4_liftFrom 20 = .ok (.return_, 1) := by decide +kernel
theorem dX4_driftOnce_0 : decode cX4_driftOnce 0 = .ok (.aload_n 0, 1) := by decide +kernel
theorem dX4_driftOnce_1 : decode cX4_driftOnce 1 = .ok (.aload_n 0, 1) := by decide +kernel
theorem dX4_driftOnce_2 : decode cX4_driftOnce 2 = .ok (.getfield 37, 3) := by decide +kernel
theorem dX4_driftOnce_5 : decode cX4_driftOnce 5 = .ok (.ldc 89, 2) := by decide +kernel
theorem dX4_driftOnce_7 : decode cX4_driftOnce 7 = .ok (.imul, 1) := by decide +kernel
theorem dX4_driftOnce_8 : decode cX4_driftOnce 8 = .ok (.sipush 12345, 3) := by decide +kernel
theorem dX4_driftOnce_11 : decode cX4_driftOnce 11 = .ok (.iadd, 1) := by decide +kernel
theorem dX4_driftOnce_12 : decode cX4_driftOnce 12 = .ok (.ldc 90, 2) := by decide +kernel
theorem dX4_driftOnce_14 : decode cX4_driftOnce 14 = .ok (.iand, 1) := by decide +kernel
theorem dX4_driftOnce_15 : decode cX4_driftOnce 15 = .ok (.putfield 37, 3) := by decide +kernel
theorem dX4_driftOnce_18 : decode cX4_driftOnce 18 = .ok (.aload_n 0, 1) := by decide +kernel
theorem dX4_driftOnce_19 : decode cX4_driftOnce 19 = .ok (.getfield 30, 3) := by decide +kernel
theorem dX4_driftOnce_22 : decode cX4_driftOnce 22 = .ok (.ifCond .le 45, 3) := by decide +kernel
theorem dX4_driftOnce_25 : decode cX4_driftOnce 25 = .ok (.aload_n 0, 1) := by decide +kernel
theorem dX4_driftOnce_26 : decode cX4_driftOnce 26 = .ok (.getfield 37, 3) := by decide +kernel
theorem dX4_driftOnce_29 : decode cX4_driftOnce 29 = .ok (.ldc 91, 2) := by decide +kernel
theorem dX4_driftOnce_31 : decode cX4_driftOnce 31 = .ok (.idiv, 1) := by decide +kernel
theorem dX4_driftOnce_32 : decode cX4_driftOnce 32 = .ok (.aload_n 0, 1) := by decide +kernel
theorem dX4_driftOnce_33 : decode cX4_driftOnce 33 = .ok (.getfield 30, 3) := by decide +kernel
theorem dX4_driftOnce_36 : decode cX4_driftOnce 36 = .ok (.irem, 1) := by decide +kernel
theorem dX4_driftOnce_37 : decode cX4_driftOnce 37 = .ok (.istore_n 2, 1) := by decide +kernel
theorem dX4_driftOnce_38 : decode cX4_driftOnce 38 = .ok (.aload_n 0, 1) := by decide +kernel
theorem dX4_driftOnce_39 : decode cX4_driftOnce 39 = .ok (.getfield 27, 3) := by decide +kernel
theorem dX4_driftOnce_42 : decode cX4_driftOnce 42 = .ok (.iload_n 2, 1) := by decide +kernel
theorem dX4_driftOnce_43 : decode cX4_driftOnce 43 = .ok (.iaload, 1) := by decide +kernel
theorem dX4_driftOnce_44 : decode cX4_driftOnce 44 = .ok (.bipush 30, 2) := by decide +kernel
theorem dX4_driftOnce_46 : decode cX4_driftOnce 46 = .ok (.if_icmp .ne 13, 3) := by decide +kernel
theorem dX4_driftOnce_49 : decode cX4_driftOnce 49 = .ok (.aload_n 0, 1) := by decide +kernel
theorem dX4_driftOnce_50 : decode cX4_driftOnce 50 = .ok (.iload_n 2, 1) := by decide +kernel
theorem dX4_driftOnce_51 : decode cX4_driftOnce 51 = .ok (.aload_n 1, 1) := by decide +kernel
theorem dX4_driftOnce_52 : decode cX4_driftOnce 52 = .ok (.invokevirtual 92, 3) := by decide +kernel
theorem dX4_driftOnce_55 : decode cX4_driftOnce 55 = .ok (.pop, 1) := by decide +kernel
theorem dX4_driftOnce_56 : decode cX4_driftOnce 56 = .ok (.goto 11, 3) := by decide +kernel
theorem dX4_driftOnce_59 : decode cX4_driftOnce 59 = .ok (.aload_n 0, 1) := by decide +kernel
theorem dX4_driftOnce_60 : decode cX4_driftOnce 60 = .ok (.getfield 27, 3) := by decide +kernel
theorem dX4_driftOnce_63 : decode cX4_driftOnce 63 = .ok (.iload_n 2, 1) := by decide +kernel
theorem dX4_driftOnce_64 : decode cX4_driftOnce 64 = .ok (.bipush 30, 2) := by decide +kernel
theorem dX4_driftOnce_66 : decode cX4_driftOnce 66 = .ok (.iastore, 1) := by decide +kernel
theorem dX4_driftOnce_67 : decode cX4_driftOnce 67 = .ok (.aload_n 0, 1) := by decide +kernel
theorem dX4_driftOnce_68 : decode cX4_driftOnce 68 = .ok (.getfield 37, 3) := by decide +kernel
theorem dX4_driftOnce_71 : decode cX4_driftOnce 71 = .ok (.sipush 128, 3) := by decide +kernel
theorem dX4_driftOnce_74 : decode cX4_driftOnce 74 = .ok (.idiv, 1) := by decide +kernel
theorem dX4_driftOnce_75 : decode cX4_driftOnce 75 = .ok (.bipush 10, 2) := by decide +kernel
theorem dX4_driftOnce_77 : decode cX4_driftOnce 77 = .ok (.irem, 1) := by decide +kernel
theorem dX4_driftOnce_78 : decode cX4_driftOnce 78 = .ok (.istore_n 2, 1) := by decide +kernel
theorem dX4_driftOnce_79 : decode cX4_driftOnce 79 = .ok (.aload_n 0, 1) := by decide +kernel
theorem dX4_driftOnce_80 : decode cX4_driftOnce 80 = .ok (.getfield 9, 3) := by decide +kernel
theorem dX4_driftOnce_83 : decode cX4_driftOnce 83 = .ok (.iload_n 2, 1) := by decide +kernel
theorem dX4_driftOnce_84 : decode cX4_driftOnce 84 = .ok (.bipush 9, 2) := by decide +kernel
theorem dX4_driftOnce_86 : decode cX4_driftOnce 86 = .ok (.aload_n 0, 1) := by decide +kernel
theorem dX4_driftOnce_87 : decode cX4_driftOnce 87 = .ok (.getfield 9, 3) := by decide +kernel
theorem dX4_driftOnce_90 : decode cX4_driftOnce 90 = .ok (.iload_n 2, 1) := by decide +kernel
theorem dX4_driftOnce_91 : decode cX4_driftOnce 91 = .ok (.iaload, 1) := by decide +kernel
theorem dX4_driftOnce_92 : decode cX4_driftOnce 92 = .ok (.iconst 1, 1) := by decide +kernel
theorem dX4_driftOnce_93 : decode cX4_driftOnce 93 = .ok (.iadd, 1) := by decide +kernel
theorem dX4_driftOnce_94 : decode cX4_driftOnce 94 = .ok (.invokestatic 68, 3) := by decide +kernel
theorem dX4_driftOnce_97 : decode cX4_driftOnce 97 = .ok (.iastore, 1) := by decide +kernel
theorem dX4_driftOnce_98 : decode cX4_driftOnce 98 = .ok (.return_, 1) := by decide +kernel
theorem dX4_goBackTo_0 : decode cX4_goBackTo 0 = .ok (.aload_n 1, 1) := by decide +kernel
theorem dX4_goBackTo_1 : decode cX4_goBackTo 1 = .ok (.getfield 9, 3) := by decide +kernel
theorem dX4_goBackTo_4 : decode cX4_goBackTo 4 = .ok (.aload_n 0, 1) := by decide +kernel
theorem dX4_goBackTo_5 : decode cX4_goBackTo 5 = .ok (.getfield 9, 3) := by decide +kernel
theorem dX4_goBackTo_8 : decode cX4_goBackTo 8 = .ok (.invokestatic 95, 3) := by decide +kernel
theorem dX4_goBackTo_11 : decode cX4_goBackTo 11 = .ok (.aload_n 1, 1) := by decide +kernel
theorem dX4_goBackTo_12 : decode cX4_goBackTo 12 = .ok (.getfield 15, 3) := by decide +kernel
theorem dX4_goBackTo_15 : decode cX4_goBackTo 15 = .ok (.aload_n 0, 1) := by decide +kernel
theorem dX4_goBackTo_16 : decode cX4_goBackTo 16 = .ok (.getfield 15, 3) := by decide +kernel
theorem dX4_goBackTo_19 : decode cX4_goBackTo 19 = .ok (.invokestatic 95, 3) := by decide +kernel
theorem dX4_goBackTo_22 : decode cX4_goBackTo 22 = .ok (.aload_n 1, 1) := by decide +kernel
theorem dX4_goBackTo_23 : decode cX4_goBackTo 23 = .ok (.getfield 27, 3) := by decide +kernel
theorem dX4_goBackTo_26 : decode cX4_goBackTo 26 = .ok (.aload_n 0, 1) := by decide +kernel
theorem dX4_goBackTo_27 : decode cX4_goBackTo 27 = .ok (.getfield 27, 3) := by decide +kernel
theorem dX4_goBackTo_30 : decode cX4_goBackTo 30 = .ok (.invokestatic 95, 3) := by decide +kernel
theorem dX4_goBackTo_33 : decode cX4_goBackTo 33 = .ok (.aload_n 0, 1) := by decide +kernel
theorem dX4_goBackTo_34 : decode cX4_goBackTo 34 = .ok (.aload_n 1, 1) := by decide +kernel
theorem dX4_goBackTo_35 : decode cX4_goBackTo 35 = .ok (.getfield 34, 3) := by decide +kernel
theorem dX4_goBackTo_38 : decode cX4_goBackTo 38 = .ok (.putfield 34, 3) := by decide +kernel
theorem dX4_goBackTo_41 : decode cX4_goBackTo 41 = .ok (.aload_n 0, 1) := by decide +kernel
theorem dX4_goBackTo_42 : decode cX4_goBackTo 42 = .ok (.aload_n 1, 1) := by decide +kernel
theorem dX4_goBackTo_43 : decode cX4_goBackTo 43 = .ok (.getfield 37, 3) := by decide +kernel
theorem dX4_goBackTo_46 : decode cX4_goBackTo 46 = .ok (.putfield 37, 3) := by decide +kernel
theorem dX4_goBackTo_49 : decode cX4_goBackTo 49 = .ok (.return_, 1) := by decide +kernel
theorem dX4_become_0 : decode cX4_become 0 = .ok (.aload_n 0, 1) := by decide +kernel
theorem dX4_become_1 : decode cX4_become 1 = .ok (.aload_n 1, 1) := by decide +kernel
theorem dX4_become_2 : decode cX4_become 2 = .ok (.invokevirtual 99, 3) := by decide +kernel
theorem dX4_become_5 : decode cX4_become 5 = .ok (.aload_n 1, 1) := by decide +kernel
theorem dX4_become_6 : decode cX4_become 6 = .ok (.getfield 18, 3) := by decide +kernel
theorem dX4_become_9 : decode cX4_become 9 = .ok (.aload_n 0, 1) := by decide +kernel
theorem dX4_become_10 : decode cX4_become 10 = .ok (.getfield 18, 3) := by decide +kernel
theorem dX4_become_13 : decode cX4_become 13 = .ok (.invokestatic 95, 3) := by decide +kernel
theorem dX4_become_16 : decode cX4_become 16 = .ok (.aload_n 1, 1) := by decide +kernel
theorem dX4_become_17 : decode cX4_become 17 = .ok (.getfield 21, 3) := by decide +kernel
theorem dX4_become_20 : decode cX4_become 20 = .ok (.aload_n 0, 1) := by decide +kernel
theorem dX4_become_21 : decode cX4_become 21 = .ok (.getfield 21, 3) := by decide +kernel
theorem dX4_become_24 : decode cX4_become 24 = .ok (.invokestatic 95, 3) := by decide +kernel
theorem dX4_become_27 : decode cX4_become 27 = .ok (.aload_n 1, 1) := by decide +kernel
theorem dX4_become_28 : decode cX4_become 28 = .ok (.getfield 24, 3) := by decide +kernel
theorem dX4_become_31 : decode cX4_become 31 = .ok (.aload_n 0, 1) := by decide +kernel
theorem dX4_become_32 : decode cX4_become 32 = .ok (.getfield 24, 3) := by decide +kernel
theorem dX4_become_35 : decode cX4_become 35 = .ok (.invokestatic 95, 3) := by decide +kernel
theorem dX4_become_38 : decode cX4_become 38 = .ok (.aload_n 0, 1) := by decide +kernel
theorem dX4_become_39 : decode cX4_become 39 = .ok (.aload_n 1, 1) := by decide +kernel
theorem dX4_become_40 : decode cX4_become 40 = .ok (.getfield 30, 3) := by decide +kernel
theorem dX4_become_43 : decode cX4_become 43 = .ok (.putfield 30, 3) := by decide +kernel
theorem dX4_become_46 : decode cX4_become 46 = .ok (.return_, 1) := by decide +kernel
theorem dX5_init_0 : decode cX5_init 0 = .ok (.aload_n 0, 1) := by decide +kernel
theorem dX5_init_1 : decode cX5_init 1 = .ok (.invokespecial 3, 3) := by decide +kernel
theorem dX5_init_4 : decode cX5_init 4 = .ok (.aload_n 0, 1) := by decide +kernel
theorem dX5_init_5 : decode cX5_init 5 = .ok (.bipush 70, 2) := by decide +kernel
theorem dX5_init_7 : decode cX5_init 7 = .ok (.newarray .int, 2) := by decide +kernel
theorem dX5_init_9 : decode cX5_init 9 = .ok (.putfield 9, 3) := by decide +kernel
theorem dX5_init_12 : decode cX5_init 12 = .ok (.aload_n 0, 1) := by decide +kernel
theorem dX5_init_13 : decode cX5_init 13 = .ok (.iconst 0, 1) := by decide +kernel
theorem dX5_init_14 : decode cX5_init 14 = .ok (.putfield 15, 3) := by decide +kernel
theorem dX5_init_17 : decode cX5_init 17 = .ok (.aload_n 0, 1) := by decide +kernel
theorem dX5_init_18 : decode cX5_init 18 = .ok (.iconst 0, 1) := by decide +kernel
theorem dX5_init_19 : decode cX5_init 19 = .ok (.putfield 19, 3) := by decide +kernel
theorem dX5_init_22 : decode cX5_init 22 = .ok (.return_, 1) := by decide +kernel
theorem dX5_append_0 : decode cX5_append 0 = .ok (.aload_n 0, 1) := by decide +kernel
theorem dX5_append_1 : decode cX5_append 1 = .ok (.getfield 15, 3) := by decide +kernel
theorem dX5_append_4 : decode cX5_append 4 = .ok (.aload_n 0, 1) := by decide +kernel
theorem dX5_append_5 : decode cX5_append 5 = .ok (.getfield 9, 3) := by decide +kernel
theorem dX5_append_8 : decode cX5_append 8 = .ok (.arraylength, 1) := by decide +kernel
theorem dX5_append_9 : decode cX5_append 9 = .ok (.if_icmp .lt 6, 3) := by decide +kernel
theorem dX5_append_12 : decode cX5_append 12 = .ok (.bipush (-3), 2) := by decide +kernel
theorem dX5_append_14 : decode cX5_append 14 = .ok (.ireturn, 1) := by decide +kernel
theorem dX5_append_15 : decode cX5_append 15 = .ok (.aload_n 0, 1) := by decide +kernel
theorem dX5_append_16 : decode cX5_append 16 = .ok (.getfield 9, 3) := by decide +kernel
theorem dX5_append_19 : decode cX5_append 19 = .ok (.aload_n 0, 1) := by decide +kernel
theorem dX5_append_20 : decode cX5_append 20 = .ok (.getfield 15, 3) := by decide +kernel
theorem dX5_append_23 : decode cX5_append 23 = .ok (.iload_n 1, 1) := by decide +kernel
theorem dX5_append_24 : decode cX5_append 24 = .ok (.iastore, 1) := by decide +kernel
theorem dX5_append_25 : decode cX5_append 25 = .ok (.aload_n 0, 1) := by decide +kernel
theorem dX5_append_26 : decode cX5_append 26 = .ok (.dup, 1) := by decide +kernel
theorem dX5_append_27 : decode cX5_append 27 = .ok (.getfield 15, 3) := by decide +kernel
theorem dX5_append_30 : decode cX5_append 30 = .ok (.iconst 1, 1) := by decide +kernel
theorem dX5_append_31 : decode cX5_append 31 = .ok (.iadd, 1) := by decide +kernel
theorem dX5_append_32 : decode cX5_append 32 = .ok (.putfield 15, 3) := by decide +kernel
theorem dX5_append_35 : decode cX5_append 35 = .ok (.aload_n 0, 1) := by decide +kernel
theorem dX5_append_36 : decode cX5_append 36 = .ok (.getfield 15, 3) := by decide +kernel
theorem dX5_append_39 : decode cX5_append 39 = .ok (.ireturn, 1) := by decide +kernel
theorem dX5_clear_0 : decode cX5_clear 0 = .ok (.aload_n 0, 1) := by decide +kernel
theorem dX5_clear_1 : decode cX5_clear 1 = .ok (.iconst 0, 1) := by decide +kernel
theorem dX5_clear_2 : decode cX5_clear 2 = .ok (.putfield 15, 3) := by decide +kernel
theorem dX5_clear_5 : decode cX5_clear 5 = .ok (.return_, 1) := by decide +kernel
theorem dX5_readSlide_0 : decode cX5_readSlide 0 = .ok (.aload_n 0, 1) := by decide +kernel
theorem dX5_readSlide_1 : decode cX5_readSlide 1 = .ok (.iconst 0, 1) := by decide +kernel
theorem dX5_readSlide_2 : decode cX5_readSlide 2 = .ok (.putfield 19, 3) := by decide +kernel
theorem dX5_readSlide_5 : decode cX5_readSlide 5 = .ok (.aload_n 1, 1) := by decide +kernel
theorem dX5_readSlide_6 : decode cX5_readSlide 6 = .ok (.iconst 0, 1) := by decide +kernel
theorem dX5_readSlide_7 : decode cX5_readSlide 7 = .ok (.putfield 22, 3) := by decide +kernel
theorem dX5_readSlide_10 : decode cX5_readSlide 10 = .ok (.aload_n 1, 1) := by decide +kernel
theorem dX5_readSlide_11 : decode cX5_readSlide 11 = .ok (.iconst 0, 1) := by decide +kernel
theorem dX5_readSlide_12 : decode cX5_readSlide 12 = .ok (.putfield 27, 3) := by decide +kernel
theorem dX5_readSlide_15 : decode cX5_readSlide 15 = .ok (.aload_n 0, 1) := by decide +kernel
theorem dX5_readSlide_16 : decode cX5_readSlide 16 = .ok (.aload_n 1, 1) := by decide +kernel
theorem dX5_readSlide_17 : decode cX5_readSlide 17 = .ok (.invokevirtual 30, 3) := by decide +kernel
theorem dX5_readSlide_20 : decode cX5_readSlide 20 = .ok (.ifCond .ne 5, 3) := by decide +kernel
theorem dX5_readSlide_23 : decode cX5_readSlide 23 = .ok (.iconst 0, 1) := by decide +kernel
theorem dX5_readSlide_24 : decode cX5_readSlide 24 = .ok (.ireturn, 1) := by decide +kernel
theorem dX5_readSlide_25 : decode cX5_readSlide 25 = .ok (.aload_n 0, 1) := by decide +kernel
theorem dX5_readSlide_26 : decode cX5_readSlide 26 = .ok (.invokevirtual 34, 3) := by decide +kernel
theorem dX5_readSlide_29 : decode cX5_readSlide 29 = .ok (.bipush 59, 2) := by decide +kernel
theorem dX5_readSlide_31 : decode cX5_readSlide 31 = .ok (.if_icmp .ne 23, 3) := by decide +kernel
theorem dX5_readSlide_34 : decode cX5_readSlide 34 = .ok (.aload_n 0, 1) := by decide +kernel
theorem dX5_readSlide_35 : decode cX5_readSlide 35 = .ok (.dup, 1) := by decide +kernel
theorem dX5_readSlide_36 : decode cX5_readSlide 36 = .ok (.getfield 19, 3) := by decide +kernel
theorem dX5_readSlide_39 : decode cX5_readSlide 39 = .ok (.iconst 1, 1) := by decide +kernel
theorem dX5_readSlide_40 : decode cX5_readSlide 40 = .ok (.iadd, 1) := by decide +kernel
theorem dX5_readSlide_41 : decode cX5_readSlide 41 = .ok (.putfield 19, 3) := by decide +kernel
theorem dX5_readSlide_44 : decode cX5_readSlide 44 = .ok (.aload_n 0, 1) := by decide +kernel
theorem dX5_readSlide_45 : decode cX5_readSlide 45 = .ok (.aload_n 1, 1) := by decide +kernel
theorem dX5_readSlide_46 : decode cX5_readSlide 46 = .ok (.invokevirtual 38, 3) := by decide +kernel
theorem dX5_readSlide_49 : decode cX5_readSlide 49 = .ok (.ifCond .ne 5, 3) := by decide +kernel
theorem dX5_readSlide_52 : decode cX5_readSlide 52 = .ok (.iconst 0, 1) := by decide +kernel
theorem dX5_readSlide_53 : decode cX5_readSlide 53 = .ok (.ireturn, 1) := by decide +kernel
theorem dX5_readSlide_54 : decode cX5_readSlide 54 = .ok (.aload_n 0, 1) := by decide +kernel
theorem dX5_readSlide_55 : decode cX5_readSlide 55 = .ok (.invokevirtual 34, 3) := by decide +kernel
theorem dX5_readSlide_58 : decode cX5_readSlide 58 = .ok (.iconst (-1), 1) := by decide +kernel
theorem dX5_readSlide_59 : decode cX5_readSlide 59 = .ok (.if_icmp .ne 7, 3) := by decide +kernel
theorem dX5_readSlide_62 : decode cX5_readSlide 62 = .ok (.iconst 1, 1) := by decide +kernel
theorem dX5_readSlide_63 : decode cX5_readSlide 63 = .ok (.goto 4, 3) := by decide +kernel
theorem dX5_readSlide_66 : decode cX5_readSlide 66 = .ok (.iconst 0, 1) := by decide +kernel
theorem dX5_readSlide_67 : decode cX5_readSlide 67 = .ok (.ireturn, 1) := by decide +kernel
theorem dX5_readTurns_0 : decode cX5_readTurns 0 = .ok (.iconst 0, 1) := by decide +kernel
theorem dX5_readTurns_1 : decode cX5_readTurns 1 = .ok (.istore_n 2, 1) := by decide +kernel
theorem dX5_readTurns_2 : decode cX5_readTurns 2 = .ok (.iload_n 2, 1) := by decide +kernel
theorem dX5_readTurns_3 : decode cX5_readTurns 3 = .ok (.bipush 10, 2) := by decide +kernel
theorem dX5_readTurns_5 : decode cX5_readTurns 5 = .ok (.if_icmp .ge 82, 3) := by decide +kernel
theorem dX5_readTurns_8 : decode cX5_readTurns 8 = .ok (.aload_n 0, 1) := by decide +kernel
theorem dX5_readTurns_9 : decode cX5_readTurns 9 = .ok (.bipush 48, 2) := by decide +kernel
theorem dX5_readTurns_11 : decode cX5_readTurns 11 = .ok (.bipush 57, 2) := by decide +kernel
theorem dX5_readTurns_13 : decode cX5_readTurns 13 = .ok (.invokevirtual 41, 3) := by decide +kernel
theorem dX5_readTurns_16 : decode cX5_readTurns 16 = .ok (.istore_n 3, 1) := by decide +kernel
theorem dX5_readTurns_17 : decode cX5_readTurns 17 = .ok (.iload_n 3, 1) := by decide +kernel
theorem dX5_readTurns_18 : decode cX5_readTurns 18 = .ok (.bipush (-4), 2) := by decide +kernel
theorem dX5_readTurns_20 : decode cX5_readTurns 20 = .ok (.if_icmp .ne 5, 3) := by decide +kernel
theorem dX5_readTurns_23 : decode cX5_readTurns 23 = .ok (.iconst 0, 1) := by decide +kernel
theorem dX5_readTurns_24 : decode cX5_readTurns 24 = .ok (.ireturn, 1) := by decide +kernel
theorem dX5_readTurns_25 : decode cX5_readTurns 25 = .ok (.iconst 0, 1) := by decide +kernel
theorem dX5_readTurns_26 : decode cX5_readTurns 26 = .ok (.istore 4, 2) := by decide +kernel
theorem dX5_readTurns_28 : decode cX5_readTurns 28 = .ok (.aload_n 0, 1) := by decide +kernel
theorem dX5_readTurns_29 : decode cX5_readTurns 29 = .ok (.invokevirtual 34, 3) := by decide +kernel
theorem dX5_readTurns_32 : decode cX5_readTurns 32 = .ok (.bipush 94, 2) := by decide +kernel
theorem dX5_readTurns_34 : decode cX5_readTurns 34 = .ok (.if_icmp .ne 23, 3) := by decide +kernel
theorem dX5_readTurns_37 : decode cX5_readTurns 37 = .ok (.aload_n 0, 1) := by decide +kernel
theorem dX5_readTurns_38 : decode cX5_readTurns 38 = .ok (.dup, 1) := by decide +kernel
theorem dX5_readTurns_39 : decode cX5_readTurns 39 = .ok (.getfield 19, 3) := by decide +kernel
theorem dX5_readTurns_42 : decode cX5_readTurns 42 = .ok (.iconst 1, 1) := by decide +kernel
theorem dX5_readTurns_43 : decode cX5_readTurns 43 = .ok (.iadd, 1) := by decide +kernel
theorem dX5_readTurns_44 : decode cX5_readTurns 44 = .ok (.putfield 19, 3) := by decide +kernel
theorem dX5_readTurns_47 : decode cX5_readTurns 47 = .ok (.aload_n 0, 1) := by decide +kernel
theorem dX5_readTurns_48 : decode cX5_readTurns 48 = .ok (.bipush 49, 2) := by decide +kernel
theorem dX5_readTurns_50 : decode cX5_readTurns 50 = .ok (.bipush 57, 2) := by decide +kernel
theorem dX5_readTurns_52 : decode cX5_readTurns 52 = .ok (.invokevirtual 41, 3) := by decide +kernel
theorem dX5_readTurns_55 : decode cX5_readTurns 55 = .ok (.istore 4, 2) := by decide +kernel
theorem dX5_readTurns_57 : decode cX5_readTurns 57 = .ok (.iload 4, 2) := by decide +kernel
theorem dX5_readTurns_59 : decode cX5_readTurns 59 = .ok (.bipush (-4), 2) := by decide +kernel
theorem dX5_readTurns_61 : decode cX5_readTurns 61 = .ok (.if_icmp .ne 5, 3) := by decide +kernel
theorem dX5_readTurns_64 : decode cX5_readTurns 64 = .ok (.iconst 0, 1) := by decide +kernel
theorem dX5_readTurns_65 : decode cX5_readTurns 65 = .ok (.ireturn, 1) := by decide +kernel
theorem dX5_readTurns_66 : decode cX5_readTurns 66 = .ok (.aload_n 1, 1) := by decide +kernel
theorem dX5_readTurns_67 : decode cX5_readTurns 67 = .ok (.getfield 45, 3) := by decide +kernel
theorem dX5_readTurns_70 : decode cX5_readTurns 70 = .ok (.iload_n 2, 1) := by decide +kernel
theorem dX5_readTurns_71 : decode cX5_readTurns 71 = .ok (.iload_n 3, 1) := by decide +kernel
theorem dX5_readTurns_72 : decode cX5_readTurns 72 = .ok (.iastore, 1) := by decide +kernel
theorem dX5_readTurns_73 : decode cX5_readTurns 73 = .ok (.aload_n 1, 1) := by decide +kernel
theorem dX5_readTurns_74 : decode cX5_readTurns 74 = .ok (.getfield 48, 3) := by decide +kernel
theorem dX5_readTurns_77 : decode cX5_readTurns 77 = .ok (.iload_n 2, 1) := by decide +kernel
theorem dX5_readTurns_78 : decode cX5_readTurns 78 = .ok (.iload 4, 2) := by decide +kernel
theorem dX5_readTurns_80 : decode cX5_readTurns 80 = .ok (.iastore, 1) := by decide +kernel
theorem dX5_readTurns_81 : decode cX5_readTurns 81 = .ok (.iinc 2 1, 3) := by decide +kernel
theorem dX5_readTurns_84 : decode cX5_readTurns 84 = .ok (.goto (-82), 3) := by decide +kernel
theorem dX5_readTurns_87 : decode cX5_readTurns 87 = .ok (.iconst 1, 1) := by decide +kernel
theorem dX5_readTurns_88 : decode cX5_readTurns 88 = .ok (.ireturn, 1) := by decide +kernel
theorem dX5_readRiders_0 : decode cX5_readRiders 0 = .ok (.aload_n 0, 1) := by decide +kernel
theorem dX5_readRiders_1 : decode cX5_readRiders 1 = .ok (.aload_n 1, 1) := by decide +kernel
theorem dX5_readRiders_2 : decode cX5_readRiders 2 = .ok (.invokevirtual 51, 3) := by decide +kernel
theorem dX5_readRiders_5 : decode cX5_readRiders 5 = .ok (.ifCond .ne 5, 3) := by decide +kernel
theorem dX5_readRiders_8 : decode cX5_readRiders 8 = .ok (.iconst 0, 1) := by decide +kernel
theorem dX5_readRiders_9 : decode cX5_readRiders 9 = .ok (.ireturn, 1) := by decide +kernel
theorem dX5_readRiders_10 : decode cX5_readRiders 10 = .ok (.iconst 1, 1) := by decide +kernel
theorem dX5_readRiders_11 : decode cX5_readRiders 11 = .ok (.istore_n 2, 1) := by decide +kernel
theorem dX5_readRiders_12 : decode cX5_readRiders 12 = .ok (.iload_n 2, 1) := by decide +kernel
theorem dX5_readRiders_13 : decode cX5_readRiders 13 = .ok (.iconst 5, 1) := by decide +kernel
theorem dX5_readRiders_14 : decode cX5_readRiders 14 = .ok (.if_icmp .ge 38, 3) := by decide +kernel
theorem dX5_readRiders_17 : decode cX5_readRiders 17 = .ok (.aload_n 0, 1) := by decide +kernel
theorem dX5_readRiders_18 : decode cX5_readRiders 18 = .ok (.invokevirtual 34, 3) := by decide +kernel
theorem dX5_readRiders_21 : decode cX5_readRiders 21 = .ok (.bipush 44, 2) := by decide +kernel
theorem dX5_readRiders_23 : decode cX5_readRiders 23 = .ok (.if_icmp .ne 29, 3) := by decide +kernel
theorem dX5_readRiders_26 : decode cX5_readRiders 26 = .ok (.aload_n 0, 1) := by decide +kernel
theorem dX5_readRiders_27 : decode cX5_readRiders 27 = .ok (.dup, 1) := by decide +kernel
theorem dX5_readRiders_28 : decode cX5_readRiders 28 = .ok (.getfield 19, 3) := by decide +kernel
theorem dX5_readRiders_31 : decode cX5_readRiders 31 = .ok (.iconst 1, 1) := by decide +kernel
theorem dX5_readRiders_32 : decode cX5_readRiders 32 = .ok (.iadd, 1) := by decide +kernel
theorem dX5_readRiders_33 : decode cX5_readRiders 33 = .ok (.putfield 19, 3) := by decide +kernel
theorem dX5_readRiders_36 : decode cX5_readRiders 36 = .ok (.aload_n 0, 1) := by decide +kernel
theorem dX5_readRiders_37 : decode cX5_readRiders 37 = .ok (.aload_n 1, 1) := by decide +kernel
theorem dX5_readRiders_38 : decode cX5_readRiders 38 = .ok (.invokevirtual 51, 3) := by decide +kernel
theorem dX5_readRiders_41 : decode cX5_readRiders 41 = .ok (.ifCond .ne 5, 3) := by decide +kernel
theorem dX5_readRiders_44 : decode cX5_readRiders 44 = .ok (.iconst 0, 1) := by decide +kernel
theorem dX5_readRiders_45 : decode cX5_readRiders 45 = .ok (.ireturn, 1) := by decide +kernel
theorem dX5_readRiders_46 : decode cX5_readRiders 46 = .ok (.iinc 2 1, 3) := by decide +kernel
theorem dX5_readRiders_49 : decode cX5_readRiders 49 = .ok (.goto (-37), 3) := by decide +kernel
theorem dX5_readRiders_52 : decode cX5_readRiders 52 = .ok (.iconst 1, 1) := by decide +kernel
theorem dX5_readRiders_53 : decode cX5_readRiders 53 = .ok (.ireturn, 1) := by decide +kernel
theorem dX5_readRider_0 : decode cX5_readRider 0 = .ok (.aload_n 0, 1) := by decide +kernel
theorem dX5_readRider_1 : decode cX5_readRider 1 = .ok (.invokevirtual 34, 3) := by decide +kernel
theorem dX5_readRider_4 : decode cX5_readRider 4 = .ok (.invokestatic 54, 3) := by decide +kernel
theorem dX5_readRider_7 : decode cX5_readRider 7 = .ok (.istore_n 2, 1) := by decide +kernel
theorem dX5_readRider_8 : decode cX5_readRider 8 = .ok (.iload_n 2, 1) := by decide +kernel
theorem dX5_readRider_9 : decode cX5_readRider 9 = .ok (.bipush (-4), 2) := by decide +kernel
theorem dX5_readRider_11 : decode cX5_readRider 11 = .ok (.if_icmp .ne 5, 3) := by decide +kernel
theorem dX5_readRider_14 : decode cX5_readRider 14 = .ok (.iconst 0, 1) := by decide +kernel
theorem dX5_readRider_15 : decode cX5_readRider 15 = .ok (.ireturn, 1) := by decide +kernel
theorem dX5_readRider_16 : decode cX5_readRider 16 = .ok (.aload_n 0, 1) := by decide +kernel
theorem dX5_readRider_17 : decode cX5_readRider 17 = .ok (.dup, 1) := by decide +kernel
theorem dX5_readRider_18 : decode cX5_readRider 18 = .ok (.getfield 19, 3) := by decide +kernel
theorem dX5_readRider_21 : decode cX5_readRider 21 = .ok (.iconst 1, 1) := by decide +kernel
theorem dX5_readRider_22 : decode cX5_readRider 22 = .ok (.iadd, 1) := by decide +kernel
theorem dX5_readRider_23 : decode cX5_readRider 23 = .ok (.putfield 19, 3) := by decide +kernel
theorem dX5_readRider_26 : decode cX5_readRider 26 = .ok (.aload_n 0, 1) := by decide +kernel
theorem dX5_readRider_27 : decode cX5_readRider 27 = .ok (.invokevirtual 58, 3) := by decide +kernel
theorem dX5_readRider_30 : decode cX5_readRider 30 = .ok (.istore_n 3, 1) := by decide +kernel
theorem dX5_readRider_31 : decode cX5_readRider 31 = .ok (.iload_n 3, 1) := by decide +kernel
theorem dX5_readRider_32 : decode cX5_readRider 32 = .ok (.bipush (-4), 2) := by decide +kernel
theorem dX5_readRider_34 : decode cX5_readRider 34 = .ok (.if_icmp .ne 5, 3) := by decide +kernel
theorem dX5_readRider_37 : decode cX5_readRider 37 = .ok (.iconst 0, 1) := by decide +kernel
theorem dX5_readRider_38 : decode cX5_readRider 38 = .ok (.ireturn, 1) := by decide +kernel
theorem dX5_readRider_39 : decode cX5_readRider 39 = .ok (.iconst 0, 1) := by decide +kernel
theorem dX5_readRider_40 : decode cX5_readRider 40 = .ok (.istore 4, 2) := by decide +kernel
theorem dX5_readRider_42 : decode cX5_readRider 42 = .ok (.aload_n 0, 1) := by decide +kernel
theorem dX5_readRider_43 : decode cX5_readRider 43 = .ok (.invokevirtual 34, 3) := by decide +kernel
theorem dX5_readRider_46 : decode cX5_readRider 46 = .ok (.bipush 60, 2) := by decide +kernel
theorem dX5_readRider_48 : decode cX5_readRider 48 = .ok (.if_icmp .ne 23, 3) := by decide +kernel
theorem dX5_readRider_51 : decode cX5_readRider 51 = .ok (.aload_n 0, 1) := by decide +kernel
theorem dX5_readRider_52 : decode cX5_readRider 52 = .ok (.dup, 1) := by decide +kernel
theorem dX5_readRider_53 : decode cX5_readRider 53 = .ok (.getfield 19, 3) := by decide +kernel
theorem dX5_readRider_56 : decode cX5_readRider 56 = .ok (.iconst 1, 1) := by decide +kernel
theorem dX5_readRider_57 : decode cX5_readRider 57 = .ok (.iadd, 1) := by decide +kernel
theorem dX5_readRider_58 : decode cX5_readRider 58 = .ok (.putfield 19, 3) := by decide +kernel
theorem dX5_readRider_61 : decode cX5_readRider 61 = .ok (.aload_n 0, 1) := by decide +kernel
theorem dX5_readRider_62 : decode cX5_readRider 62 = .ok (.bipush 48, 2) := by decide +kernel
theorem dX5_readRider_64 : decode cX5_readRider 64 = .ok (.bipush 55, 2) := by decide +kernel
theorem dX5_readRider_66 : decode cX5_readRider 66 = .ok (.invokevirtual 41, 3) := by decide +kernel
theorem dX5_readRider_69 : decode cX5_readRider 69 = .ok (.istore 4, 2) := by decide +kernel
theorem dX5_readRider_71 : decode cX5_readRider 71 = .ok (.iload 4, 2) := by decide +kernel
theorem dX5_readRider_73 : decode cX5_readRider 73 = .ok (.bipush (-4), 2) := by decide +kernel
theorem dX5_readRider_75 : decode cX5_readRider 75 = .ok (.if_icmp .eq 20, 3) := by decide +kernel
theorem dX5_readRider_78 : decode cX5_readRider 78 = .ok (.aload_n 1, 1) := by decide +kernel
theorem dX5_readRider_79 : decode cX5_readRider 79 = .ok (.iload_n 2, 1) := by decide +kernel
theorem dX5_readRider_80 : decode cX5_readRider 80 = .ok (.iload_n 3, 1) := by decide +kernel
theorem dX5_readRider_81 : decode cX5_readRider 81 = .ok (.iload 4, 2) := by decide +kernel
theorem dX5_readRider_83 : decode cX5_readRider 83 = .ok (.invokevirtual 61, 3) := by decide +kernel
theorem dX5_readRider_86 : decode cX5_readRider 86 = .ok (.bipush (-3), 2) := by decide +kernel
theorem dX5_readRider_88 : decode cX5_readRider 88 = .ok (.if_icmp .eq 7, 3) := by decide +kernel
theorem dX5_readRider_91 : decode cX5_readRider 91 = .ok (.iconst 1, 1) := by decide +kernel
theorem dX5_readRider_92 : decode cX5_readRider 92 = .ok (.goto 4, 3) := by decide +kernel
theorem dX5_readRider_95 : decode cX5_readRider 95 = .ok (.iconst 0, 1) := by decide +kernel
theorem dX5_readRider_96 : decode cX5_readRider 96 = .ok (.ireturn, 1) := by decide +kernel
theorem dX5_kindOf_0 : decode cX5_kindOf 0 = .ok (.iload_n 0, 1) := by decide +kernel
theorem dX5_kindOf_1 : decode cX5_kindOf 1 = .ok (.lookupswitch 61 #[(99, 55), (107, 59), (110, 57), (112, 51), (115, 53)], 51) := by decide +kernel
theorem dX5_kindOf_52 : decode cX5_kindOf 52 = .ok (.iconst 0, 1) := by decide +kernel
theorem dX5_kindOf_53 : decode cX5_kindOf 53 = .ok (.ireturn, 1) := by decide +kernel
theorem dX5_kindOf_54 : decode cX5_kindOf 54 = .ok (.iconst 1, 1) := by decide +kernel
theorem dX5_kindOf_55 : decode cX5_kindOf 55 = .ok (.ireturn, 1) := by decide +kernel
theorem dX5_kindOf_56 : decode cX5_kindOf 56 = .ok (.iconst 2, 1) := by decide +kernel
theorem dX5_kindOf_57 : decode cX5_kindOf 57 = .ok (.ireturn, 1) := by decide +kernel
theorem dX5_kindOf_58 : decode cX5_kindOf 58 = .ok (.iconst 3, 1) := by decide +kernel
theorem dX5_kindOf_59 : decode cX5_kindOf 59 = .ok (.ireturn, 1) := by decide +kernel
theorem dX5_kindOf_60 : decode cX5_kindOf 60 = .ok (.iconst 4, 1) := by decide +kernel
theorem dX5_kindOf_61 : decode cX5_kindOf 61 = .ok (.ireturn, 1) := by decide +kernel
theorem dX5_kindOf_62 : decode cX5_kindOf 62 = .ok (.bipush (-4), 2) := by decide +kernel
theorem dX5_kindOf_64 : decode cX5_kindOf 64 = .ok (.ireturn, 1) := by decide +kernel
theorem dX5_readHeavy_0 : decode cX5_readHeavy 0 = .ok (.aload_n 0, 1) := by decide +kernel
theorem dX5_readHeavy_1 : decode cX5_readHeavy 1 = .ok (.bipush 48, 2) := by decide +kernel
theorem dX5_readHeavy_3 : decode cX5_readHeavy 3 = .ok (.bipush 57, 2) := by decide +kernel
theorem dX5_readHeavy_5 : decode cX5_readHeavy 5 = .ok (.invokevirtual 41, 3) := by decide +kernel
theorem dX5_readHeavy_8 : decode cX5_readHeavy 8 = .ok (.istore_n 1, 1) := by decide +kernel
theorem dX5_readHeavy_9 : decode cX5_readHeavy 9 = .ok (.iload_n 1, 1) := by decide +kernel
theorem dX5_readHeavy_10 : decode cX5_readHeavy 10 = .ok (.bipush (-4), 2) := by decide +kernel
theorem dX5_readHeavy_12 : decode cX5_readHeavy 12 = .ok (.if_icmp .ne 6, 3) := by decide +kernel
theorem dX5_readHeavy_15 : decode cX5_readHeavy 15 = .ok (.bipush (-4), 2) := by decide +kernel
theorem dX5_readHeavy_17 : decode cX5_readHeavy 17 = .ok (.ireturn, 1) := by decide +kernel
theorem dX5_readHeavy_18 : decode cX5_readHeavy 18 = .ok (.aload_n 0, 1) := by decide +kernel
theorem dX5_readHeavy_19 : decode cX5_readHeavy 19 = .ok (.getfield 19, 3) := by decide +kernel
theorem dX5_readHeavy_22 : decode cX5_readHeavy 22 = .ok (.iconst 1, 1) := by decide +kernel
theorem dX5_readHeavy_23 : decode cX5_readHeavy 23 = .ok (.isub, 1) := by decide +kernel
theorem dX5_readHeavy_24 : decode cX5_readHeavy 24 = .ok (.istore_n 2, 1) := by decide +kernel
theorem dX5_readHeavy_25 : decode cX5_readHeavy 25 = .ok (.aload_n 0, 1) := by decide +kernel
theorem dX5_readHeavy_26 : decode cX5_readHeavy 26 = .ok (.aload_n 0, 1) := by decide +kernel
theorem dX5_readHeavy_27 : decode cX5_readHeavy 27 = .ok (.getfield 19, 3) := by decide +kernel
theorem dX5_readHeavy_30 : decode cX5_readHeavy 30 = .ok (.invokevirtual 65, 3) := by decide +kernel
theorem dX5_readHeavy_33 : decode cX5_readHeavy 33 = .ok (.istore_n 3, 1) := by decide +kernel
theorem dX5_readHeavy_34 : decode cX5_readHeavy 34 = .ok (.iload_n 3, 1) := by decide +kernel
theorem dX5_readHeavy_35 : decode cX5_readHeavy 35 = .ok (.bipush 48, 2) := by decide +kernel
theorem dX5_readHeavy_37 : decode cX5_readHeavy 37 = .ok (.bipush 57, 2) := by decide +kernel
theorem dX5_readHeavy_39 : decode cX5_readHeavy 39 = .ok (.invokestatic 68, 3) := by decide +kernel
theorem dX5_readHeavy_42 : decode cX5_readHeavy 42 = .ok (.ifCond .eq 23, 3) := by decide +kernel
theorem dX5_readHeavy_45 : decode cX5_readHeavy 45 = .ok (.bipush 10, 2) := by decide +kernel
theorem dX5_readHeavy_47 : decode cX5_readHeavy 47 = .ok (.iload_n 1, 1) := by decide +kernel
theorem dX5_readHeavy_48 : decode cX5_readHeavy 48 = .ok (.imul, 1) := by decide +kernel
theorem dX5_readHeavy_49 : decode cX5_readHeavy 49 = .ok (.iload_n 3, 1) := by decide +kernel
theorem dX5_readHeavy_50 : decode cX5_readHeavy 50 = .ok (.iadd, 1) := by decide +kernel
theorem dX5_readHeavy_51 : decode cX5_readHeavy 51 = .ok (.bipush 48, 2) := by decide +kernel
theorem dX5_readHeavy_53 : decode cX5_readHeavy 53 = .ok (.isub, 1) := by decide +kernel
theorem dX5_readHeavy_54 : decode cX5_readHeavy 54 = .ok (.istore_n 1, 1) := by decide +kernel
theorem dX5_readHeavy_55 : decode cX5_readHeavy 55 = .ok (.aload_n 0, 1) := by decide +kernel
theorem dX5_readHeavy_56 : decode cX5_readHeavy 56 = .ok (.dup, 1) := by decide +kernel
theorem dX5_readHeavy_57 : decode cX5_readHeavy 57 = .ok (.getfield 19, 3) := by decide +kernel
theorem dX5_readHeavy_60 : decode cX5_readHeavy 60 = .ok (.iconst 1, 1) := by decide +kernel
theorem dX5_readHeavy_61 : decode cX5_readHeavy 61 = .ok (.iadd, 1) := by decide +kernel
theorem dX5_readHeavy_62 : decode cX5_readHeavy 62 = .ok (.putfield 19, 3) := by decide +kernel
theorem dX5_readHeavy_65 : decode cX5_readHeavy 65 = .ok (.iload_n 1, 1) := by decide +kernel
theorem dX5_readHeavy_66 : decode cX5_readHeavy 66 = .ok (.iconst 1, 1) := by decide +kernel
theorem dX5_readHeavy_67 : decode cX5_readHeavy 67 = .ok (.bipush 20, 2) := by decide +kernel
theorem dX5_readHeavy_69 : decode cX5_readHeavy 69 = .ok (.invokestatic 68, 3) := by decide +kernel
theorem dX5_readHeavy_72 : decode cX5_readHeavy 72 = .ok (.ifCond .ne 11, 3) := by decide +kernel
theorem dX5_readHeavy_75 : decode cX5_readHeavy 75 = .ok (.aload_n 0, 1) := by decide +kernel
theorem dX5_readHeavy_76 : decode cX5_readHeavy 76 = .ok (.iload_n 2, 1) := by decide +kernel
theorem dX5_readHeavy_77 : decode cX5_readHeavy 77 = .ok (.putfield 19, 3) := by decide +kernel
theorem dX5_readHeavy_80 : decode cX5_readHeavy 80 = .ok (.bipush (-4), 2) := by decide +kernel
theorem dX5_readHeavy_82 : decode cX5_readHeavy 82 = .ok (.ireturn, 1) := by decide +kernel
theorem dX5_readHeavy_83 : decode cX5_readHeavy 83 = .ok (.iload_n 1, 1) := by decide +kernel
theorem dX5_readHeavy_84 : decode cX5_readHeavy 84 = .ok (.ireturn, 1) := by decide +kernel
theorem dX5_readDigit_0 : decode cX5_readDigit 0 = .ok (.aload_n 0, 1) := by decide +kernel
theorem dX5_readDigit_1 : decode cX5_readDigit 1 = .ok (.invokevirtual 34, 3) := by decide +kernel
theorem dX5_readDigit_4 : decode cX5_readDigit 4 = .ok (.istore_n 3, 1) := by decide +kernel
theorem dX5_readDigit_5 : decode cX5_readDigit 5 = .ok (.iload_n 3, 1) := by decide +kernel
theorem dX5_readDigit_6 : decode cX5_readDigit 6 = .ok (.iload_n 1, 1) := by decide +kernel
theorem dX5_readDigit_7 : decode cX5_readDigit 7 = .ok (.iload_n 2, 1) := by decide +kernel
theorem dX5_readDigit_8 : decode cX5_readDigit 8 = .ok (.invokestatic 68, 3) := by decide +kernel
theorem dX5_readDigit_11 : decode cX5_readDigit 11 = .ok (.ifCond .ne 6, 3) := by decide +kernel
theorem dX5_readDigit_14 : decode cX5_readDigit 14 = .ok (.bipush (-4), 2) := by decide +kernel
theorem dX5_readDigit_16 : decode cX5_readDigit 16 = .ok (.ireturn, 1) := by decide +kernel
theorem dX5_readDigit_17 : decode cX5_readDigit 17 = .ok (.aload_n 0, 1) := by decide +kernel
theorem dX5_readDigit_18 : decode cX5_readDigit 18 = .ok (.dup, 1) := by decide +kernel
theorem dX5_readDigit_19 : decode cX5_readDigit 19 = .ok (.getfield 19, 3) := by decide +kernel
theorem dX5_readDigit_22 : decode cX5_readDigit 22 = .ok (.iconst 1, 1) := by decide +kernel
theorem dX5_readDigit_23 : decode cX5_readDigit 23 = .ok (.iadd, 1) := by decide +kernel
theorem dX5_readDigit_24 : decode cX5_readDigit 24 = .ok (.putfield 19, 3) := by decide +kernel
theorem dX5_readDigit_27 : decode cX5_readDigit 27 = .ok (.iload_n 3, 1) := by decide +kernel
theorem dX5_readDigit_28 : decode cX5_readDigit 28 = .ok (.bipush 48, 2) := by decide +kernel
theorem dX5_readDigit_30 : decode cX5_readDigit 30 = .ok (.isub, 1) := by decide +kernel
theorem dX5_readDigit_31 : decode cX5_readDigit 31 = .ok (.ireturn, 1) := by decide +kernel
theorem dX5_nextLetter_0 : decode cX5_nextLetter 0 = .ok (.aload_n 0, 1) := by decide +kernel
theorem dX5_nextLetter_1 : decode cX5_nextLetter 1 = .ok (.getfield 19, 3) := by decide +kernel
theorem dX5_nextLetter_4 : decode cX5_nextLetter 4 = .ok (.aload_n 0, 1) := by decide +kernel
theorem dX5_nextLetter_5 : decode cX5_nextLetter 5 = .ok (.getfield 15, 3) := by decide +kernel
theorem dX5_nextLetter_8 : decode cX5_nextLetter 8 = .ok (.if_icmp .ge 29, 3) := by decide +kernel
theorem dX5_nextLetter_11 : decode cX5_nextLetter 11 = .ok (.aload_n 0, 1) := by decide +kernel
theorem dX5_nextLetter_12 : decode cX5_nextLetter 12 = .ok (.aload_n 0, 1) := by decide +kernel
theorem dX5_nextLetter_13 : decode cX5_nextLetter 13 = .ok (.getfield 19, 3) := by decide +kernel
theorem dX5_nextLetter_16 : decode cX5_nextLetter 16 = .ok (.invokevirtual 65, 3) := by decide +kernel
theorem dX5_nextLetter_19 : decode cX5_nextLetter 19 = .ok (.bipush 32, 2) := by decide +kernel
theorem dX5_nextLetter_21 : decode cX5_nextLetter 21 = .ok (.if_icmp .ne 16, 3) := by decide +kernel
theorem dX5_nextLetter_24 : decode cX5_nextLetter 24 = .ok (.aload_n 0, 1) := by decide +kernel
theorem dX5_nextLetter_25 : decode cX5_nextLetter 25 = .ok (.dup, 1) := by decide +kernel
theorem dX5_nextLetter_26 : decode cX5_nextLetter 26 = .ok (.getfield 19, 3) := by decide +kernel
theorem dX5_nextLetter_29 : decode cX5_nextLetter 29 = .ok (.iconst 1, 1) := by decide +kernel
theorem dX5_nextLetter_30 : decode cX5_nextLetter 30 = .ok (.iadd, 1) := by decide +kernel
theorem dX5_nextLetter_31 : decode cX5_nextLetter 31 = .ok (.putfield 19, 3) := by decide +kernel
theorem dX5_nextLetter_34 : decode cX5_nextLetter 34 = .ok (.goto (-34), 3) := by decide +kernel
theorem dX5_nextLetter_37 : decode cX5_nextLetter 37 = .ok (.aload_n 0, 1) := by decide +kernel
theorem dX5_nextLetter_38 : decode cX5_nextLetter 38 = .ok (.aload_n 0, 1) := by decide +kernel
theorem dX5_nextLetter_39 : decode cX5_nextLetter 39 = .ok (.getfield 19, 3) := by decide +kernel
theorem dX5_nextLetter_42 : decode cX5_nextLetter 42 = .ok (.invokevirtual 65, 3) := by decide +kernel
theorem dX5_nextLetter_45 : decode cX5_nextLetter 45 = .ok (.ireturn, 1) := by decide +kernel
theorem dX5_letterAt_0 : decode cX5_letterAt 0 = .ok (.iload_n 1, 1) := by decide +kernel
theorem dX5_letterAt_1 : decode cX5_letterAt 1 = .ok (.iconst 0, 1) := by decide +kernel
theorem dX5_letterAt_2 : decode cX5_letterAt 2 = .ok (.aload_n 0, 1) := by decide +kernel
theorem dX5_letterAt_3 : decode cX5_letterAt 3 = .ok (.getfield 15, 3) := by decide +kernel
theorem dX5_letterAt_6 : decode cX5_letterAt 6 = .ok (.iconst 1, 1) := by decide +kernel
theorem dX5_letterAt_7 : decode cX5_letterAt 7 = .ok (.isub, 1) := by decide +kernel
theorem dX5_letterAt_8 : decode cX5_letterAt 8 = .ok (.invokestatic 68, 3) := by decide +kernel
theorem dX5_letterAt_11 : decode cX5_letterAt 11 = .ok (.ifCond .eq 12, 3) := by decide +kernel
theorem dX5_letterAt_14 : decode cX5_letterAt 14 = .ok (.aload_n 0, 1) := by decide +kernel
theorem dX5_letterAt_15 : decode cX5_letterAt 15 = .ok (.getfield 9, 3) := by decide +kernel
theorem dX5_letterAt_18 : decode cX5_letterAt 18 = .ok (.iload_n 1, 1) := by decide +kernel
theorem dX5_letterAt_19 : decode cX5_letterAt 19 = .ok (.iaload, 1) := by decide +kernel
theorem dX5_letterAt_20 : decode cX5_letterAt 20 = .ok (.goto 4, 3) := by decide +kernel
theorem dX5_letterAt_23 : decode cX5_letterAt 23 = .ok (.iconst (-1), 1) := by decide +kernel
theorem dX5_letterAt_24 : decode cX5_letterAt 24 = .ok (.ireturn, 1) := by decide +kernel
theorem dX6_init_0 : decode cX6_init 0 = .ok (.aload_n 0, 1) := by decide +kernel
theorem dX6_init_1 : decode cX6_init 1 = .ok (.invokespecial 1, 3) := by decide +kernel
theorem dX6_init_4 : decode cX6_init 4 = .ok (.aload_n 0, 1) := by decide +kernel
theorem dX6_init_5 : decode cX6_init 5 = .ok (.new 7, 3) := by decide +kernel
theorem dX6_init_8 : decode cX6_init 8 = .ok (.dup, 1) := by decide +kernel
theorem dX6_init_9 : decode cX6_init 9 = .ok (.invokespecial 9, 3) := by decide +kernel
theorem dX6_init_12 : decode cX6_init 12 = .ok (.putfield 10, 3) := by decide +kernel
theorem dX6_init_15 : decode cX6_init 15 = .ok (.aload_n 0, 1) := by decide +kernel
theorem dX6_init_16 : decode cX6_init 16 = .ok (.new 7, 3) := by decide +kernel
theorem dX6_init_19 : decode cX6_init 19 = .ok (.dup, 1) := by decide +kernel
theorem dX6_init_20 : decode cX6_init 20 = .ok (.invokespecial 9, 3) := by decide +kernel
theorem dX6_init_23 : decode cX6_init 23 = .ok (.putfield 16, 3) := by decide +kernel
theorem dX6_init_26 : decode cX6_init 26 = .ok (.aload_n 0, 1) := by decide +kernel
theorem dX6_init_27 : decode cX6_init 27 = .ok (.new 19, 3) := by decide +kernel
theorem dX6_init_30 : decode cX6_init 30 = .ok (.dup, 1) := by decide +kernel
theorem dX6_init_31 : decode cX6_init 31 = .ok (.invokespecial 21, 3) := by decide +kernel
theorem dX6_init_34 : decode cX6_init 34 = .ok (.putfield 22, 3) := by decide +kernel
theorem dX6_init_37 : decode cX6_init 37 = .ok (.aload_n 0, 1) := by decide +kernel
theorem dX6_init_38 : decode cX6_init 38 = .ok (.new 7, 3) := by decide +kernel
theorem dX6_init_41 : decode cX6_init 41 = .ok (.dup, 1) := by decide +kernel
theorem dX6_init_42 : decode cX6_init 42 = .ok (.invokespecial 9, 3) := by decide +kernel
theorem dX6_init_45 : decode cX6_init 45 = .ok (.putfield 26, 3) := by decide +kernel
theorem dX6_init_48 : decode cX6_init 48 = .ok (.aload_n 0, 1) := by decide +kernel
theorem dX6_init_49 : decode cX6_init 49 = .ok (.new 19, 3) := by decide +kernel
theorem dX6_init_52 : decode cX6_init 52 = .ok (.dup, 1) := by decide +kernel
theorem dX6_init_53 : decode cX6_init 53 = .ok (.invokespecial 21, 3) := by decide +kernel
theorem dX6_init_56 : decode cX6_init 56 = .ok (.putfield 29, 3) := by decide +kernel
theorem dX6_init_59 : decode cX6_init 59 = .ok (.aload_n 0, 1) := by decide +kernel
theorem dX6_init_60 : decode cX6_init 60 = .ok (.iconst 0, 1) := by decide +kernel
theorem dX6_init_61 : decode cX6_init 61 = .ok (.putfield 32, 3) := by decide +kernel
theorem dX6_init_64 : decode cX6_init 64 = .ok (.aload_n 0, 1) := by decide +kernel
theorem dX6_init_65 : decode cX6_init 65 = .ok (.new 36, 3) := by decide +kernel
theorem dX6_init_68 : decode cX6_init 68 = .ok (.dup, 1) := by decide +kernel
theorem dX6_init_69 : decode cX6_init 69 = .ok (.invokespecial 38, 3) := by decide +kernel
theorem dX6_init_72 : decode cX6_init 72 = .ok (.putfield 39, 3) := by decide +kernel
theorem dX6_init_75 : decode cX6_init 75 = .ok (.aload_n 0, 1) := by decide +kernel
theorem dX6_init_76 : decode cX6_init 76 = .ok (.iconst 4, 1) := by decide +kernel
theorem dX6_init_77 : decode cX6_init 77 = .ok (.anewarray 43, 3) := by decide +kernel
theorem dX6_init_80 : decode cX6_init 80 = .ok (.putfield 45, 3) := by decide +kernel
theorem dX6_init_83 : decode cX6_init 83 = .ok (.aload_n 0, 1) := by decide +kernel
theorem dX6_init_84 : decode cX6_init 84 = .ok (.bipush 10, 2) := by decide +kernel
theorem dX6_init_86 : decode cX6_init 86 = .ok (.newarray .int, 2) := by decide +kernel
theorem dX6_init_88 : decode cX6_init 88 = .ok (.putfield 49, 3) := by decide +kernel
theorem dX6_init_91 : decode cX6_init 91 = .ok (.aload_n 0, 1) := by decide +kernel
theorem dX6_init_92 : decode cX6_init 92 = .ok (.new 53, 3) := by decide +kernel
theorem dX6_init_95 : decode cX6_init 95 = .ok (.dup, 1) := by decide +kernel
theorem dX6_init_96 : decode cX6_init 96 = .ok (.invokespecial 55, 3) := by decide +kernel
theorem dX6_init_99 : decode cX6_init 99 = .ok (.putfield 56, 3) := by decide +kernel
theorem dX6_init_102 : decode cX6_init 102 = .ok (.aload_n 0, 1) := by decide +kernel
theorem dX6_init_103 : decode cX6_init 103 = .ok (.new 53, 3) := by decide +kernel
theorem dX6_init_106 : decode cX6_init 106 = .ok (.dup, 1) := by decide +kernel
theorem dX6_init_107 : decode cX6_init 107 = .ok (.invokespecial 55, 3) := by decide +kernel
theorem dX6_init_110 : decode cX6_init 110 = .ok (.putfield 60, 3) := by decide +kernel
theorem dX6_init_113 : decode cX6_init 113 = .ok (.aload_n 0, 1) := by decide +kernel
theorem dX6_init_114 : decode cX6_init 114 = .ok (.new 63, 3) := by decide +kernel
theorem dX6_init_117 : decode cX6_init 117 = .ok (.dup, 1) := by decide +kernel
theorem dX6_init_118 : decode cX6_init 118 = .ok (.invokespecial 65, 3) := by decide +kernel
theorem dX6_init_121 : decode cX6_init 121 = .ok (.putfield 66, 3) := by decide +kernel
theorem dX6_init_124 : decode cX6_init 124 = .ok (.iconst 0, 1) := by decide +kernel
theorem dX6_init_125 : decode cX6_init 125 = .ok (.istore_n 1, 1) := by decide +kernel
theorem dX6_init_126 : decode cX6_init 126 = .ok (.iload_n 1, 1) := by decide +kernel
theorem dX6_init_127 : decode cX6_init 127 = .ok (.aload_n 0, 1) := by decide +kernel
theorem dX6_init_128 : decode cX6_init 128 = .ok (.getfield 45, 3) := by decide +kernel
theorem dX6_init_131 : decode cX6_init 131 = .ok (.arraylength, 1) := by decide +kernel
theorem dX6_init_132 : decode cX6_init 132 = .ok (.if_icmp .ge 22, 3) := by decide +kernel
theorem dX6_init_135 : decode cX6_init 135 = .ok (.aload_n 0, 1) := by decide +kernel
theorem dX6_init_136 : decode cX6_init 136 = .ok (.getfield 45, 3) := by decide +kernel
theorem dX6_init_139 : decode cX6_init 139 = .ok (.iload_n 1, 1) := by decide +kernel
theorem dX6_init_140 : decode cX6_init 140 = .ok (.new 43, 3) := by decide +kernel
theorem dX6_init_143 : decode cX6_init 143 = .ok (.dup, 1) := by decide +kernel
theorem dX6_init_144 : decode cX6_init 144 = .ok (.invokespecial 70, 3) := by decide +kernel
theorem dX6_init_147 : decode cX6_init 147 = .ok (.aastore, 1) := by decide +kernel
theorem dX6_init_148 : decode cX6_init 148 = .ok (.iinc 1 1, 3) := by decide +kernel
theorem dX6_init_151 : decode cX6_init 151 = .ok (.goto (-25), 3) := by decide +kernel
theorem dX6_init_154 : decode cX6_init 154 = .ok (.return_, 1) := by decide +kernel
theorem dX6_rider_0 : decode cX6_rider 0 = .ok (.iload_n 1, 1) := by decide +kernel
theorem dX6_rider_1 : decode cX6_rider 1 = .ok (.iconst 0, 1) := by decide +kernel
theorem dX6_rider_2 : decode cX6_rider 2 = .ok (.iconst 4, 1) := by decide +kernel
theorem dX6_rider_3 : decode cX6_rider 3 = .ok (.invokestatic 71, 3) := by decide +kernel
theorem dX6_rider_6 : decode cX6_rider 6 = .ok (.ifCond .eq 23, 3) := by decide +kernel
theorem dX6_rider_9 : decode cX6_rider 9 = .ok (.iload_n 2, 1) := by decide +kernel
theorem dX6_rider_10 : decode cX6_rider 10 = .ok (.iconst 1, 1) := by decide +kernel
theorem dX6_rider_11 : decode cX6_rider 11 = .ok (.bipush 20, 2) := by decide +kernel
theorem dX6_rider_13 : decode cX6_rider 13 = .ok (.invokestatic 71, 3) := by decide +kernel
theorem dX6_rider_16 : decode cX6_rider 16 = .ok (.ifCond .eq 13, 3) := by decide +kernel
theorem dX6_rider_19 : decode cX6_rider 19 = .ok (.iload_n 3, 1) := by decide +kernel
theorem dX6_rider_20 : decode cX6_rider 20 = .ok (.iconst 0, 1) := by decide +kernel
theorem dX6_rider_21 : decode cX6_rider 21 = .ok (.bipush 7, 2) := by decide +kernel
theorem dX6_rider_23 : decode cX6_rider 23 = .ok (.invokestatic 71, 3) := by decide +kernel
theorem dX6_rider_26 : decode cX6_rider 26 = .ok (.ifCond .ne 5, 3) := by decide +kernel
theorem dX6_rider_29 : decode cX6_rider 29 = .ok (.iconst (-1), 1) := by decide +kernel
theorem dX6_rider_30 : decode cX6_rider 30 = .ok (.ireturn, 1) := by decide +kernel
theorem dX6_rider_31 : decode cX6_rider 31 = .ok (.aload_n 0, 1) := by decide +kernel
theorem dX6_rider_32 : decode cX6_rider 32 = .ok (.getfield 10, 3) := by decide +kernel
theorem dX6_rider_35 : decode cX6_rider 35 = .ok (.iload_n 1, 1) := by decide +kernel
theorem dX6_rider_36 : decode cX6_rider 36 = .ok (.iload_n 2, 1) := by decide +kernel
theorem dX6_rider_37 : decode cX6_rider 37 = .ok (.iload_n 3, 1) := by decide +kernel
theorem dX6_rider_38 : decode cX6_rider 38 = .ok (.invokevirtual 75, 3) := by decide +kernel
theorem dX6_rider_41 : decode cX6_rider 41 = .ok (.istore 4, 2) := by decide +kernel
theorem dX6_rider_43 : decode cX6_rider 43 = .ok (.iload 4, 2) := by decide +kernel
theorem dX6_rider_45 : decode cX6_rider 45 = .ok (.bipush (-3), 2) := by decide +kernel
theorem dX6_rider_47 : decode cX6_rider 47 = .ok (.if_icmp .eq 10, 3) := by decide +kernel
theorem dX6_rider_50 : decode cX6_rider 50 = .ok (.aload_n 0, 1) := by decide +kernel
theorem dX6_rider_51 : decode cX6_rider 51 = .ok (.getfield 22, 3) := by decide +kernel
theorem dX6_rider_54 : decode cX6_rider 54 = .ok (.invokevirtual 79, 3) := by decide +kernel
theorem dX6_rider_57 : decode cX6_rider 57 = .ok (.iload 4, 2) := by decide +kernel
theorem dX6_rider_59 : decode cX6_rider 59 = .ok (.ireturn, 1) := by decide +kernel
theorem dX6_lean_0 : decode cX6_lean 0 = .ok (.aload_n 0, 1) := by decide +kernel
theorem dX6_lean_1 : decode cX6_lean 1 = .ok (.getfield 10, 3) := by decide +kernel
theorem dX6_lean_4 : decode cX6_lean 4 = .ok (.iload_n 1, 1) := by decide +kernel
theorem dX6_lean_5 : decode cX6_lean 5 = .ok (.invokevirtual 82, 3) := by decide +kernel
theorem dX6_lean_8 : decode cX6_lean 8 = .ok (.ifCond .eq 13, 3) := by decide +kernel
theorem dX6_lean_11 : decode cX6_lean 11 = .ok (.iload_n 2, 1) := by decide +kernel
theorem dX6_lean_12 : decode cX6_lean 12 = .ok (.iconst 0, 1) := by decide +kernel
theorem dX6_lean_13 : decode cX6_lean 13 = .ok (.bipush 7, 2) := by decide +kernel
theorem dX6_lean_15 : decode cX6_lean 15 = .ok (.invokestatic 71, 3) := by decide +kernel
theorem dX6_lean_18 : decode cX6_lean 18 = .ok (.ifCond .ne 5, 3) := by decide +kernel
theorem dX6_lean_21 : decode cX6_lean 21 = .ok (.iconst (-1), 1) := by decide +kernel
theorem dX6_lean_22 : decode cX6_lean 22 = .ok (.ireturn, 1) := by decide +kernel
theorem dX6_lean_23 : decode cX6_lean 23 = .ok (.aload_n 0, 1) := by decide +kernel
theorem dX6_lean_24 : decode cX6_lean 24 = .ok (.getfield 10, 3) := by decide +kernel
theorem dX6_lean_27 : decode cX6_lean 27 = .ok (.getfield 86, 3) := by decide +kernel
theorem dX6_lean_30 : decode cX6_lean 30 = .ok (.iload_n 1, 1) := by decide +kernel
theorem dX6_lean_31 : decode cX6_lean 31 = .ok (.iaload, 1) := by decide +kernel
theorem dX6_lean_32 : decode cX6_lean 32 = .ok (.istore_n 3, 1) := by decide +kernel
theorem dX6_lean_33 : decode cX6_lean 33 = .ok (.aload_n 0, 1) := by decide +kernel
theorem dX6_lean_34 : decode cX6_lean 34 = .ok (.getfield 10, 3) := by decide +kernel
theorem dX6_lean_37 : decode cX6_lean 37 = .ok (.getfield 86, 3) := by decide +kernel
theorem dX6_lean_40 : decode cX6_lean 40 = .ok (.iload_n 1, 1) := by decide +kernel
theorem dX6_lean_41 : decode cX6_lean 41 = .ok (.iload_n 2, 1) := by decide +kernel
theorem dX6_lean_42 : decode cX6_lean 42 = .ok (.iastore, 1) := by decide +kernel
theorem dX6_lean_43 : decode cX6_lean 43 = .ok (.iload_n 3, 1) := by decide +kernel
theorem dX6_lean_44 : decode cX6_lean 44 = .ok (.ireturn, 1) := by decide +kernel
theorem dX6_of_0 : decode cX6_of 0 = .ok (.aload_n 0, 1) := by decide +kernel
theorem dX6_of_1 : decode cX6_of 1 = .ok (.getfield 10, 3) := by decide +kernel
theorem dX6_of_4 : decode cX6_of 4 = .ok (.iload_n 1, 1) := by decide +kernel
theorem dX6_of_5 : decode cX6_of 5 = .ok (.invokevirtual 82, 3) := by decide +kernel
theorem dX6_of_8 : decode cX6_of 8 = .ok (.ifCond .ne 5, 3) := by decide +kernel
theorem dX6_of_11 : decode cX6_of 11 = .ok (.iconst (-1), 1) := by decide +kernel
theorem dX6_of_12 : decode cX6_of 12 = .ok (.ireturn, 1) := by decide +kernel
theorem dX6_of_13 : decode cX6_of 13 = .ok (.iload_n 2, 1) := by decide +kernel
theorem dX6_of_14 : decode cX6_of 14 = .ok (.tableswitch 70 0 3 #[30, 40, 50, 60], 30) := by decide +kernel
theorem dX6_of_44 : decode cX6_of 44 = .ok (.aload_n 0, 1) := by decide +kernel
theorem dX6_of_45 : decode cX6_of 45 = .ok (.getfield 10, 3) := by decide +kernel
theorem dX6_of_48 : decode cX6_of 48 = .ok (.getfield 89, 3) := by decide +kernel
theorem dX6_of_51 : decode cX6_of 51 = .ok (.iload_n 1, 1) := by decide +kernel
theorem dX6_of_52 : decode cX6_of 52 = .ok (.iaload, 1) := by decide +kernel
theorem dX6_of_53 : decode cX6_of 53 = .ok (.ireturn, 1) := by decide +kernel
theorem dX6_of_54 : decode cX6_of 54 = .ok (.aload_n 0, 1) := by decide +kernel
theorem dX6_of_55 : decode cX6_of 55 = .ok (.getfield 10, 3) := by decide +kernel
theorem dX6_of_58 : decode cX6_of 58 = .ok (.getfield 92, 3) := by decide +kernel
theorem dX6_of_61 : decode cX6_of 61 = .ok (.iload_n 1, 1) := by decide +kernel
theorem dX6_of_62 : decode cX6_of 62 = .ok (.iaload, 1) := by decide +kernel
theorem dX6_of_63 : decode cX6_of 63 = .ok (.ireturn, 1) := by decide +kernel
theorem dX6_of_64 : decode cX6_of 64 = .ok (.aload_n 0, 1) := by decide +kernel
theorem dX6_of_65 : decode cX6_of 65 = .ok (.getfield 10, 3) := by decide +kernel
theorem dX6_of_68 : decode cX6_of 68 = .ok (.getfield 86, 3) := by decide +kernel
theorem dX6_of_71 : decode cX6_of 71 = .ok (.iload_n 1, 1) := by decide +kernel
theorem dX6_of_72 : decode cX6_of 72 = .ok (.iaload, 1) := by decide +kernel
theorem dX6_of_73 : decode cX6_of 73 = .ok (.ireturn, 1) := by decide +kernel
theorem dX6_of_74 : decode cX6_of 74 = .ok (.aload_n 0, 1) := by decide +kernel
theorem dX6_of_75 : decode cX6_of 75 = .ok (.getfield 10, 3) := by decide +kernel
theorem dX6_of_78 : decode cX6_of 78 = .ok (.getfield 95, 3) := by decide +kernel
theorem dX6_of_81 : decode cX6_of 81 = .ok (.iload_n 1, 1) := by decide +kernel
theorem dX6_of_82 : decode cX6_of 82 = .ok (.iaload, 1) := by decide +kernel
theorem dX6_of_83 : decode cX6_of 83 = .ok (.ireturn, 1) := by decide +kernel
theorem dX6_of_84 : decode cX6_of 84 = .ok (.iconst (-1), 1) := by decide +kernel
theorem dX6_of_85 : decode cX6_of 85 = .ok (.ireturn, 1) := by decide +kernel
theorem dX6_at_0 : decode cX6_at 0 = .ok (.iload_n 1, 1) := by decide +kernel
theorem dX6_at_1 : decode cX6_at 1 = .ok (.invokestatic 98, 3) := by decide +kernel
theorem dX6_at_4 : decode cX6_at 4 = .ok (.ifCond .ne 5, 3) := by decide +kernel
theorem dX6_at_7 : decode cX6_at 7 = .ok (.iconst (-1), 1) := by decide +kernel
theorem dX6_at_8 : decode cX6_at 8 = .ok (.ireturn, 1) := by decide +kernel
theorem dX6_at_9 : decode cX6_at 9 = .ok (.iload_n 2, 1) := by decide +kernel
theorem dX6_at_10 : decode cX6_at 10 = .ok (.tableswitch 55 0 2 #[26, 36, 46], 26) := by decide +kernel
theorem dX6_at_36 : decode cX6_at 36 = .ok (.aload_n 0, 1) := by decide +kernel
theorem dX6_at_37 : decode cX6_at 37 = .ok (.getfield 10, 3) := by decide +kernel
theorem dX6_at_40 : decode cX6_at 40 = .ok (.getfield 101, 3) := by decide +kernel
theorem dX6_at_43 : decode cX6_at 43 = .ok (.iload_n 1, 1) := by decide +kernel
theorem dX6_at_44 : decode cX6_at 44 = .ok (.iaload, 1) := by decide +kernel
theorem dX6_at_45 : decode cX6_at 45 = .ok (.ireturn, 1) := by decide +kernel
theorem dX6_at_46 : decode cX6_at 46 = .ok (.aload_n 0, 1) := by decide +kernel
theorem dX6_at_47 : decode cX6_at 47 = .ok (.getfield 10, 3) := by decide +kernel
theorem dX6_at_50 : decode cX6_at 50 = .ok (.getfield 104, 3) := by decide +kernel
theorem dX6_at_53 : decode cX6_at 53 = .ok (.iload_n 1, 1) := by decide +kernel
theorem dX6_at_54 : decode cX6_at 54 = .ok (.iaload, 1) := by decide +kernel
theorem dX6_at_55 : decode cX6_at 55 = .ok (.ireturn, 1) := by decide +kernel
theorem dX6_at_56 : decode cX6_at 56 = .ok (.aload_n 0, 1) := by decide +kernel
theorem dX6_at_57 : decode cX6_at 57 = .ok (.getfield 10, 3) := by decide +kernel
theorem dX6_at_60 : decode cX6_at 60 = .ok (.iload_n 1, 1) := by decide +kernel
theorem dX6_at_61 : decode cX6_at 61 = .ok (.invokevirtual 107, 3) := by decide +kernel
theorem dX6_at_64 : decode cX6_at 64 = .ok (.ireturn, 1) := by decide +kernel
theorem dX6_at_65 : decode cX6_at 65 = .ok (.iconst (-1), 1) := by decide +kernel
theorem dX6_at_66 : decode cX6_at 66 = .ok (.ireturn, 1) := by decide +kernel
theorem dX6_gains_0 : decode cX6_gains 0 = .ok (.aload_n 0, 1) := by decide +kernel
theorem dX6_gains_1 : decode cX6_gains 1 = .ok (.getfield 10, 3) := by decide +kernel
theorem dX6_gains_4 : decode cX6_gains 4 = .ok (.iload_n 1, 1) := by decide +kernel
theorem dX6_gains_5 : decode cX6_gains 5 = .ok (.invokevirtual 82, 3) := by decide +kernel
theorem dX6_gains_8 : decode cX6_gains 8 = .ok (.ifCond .eq 20, 3) := by decide +kernel
theorem dX6_gains_11 : decode cX6_gains 11 = .ok (.iload_n 2, 1) := by decide +kernel
theorem dX6_gains_12 : decode cX6_gains 12 = .ok (.invokestatic 98, 3) := by decide +kernel
theorem dX6_gains_15 : decode cX6_gains 15 = .ok (.ifCond .eq 13, 3) := by decide +kernel
theorem dX6_gains_18 : decode cX6_gains 18 = .ok (.iload_n 3, 1) := by decide +kernel
theorem dX6_gains_19 : decode cX6_gains 19 = .ok (.iconst 0, 1) := by decide +kernel
theorem dX6_gains_20 : decode cX6_gains 20 = .ok (.bipush 30, 2) := by decide +kernel
theorem dX6_gains_22 : decode cX6_gains 22 = .ok (.invokestatic 71, 3) := by decide +kernel
theorem dX6_gains_25 : decode cX6_gains 25 = .ok (.ifCond .ne 5, 3) := by decide +kernel
theorem dX6_gains_28 : decode cX6_gains 28 = .ok (.iconst (-1), 1) := by decide +kernel
theorem dX6_gains_29 : decode cX6_gains 29 = .ok (.ireturn, 1) := by decide +kernel
theorem dX6_gains_30 : decode cX6_gains 30 = .ok (.aload_n 0, 1) := by decide +kernel
theorem dX6_gains_31 : decode cX6_gains 31 = .ok (.getfield 10, 3) := by decide +kernel
theorem dX6_gains_34 : decode cX6_gains 34 = .ok (.iload_n 1, 1) := by decide +kernel
theorem dX6_gains_35 : decode cX6_gains 35 = .ok (.iload_n 2, 1) := by decide +kernel
theorem dX6_gains_36 : decode cX6_gains 36 = .ok (.iload_n 3, 1) := by decide +kernel
theorem dX6_gains_37 : decode cX6_gains 37 = .ok (.invokevirtual 111, 3) := by decide +kernel
theorem dX6_gains_40 : decode cX6_gains 40 = .ok (.ireturn, 1) := by decide +kernel
theorem dX6_type_0 : decode cX6_type 0 = .ok (.iload_n 1, 1) := by decide +kernel
theorem dX6_type_1 : decode cX6_type 1 = .ok (.bipush 32, 2) := by decide +kernel
theorem dX6_type_3 : decode cX6_type 3 = .ok (.bipush 126, 2) := by decide +kernel
theorem dX6_type_5 : decode cX6_type 5 = .ok (.invokestatic 71, 3) := by decide +kernel
theorem dX6_type_8 : decode cX6_type 8 = .ok (.ifCond .ne 5, 3) := by decide +kernel
theorem dX6_type_11 : decode cX6_type 11 = .ok (.iconst (-1), 1) := by decide +kernel
theorem dX6_type_12 : decode cX6_type 12 = .ok (.ireturn, 1) := by decide +kernel
theorem dX6_type_13 : decode cX6_type 13 = .ok (.aload_n 0, 1) := by decide +kernel
theorem dX6_type_14 : decode cX6_type 14 = .ok (.getfield 39, 3) := by decide +kernel
theorem dX6_type_17 : decode cX6_type 17 = .ok (.iload_n 1, 1) := by decide +kernel
theorem dX6_type_18 : decode cX6_type 18 = .ok (.invokevirtual 114, 3) := by decide +kernel
theorem dX6_type_21 : decode cX6_type 21 = .ok (.ireturn, 1) := by decide +kernel
theorem dX6_slide_0 : decode cX6_slide 0 = .ok (.aload_n 0, 1) := by decide +kernel
theorem dX6_slide_1 : decode cX6_slide 1 = .ok (.getfield 39, 3) := by decide +kernel
theorem dX6_slide_4 : decode cX6_slide 4 = .ok (.aload_n 0, 1) := by decide +kernel
theorem dX6_slide_5 : decode cX6_slide 5 = .ok (.getfield 16, 3) := by decide +kernel
theorem dX6_slide_8 : decode cX6_slide 8 = .ok (.invokevirtual 117, 3) := by decide +kernel
theorem dX6_slide_11 : decode cX6_slide 11 = .ok (.istore_n 1, 1) := by decide +kernel
theorem dX6_slide_12 : decode cX6_slide 12 = .ok (.bipush (-20), 2) := by decide +kernel
theorem dX6_slide_14 : decode cX6_slide 14 = .ok (.aload_n 0, 1) := by decide +kernel
theorem dX6_slide_15 : decode cX6_slide 15 = .ok (.getfield 39, 3) := by decide +kernel
theorem dX6_slide_18 : decode cX6_slide 18 = .ok (.getfield 121, 3) := by decide +kernel
theorem dX6_slide_21 : decode cX6_slide 21 = .ok (.isub, 1) := by decide +kernel
theorem dX6_slide_22 : decode cX6_slide 22 = .ok (.istore_n 2, 1) := by decide +kernel
theorem dX6_slide_23 : decode cX6_slide 23 = .ok (.aload_n 0, 1) := by decide +kernel
theorem dX6_slide_24 : decode cX6_slide 24 = .ok (.getfield 39, 3) := by decide +kernel
theorem dX6_slide_27 : decode cX6_slide 27 = .ok (.invokevirtual 124, 3) := by decide +kernel
theorem dX6_slide_30 : decode cX6_slide 30 = .ok (.iload_n 1, 1) := by decide +kernel
theorem dX6_slide_31 : decode cX6_slide 31 = .ok (.ifCond .ne 5, 3) := by decide +kernel
theorem dX6_slide_34 : decode cX6_slide 34 = .ok (.iload_n 2, 1) := by decide +kernel
theorem dX6_slide_35 : decode cX6_slide 35 = .ok (.ireturn, 1) := by decide +kernel
theorem dX6_slide_36 : decode cX6_slide 36 = .ok (.aload_n 0, 1) := by decide +kernel
theorem dX6_slide_37 : decode cX6_slide 37 = .ok (.getfield 16, 3) := by decide +kernel
theorem dX6_slide_40 : decode cX6_slide 40 = .ok (.aload_n 0, 1) := by decide +kernel
theorem dX6_slide_41 : decode cX6_slide 41 = .ok (.getfield 10, 3) := by decide +kernel
theorem dX6_slide_44 : decode cX6_slide 44 = .ok (.getfield 127, 3) := by decide +kernel
theorem dX6_slide_47 : decode cX6_slide 47 = .ok (.putfield 127, 3) := by decide +kernel
theorem dX6_slide_50 : decode cX6_slide 50 = .ok (.aload_n 0, 1) := by decide +kernel
theorem dX6_slide_51 : decode cX6_slide 51 = .ok (.getfield 10, 3) := by decide +kernel
theorem dX6_slide_54 : decode cX6_slide 54 = .ok (.aload_n 0, 1) := by decide +kernel
theorem dX6_slide_55 : decode cX6_slide 55 = .ok (.getfield 16, 3) := by decide +kernel
theorem dX6_slide_58 : decode cX6_slide 58 = .ok (.invokevirtual 130, 3) := by decide +kernel
theorem dX6_slide_61 : decode cX6_slide 61 = .ok (.aload_n 0, 1) := by decide +kernel
theorem dX6_slide_62 : decode cX6_slide 62 = .ok (.getfield 22, 3) := by decide +kernel
theorem dX6_slide_65 : decode cX6_slide 65 = .ok (.invokevirtual 79, 3) := by decide +kernel
theorem dX6_slide_68 : decode cX6_slide 68 = .ok (.aload_n 0, 1) := by decide +kernel
theorem dX6_slide_69 : decode cX6_slide 69 = .ok (.getfield 10, 3) := by decide +kernel
theorem dX6_slide_72 : decode cX6_slide 72 = .ok (.getfield 134, 3) := by decide +kernel
theorem dX6_slide_75 : decode cX6_slide 75 = .ok (.ireturn, 1) := by decide +kernel
theorem dX6_count_0 : decode cX6_count 0 = .ok (.iload_n 1, 1) := by decide +kernel
theorem dX6_count_1 : decode cX6_count 1 = .ok (.tableswitch 117 0 7 #[47, 55, 63, 71, 79, 87, 98, 109], 47) := by decide +kernel
theorem dX6_count_48 : decode cX6_count 48 = .ok (.aload_n 0, 1) := by decide +kernel
theorem dX6_count_49 : decode cX6_count 49 = .ok (.getfield 10, 3) := by decide +kernel
theorem dX6_count_52 : decode cX6_count 52 = .ok (.getfield 134, 3) := by decide +kernel
theorem dX6_count_55 : decode cX6_count 55 = .ok (.ireturn, 1) := by decide +kernel
theorem dX6_count_56 : decode cX6_count 56 = .ok (.aload_n 0, 1) := by decide +kernel
theorem dX6_count_57 : decode cX6_count 57 = .ok (.getfield 10, 3) := by decide +kernel
theorem dX6_count_60 : decode cX6_count 60 = .ok (.getfield 137, 3) := by decide +kernel
theorem dX6_count_63 : decode cX6_count 63 = .ok (.ireturn, 1) := by decide +kernel
theorem dX6_count_64 : decode cX6_count 64 = .ok (.aload_n 0, 1) := by decide +kernel
theorem dX6_count_65 : decode cX6_count 65 = .ok (.getfield 10, 3) := by decide +kernel
theorem dX6_count_68 : decode cX6_count 68 = .ok (.invokevirtual 140, 3) := by decide +kernel
theorem dX6_count_71 : decode cX6_count 71 = .ok (.ireturn, 1) := by decide +kernel
theorem dX6_count_72 : decode cX6_count 72 = .ok (.aload_n 0, 1) := by decide +kernel
theorem dX6_count_73 : decode cX6_count 73 = .ok (.getfield 10, 3) := by decide +kernel
theorem dX6_count_76 : decode cX6_count 76 = .ok (.invokevirtual 144, 3) := by decide +kernel
theorem dX6_count_79 : decode cX6_count 79 = .ok (.ireturn, 1) := by decide +kernel
theorem dX6_count_80 : decode cX6_count 80 = .ok (.aload_n 0, 1) := by decide +kernel
theorem dX6_count_81 : decode cX6_count 81 = .ok (.getfield 10, 3) := by decide +kernel
theorem dX6_count_84 : decode cX6_count 84 = .ok (.invokevirtual 147, 3) := by decide +kernel
theorem dX6_count_87 : decode cX6_count 87 = .ok (.ireturn, 1) := by decide +kernel
theorem dX6_count_88 : decode cX6_count 88 = .ok (.aload_n 0, 1) := by decide +kernel
theorem dX6_count_89 : decode cX6_count 89 = .ok (.getfield 10, 3) := by decide +kernel
theorem dX6_count_92 : decode cX6_count 92 = .ok (.getfield 101, 3) := by decide +kernel
theorem dX6_count_95 : decode cX6_count 95 = .ok (.invokestatic 150, 3) := by decide +kernel
theorem dX6_count_98 : decode cX6_count 98 = .ok (.ireturn, 1) := by decide +kernel
theorem dX6_count_99 : decode cX6_count 99 = .ok (.aload_n 0, 1) := by decide +kernel
theorem dX6_count_100 : decode cX6_count 100 = .ok (.getfield 10, 3) := by decide +kernel
theorem dX6_count_103 : decode cX6_count 103 = .ok (.getfield 104, 3) := by decide +kernel
theorem dX6_count_106 : decode cX6_count 106 = .ok (.invokestatic 150, 3) := by decide +kernel
theorem dX6_count_109 : decode cX6_count 109 = .ok (.ireturn, 1) := by decide +kernel
theorem dX6_count_110 : decode cX6_count 110 = .ok (.aload_n 0, 1) := by decide +kernel
theorem dX6_count_111 : decode cX6_count 111 = .ok (.getfield 22, 3) := by decide +kernel
theorem dX6_count_114 : decode cX6_count 114 = .ok (.getfield 154, 3) := by decide +kernel
theorem dX6_count_117 : decode cX6_count 117 = .ok (.ireturn, 1) := by decide +kernel
theorem dX6_count_118 : decode cX6_count 118 = .ok (.iconst (-1), 1) := by decide +kernel
theorem dX6_count_119 : decode cX6_count 119 = .ok (.ireturn, 1) := by decide +kernel
theorem dX6_ride_0 : decode cX6_ride 0 = .ok (.aload_n 0, 1) := by decide +kernel
theorem dX6_ride_1 : decode cX6_ride 1 = .ok (.getfield 10, 3) := by decide +kernel
theorem dX6_ride_4 : decode cX6_ride 4 = .ok (.iload_n 1, 1) := by decide +kernel
theorem dX6_ride_5 : decode cX6_ride 5 = .ok (.invokevirtual 82, 3) := by decide +kernel
theorem dX6_ride_8 : decode cX6_ride 8 = .ok (.ifCond .ne 5, 3) := by decide +kernel
theorem dX6_ride_11 : decode cX6_ride 11 = .ok (.iconst (-1), 1) := by decide +kernel
theorem dX6_ride_12 : decode cX6_ride 12 = .ok (.ireturn, 1) := by decide +kernel
theorem dX6_ride_13 : decode cX6_ride 13 = .ok (.aload_n 0, 1) := by decide +kernel
theorem dX6_ride_14 : decode cX6_ride 14 = .ok (.getfield 10, 3) := by decide +kernel
theorem dX6_ride_17 : decode cX6_ride 17 = .ok (.getfield 137, 3) := by decide +kernel
theorem dX6_ride_20 : decode cX6_ride 20 = .ok (.sipush 9999, 3) := by decide +kernel
theorem dX6_ride_23 : decode cX6_ride 23 = .ok (.if_icmp .lt 6, 3) := by decide +kernel
theorem dX6_ride_26 : decode cX6_ride 26 = .ok (.bipush (-3), 2) := by decide +kernel
theorem dX6_ride_28 : decode cX6_ride 28 = .ok (.ireturn, 1) := by decide +kernel
theorem dX6_ride_29 : decode cX6_ride 29 = .ok (.aload_n 0, 1) := by decide +kernel
theorem dX6_ride_30 : decode cX6_ride 30 = .ok (.getfield 10, 3) := by decide +kernel
theorem dX6_ride_33 : decode cX6_ride 33 = .ok (.getfield 95, 3) := by decide +kernel
theorem dX6_ride_36 : decode cX6_ride 36 = .ok (.iload_n 1, 1) := by decide +kernel
theorem dX6_ride_37 : decode cX6_ride 37 = .ok (.iaload, 1) := by decide +kernel
theorem dX6_ride_38 : decode cX6_ride 38 = .ok (.bipush 30, 2) := by decide +kernel
theorem dX6_ride_40 : decode cX6_ride 40 = .ok (.if_icmp .eq 6, 3) := by decide +kernel
theorem dX6_ride_43 : decode cX6_ride 43 = .ok (.bipush (-2), 2) := by decide +kernel
theorem dX6_ride_45 : decode cX6_ride 45 = .ok (.ireturn, 1) := by decide +kernel
theorem dX6_ride_46 : decode cX6_ride 46 = .ok (.aload_n 0, 1) := by decide +kernel
theorem dX6_ride_47 : decode cX6_ride 47 = .ok (.getfield 22, 3) := by decide +kernel
theorem dX6_ride_50 : decode cX6_ride 50 = .ok (.aload_n 0, 1) := by decide +kernel
theorem dX6_ride_51 : decode cX6_ride 51 = .ok (.getfield 10, 3) := by decide +kernel
theorem dX6_ride_54 : decode cX6_ride 54 = .ok (.invokevirtual 157, 3) := by decide +kernel
theorem dX6_ride_57 : decode cX6_ride 57 = .ok (.aload_n 0, 1) := by decide +kernel
theorem dX6_ride_58 : decode cX6_ride 58 = .ok (.getfield 10, 3) := by decide +kernel
theorem dX6_ride_61 : decode cX6_ride 61 = .ok (.iload_n 1, 1) := by decide +kernel
theorem dX6_ride_62 : decode cX6_ride 62 = .ok (.aload_n 0, 1) := by decide +kernel
theorem dX6_ride_63 : decode cX6_ride 63 = .ok (.getfield 49, 3) := by decide +kernel
theorem dX6_ride_66 : decode cX6_ride 66 = .ok (.invokevirtual 160, 3) := by decide +kernel
theorem dX6_ride_69 : decode cX6_ride 69 = .ok (.ireturn, 1) := by decide +kernel
theorem dX6_wax_0 : decode cX6_wax 0 = .ok (.iload_n 1, 1) := by decide +kernel
theorem dX6_wax_1 : decode cX6_wax 1 = .ok (.invokestatic 98, 3) := by decide +kernel
theorem dX6_wax_4 : decode cX6_wax 4 = .ok (.ifCond .eq 13, 3) := by decide +kernel
theorem dX6_wax_7 : decode cX6_wax 7 = .ok (.iload_n 2, 1) := by decide +kernel
theorem dX6_wax_8 : decode cX6_wax 8 = .ok (.iconst 0, 1) := by decide +kernel
theorem dX6_wax_9 : decode cX6_wax 9 = .ok (.bipush 9, 2) := by decide +kernel
theorem dX6_wax_11 : decode cX6_wax 11 = .ok (.invokestatic 71, 3) := by decide +kernel
theorem dX6_wax_14 : decode cX6_wax 14 = .ok (.ifCond .ne 5, 3) := by decide +kernel
theorem dX6_wax_17 : decode cX6_wax 17 = .ok (.iconst (-1), 1) := by decide +kernel
theorem dX6_wax_18 : decode cX6_wax 18 = .ok (.ireturn, 1) := by decide +kernel
theorem dX6_wax_19 : decode cX6_wax 19 = .ok (.aload_n 0, 1) := by decide +kernel
theorem dX6_wax_20 : decode cX6_wax 20 = .ok (.getfield 10, 3) := by decide +kernel
theorem dX6_wax_23 : decode cX6_wax 23 = .ok (.getfield 101, 3) := by decide +kernel
theorem dX6_wax_26 : decode cX6_wax 26 = .ok (.iload_n 1, 1) := by decide +kernel
theorem dX6_wax_27 : decode cX6_wax 27 = .ok (.iaload, 1) := by decide +kernel
theorem dX6_wax_28 : decode cX6_wax 28 = .ok (.istore_n 3, 1) := by decide +kernel
theorem dX6_wax_29 : decode cX6_wax 29 = .ok (.iload_n 3, 1) := by decide +kernel
theorem dX6_wax_30 : decode cX6_wax 30 = .ok (.iload_n 2, 1) := by decide +kernel
theorem dX6_wax_31 : decode cX6_wax 31 = .ok (.if_icmp .ne 6, 3) := by decide +kernel
theorem dX6_wax_34 : decode cX6_wax 34 = .ok (.bipush (-2), 2) := by decide +kernel
theorem dX6_wax_36 : decode cX6_wax 36 = .ok (.ireturn, 1) := by decide +kernel
theorem dX6_wax_37 : decode cX6_wax 37 = .ok (.aload_n 0, 1) := by decide +kernel
theorem dX6_wax_38 : decode cX6_wax 38 = .ok (.getfield 22, 3) := by decide +kernel
theorem dX6_wax_41 : decode cX6_wax 41 = .ok (.aload_n 0, 1) := by decide +kernel
theorem dX6_wax_42 : decode cX6_wax 42 = .ok (.getfield 10, 3) := by decide +kernel
theorem dX6_wax_45 : decode cX6_wax 45 = .ok (.invokevirtual 157, 3) := by decide +kernel
theorem dX6_wax_48 : decode cX6_wax 48 = .ok (.aload_n 0, 1) := by decide +kernel
theorem dX6_wax_49 : decode cX6_wax 49 = .ok (.getfield 10, 3) := by decide +kernel
theorem dX6_wax_52 : decode cX6_wax 52 = .ok (.getfield 101, 3) := by decide +kernel
theorem dX6_wax_55 : decode cX6_wax 55 = .ok (.iload_n 1, 1) := by decide +kernel
theorem dX6_wax_56 : decode cX6_wax 56 = .ok (.iload_n 2, 1) := by decide +kernel
theorem dX6_wax_57 : decode cX6_wax 57 = .ok (.iastore, 1) := by decide +kernel
theorem dX6_wax_58 : decode cX6_wax 58 = .ok (.iload_n 3, 1) := by decide +kernel
theorem dX6_wax_59 : decode cX6_wax 59 = .ok (.ireturn, 1) := by decide +kernel
theorem dX6_hammer_0 : decode cX6_hammer 0 = .ok (.iload_n 1, 1) := by decide +kernel
theorem dX6_hammer_1 : decode cX6_hammer 1 = .ok (.invokestatic 98, 3) := by decide +kernel
theorem dX6_hammer_4 : decode cX6_hammer 4 = .ok (.ifCond .eq 13, 3) := by decide +kernel
theorem dX6_hammer_7 : decode cX6_hammer 7 = .ok (.iload_n 2, 1) := by decide +kernel
theorem dX6_hammer_8 : decode cX6_hammer 8 = .ok (.iconst 0, 1) := by decide +kernel
theorem dX6_hammer_9 : decode cX6_hammer 9 = .ok (.bipush 9, 2) := by decide +kernel
theorem dX6_hammer_11 : decode cX6_hammer 11 = .ok (.invokestatic 71, 3) := by decide +kernel
theorem dX6_hammer_14 : decode cX6_hammer 14 = .ok (.ifCond .ne 5, 3) := by decide +kernel
theorem dX6_hammer_17 : decode cX6_hammer 17 = .ok (.iconst (-1), 1) := by decide +kernel
theorem dX6_hammer_18 : decode cX6_hammer 18 = .ok (.ireturn, 1) := by decide +kernel
theorem dX6_hammer_19 : decode cX6_hammer 19 = .ok (.aload_n 0, 1) := by decide +kernel
theorem dX6_hammer_20 : decode cX6_hammer 20 = .ok (.getfield 10, 3) := by decide +kernel
theorem dX6_hammer_23 : decode cX6_hammer 23 = .ok (.getfield 104, 3) := by decide +kernel
theorem dX6_hammer_26 : decode cX6_hammer 26 = .ok (.iload_n 1, 1) := by decide +kernel
theorem dX6_hammer_27 : decode cX6_hammer 27 = .ok (.iaload, 1) := by decide +kernel
theorem dX6_hammer_28 : decode cX6_hammer 28 = .ok (.istore_n 3, 1) := by decide +kernel
theorem dX6_hammer_29 : decode cX6_hammer 29 = .ok (.iload_n 3, 1) := by decide +kernel
theorem dX6_hammer_30 : decode cX6_hammer 30 = .ok (.iload_n 2, 1) := by decide +kernel
theorem dX6_hammer_31 : decode cX6_hammer 31 = .ok (.if_icmp .ne 6, 3) := by decide +kernel
theorem dX6_hammer_34 : decode cX6_hammer 34 = .ok (.bipush (-2), 2) := by decide +kernel
theorem dX6_hammer_36 : decode cX6_hammer 36 = .ok (.ireturn, 1) := by decide +kernel
theorem dX6_hammer_37 : decode cX6_hammer 37 = .ok (.aload_n 0, 1) := by decide +kernel
theorem dX6_hammer_38 : decode cX6_hammer 38 = .ok (.getfield 22, 3) := by decide +kernel
theorem dX6_hammer_41 : decode cX6_hammer 41 = .ok (.aload_n 0, 1) := by decide +kernel
theorem dX6_hammer_42 : decode cX6_hammer 42 = .ok (.getfield 10, 3) := by decide +kernel
theorem dX6_hammer_45 : decode cX6_hammer 45 = .ok (.invokevirtual 157, 3) := by decide +kernel
theorem dX6_hammer_48 : decode cX6_hammer 48 = .ok (.aload_n 0, 1) := by decide +kernel
theorem dX6_hammer_49 : decode cX6_hammer 49 = .ok (.getfield 10, 3) := by decide +kernel
theorem dX6_hammer_52 : decode cX6_hammer 52 = .ok (.getfield 104, 3) := by decide +kernel
theorem dX6_hammer_55 : decode cX6_hammer 55 = .ok (.iload_n 1, 1) := by decide +kernel
theorem dX6_hammer_56 : decode cX6_hammer 56 = .ok (.iload_n 2, 1) := by decide +kernel
theorem dX6_hammer_57 : decode cX6_hammer 57 = .ok (.iastore, 1) := by decide +kernel
theorem dX6_hammer_58 : decode cX6_hammer 58 = .ok (.iload_n 3, 1) := by decide +kernel
theorem dX6_hammer_59 : decode cX6_hammer 59 = .ok (.ireturn, 1) := by decide +kernel
theorem dX6_up_0 : decode cX6_up 0 = .ok (.aload_n 0, 1) := by decide +kernel
theorem dX6_up_1 : decode cX6_up 1 = .ok (.getfield 10, 3) := by decide +kernel
theorem dX6_up_4 : decode cX6_up 4 = .ok (.iload_n 1, 1) := by decide +kernel
theorem dX6_up_5 : decode cX6_up 5 = .ok (.invokevirtual 82, 3) := by decide +kernel
theorem dX6_up_8 : decode cX6_up 8 = .ok (.ifCond .ne 5, 3) := by decide +kernel
theorem dX6_up_11 : decode cX6_up 11 = .ok (.iconst (-1), 1) := by decide +kernel
theorem dX6_up_12 : decode cX6_up 12 = .ok (.ireturn, 1) := by decide +kernel
theorem dX6_up_13 : decode cX6_up 13 = .ok (.aload_n 0, 1) := by decide +kernel
theorem dX6_up_14 : decode cX6_up 14 = .ok (.getfield 10, 3) := by decide +kernel
theorem dX6_up_17 : decode cX6_up 17 = .ok (.getfield 95, 3) := by decide +kernel
theorem dX6_up_20 : decode cX6_up 20 = .ok (.iload_n 1, 1) := by decide +kernel
theorem dX6_up_21 : decode cX6_up 21 = .ok (.iaload, 1) := by decide +kernel
theorem dX6_up_22 : decode cX6_up 22 = .ok (.istore_n 2, 1) := by decide +kernel
theorem dX6_up_23 : decode cX6_up 23 = .ok (.iload_n 2, 1) := by decide +kernel
theorem dX6_up_24 : decode cX6_up 24 = .ok (.bipush 30, 2) := by decide +kernel
theorem dX6_up_26 : decode cX6_up 26 = .ok (.if_icmp .ne 6, 3) := by decide +kernel
theorem dX6_up_29 : decode cX6_up 29 = .ok (.bipush (-2), 2) := by decide +kernel
theorem dX6_up_31 : decode cX6_up 31 = .ok (.ireturn, 1) := by decide +kernel
theorem dX6_up_32 : decode cX6_up 32 = .ok (.aload_n 0, 1) := by decide +kernel
theorem dX6_up_33 : decode cX6_up 33 = .ok (.getfield 22, 3) := by decide +kernel
theorem dX6_up_36 : decode cX6_up 36 = .ok (.aload_n 0, 1) := by decide +kernel
theorem dX6_up_37 : decode cX6_up 37 = .ok (.getfield 10, 3) := by decide +kernel
theorem dX6_up_40 : decode cX6_up 40 = .ok (.invokevirtual 157, 3) := by decide +kernel
theorem dX6_up_43 : decode cX6_up 43 = .ok (.aload_n 0, 1) := by decide +kernel
theorem dX6_up_44 : decode cX6_up 44 = .ok (.getfield 10, 3) := by decide +kernel
theorem dX6_up_47 : decode cX6_up 47 = .ok (.getfield 95, 3) := by decide +kernel
theorem dX6_up_50 : decode cX6_up 50 = .ok (.iload_n 1, 1) := by decide +kernel
theorem dX6_up_51 : decode cX6_up 51 = .ok (.bipush 30, 2) := by decide +kernel
theorem dX6_up_53 : decode cX6_up 53 = .ok (.iastore, 1) := by decide +kernel
theorem dX6_up_54 : decode cX6_up 54 = .ok (.iload_n 2, 1) := by decide +kernel
theorem dX6_up_55 : decode cX6_up 55 = .ok (.ireturn, 1) := by decide +kernel
theorem dX6_drift_0 : decode cX6_drift 0 = .ok (.iload_n 1, 1) := by decide +kernel
theorem dX6_drift_1 : decode cX6_drift 1 = .ok (.iconst 1, 1) := by decide +kernel
theorem dX6_drift_2 : decode cX6_drift 2 = .ok (.bipush 40, 2) := by decide +kernel
theorem dX6_drift_4 : decode cX6_drift 4 = .ok (.invokestatic 71, 3) := by decide +kernel
theorem dX6_drift_7 : decode cX6_drift 7 = .ok (.ifCond .ne 5, 3) := by decide +kernel
theorem dX6_drift_10 : decode cX6_drift 10 = .ok (.iconst (-1), 1) := by decide +kernel
theorem dX6_drift_11 : decode cX6_drift 11 = .ok (.ireturn, 1) := by decide +kernel
theorem dX6_drift_12 : decode cX6_drift 12 = .ok (.aload_n 0, 1) := by decide +kernel
theorem dX6_drift_13 : decode cX6_drift 13 = .ok (.getfield 10, 3) := by decide +kernel
theorem dX6_drift_16 : decode cX6_drift 16 = .ok (.getfield 137, 3) := by decide +kernel
theorem dX6_drift_19 : decode cX6_drift 19 = .ok (.iload_n 1, 1) := by decide +kernel
theorem dX6_drift_20 : decode cX6_drift 20 = .ok (.iadd, 1) := by decide +kernel
theorem dX6_drift_21 : decode cX6_drift 21 = .ok (.sipush 9999, 3) := by decide +kernel
theorem dX6_drift_24 : decode cX6_drift 24 = .ok (.if_icmp .le 6, 3) := by decide +kernel
theorem dX6_drift_27 : decode cX6_drift 27 = .ok (.bipush (-3), 2) := by decide +kernel
theorem dX6_drift_29 : decode cX6_drift 29 = .ok (.ireturn, 1) := by decide +kernel
theorem dX6_drift_30 : decode cX6_drift 30 = .ok (.iconst 0, 1) := by decide +kernel
theorem dX6_drift_31 : decode cX6_drift 31 = .ok (.istore_n 2, 1) := by decide +kernel
theorem dX6_drift_32 : decode cX6_drift 32 = .ok (.iload_n 2, 1) := by decide +kernel
theorem dX6_drift_33 : decode cX6_drift 33 = .ok (.iload_n 1, 1) := by decide +kernel
theorem dX6_drift_34 : decode cX6_drift 34 = .ok (.if_icmp .ge 31, 3) := by decide +kernel
theorem dX6_drift_37 : decode cX6_drift 37 = .ok (.aload_n 0, 1) := by decide +kernel
theorem dX6_drift_38 : decode cX6_drift 38 = .ok (.getfield 22, 3) := by decide +kernel
theorem dX6_drift_41 : decode cX6_drift 41 = .ok (.aload_n 0, 1) := by decide +kernel
theorem dX6_drift_42 : decode cX6_drift 42 = .ok (.getfield 10, 3) := by decide +kernel
theorem dX6_drift_45 : decode cX6_drift 45 = .ok (.invokevirtual 157, 3) := by decide +kernel
theorem dX6_drift_48 : decode cX6_drift 48 = .ok (.aload_n 0, 1) := by decide +kernel
theorem dX6_drift_49 : decode cX6_drift 49 = .ok (.getfield 10, 3) := by decide +kernel
theorem dX6_drift_52 : decode cX6_drift 52 = .ok (.aload_n 0, 1) := by decide +kernel
theorem dX6_drift_53 : decode cX6_drift 53 = .ok (.getfield 49, 3) := by decide +kernel
theorem dX6_drift_56 : decode cX6_drift 56 = .ok (.invokevirtual 164, 3) := by decide +kernel
theorem dX6_drift_59 : decode cX6_drift 59 = .ok (.iinc 2 1, 3) := by decide +kernel
theorem dX6_drift_62 : decode cX6_drift 62 = .ok (.goto (-30), 3) := by decide +kernel
theorem dX6_drift_65 : decode cX6_drift 65 = .ok (.aload_n 0, 1) := by decide +kernel
theorem dX6_drift_66 : decode cX6_drift 66 = .ok (.getfield 10, 3) := by decide +kernel
theorem dX6_drift_69 : decode cX6_drift 69 = .ok (.invokevirtual 144, 3) := by decide +kernel
theorem dX6_drift_72 : decode cX6_drift 72 = .ok (.ireturn, 1) := by decide +kernel
theorem dX6_undo_0 : decode cX6_undo 0 = .ok (.aload_n 0, 1) := by decide +kernel
theorem dX6_undo_1 : decode cX6_undo 1 = .ok (.getfield 22, 3) := by decide +kernel
theorem dX6_undo_4 : decode cX6_undo 4 = .ok (.aload_n 0, 1) := by decide +kernel
theorem dX6_undo_5 : decode cX6_undo 5 = .ok (.getfield 10, 3) := by decide +kernel
theorem dX6_undo_8 : decode cX6_undo 8 = .ok (.invokevirtual 168, 3) := by decide +kernel
theorem dX6_undo_11 : decode cX6_undo 11 = .ok (.ifCond .eq 13, 3) := by decide +kernel
theorem dX6_undo_14 : decode cX6_undo 14 = .ok (.aload_n 0, 1) := by decide +kernel
theorem dX6_undo_15 : decode cX6_undo 15 = .ok (.getfield 22, 3) := by decide +kernel
theorem dX6_undo_18 : decode cX6_undo 18 = .ok (.getfield 154, 3) := by decide +kernel
theorem dX6_undo_21 : decode cX6_undo 21 = .ok (.goto 5, 3) := by decide +kernel
theorem dX6_undo_24 : decode cX6_undo 24 = .ok (.bipush (-4), 2) := by decide +kernel
theorem dX6_undo_26 : decode cX6_undo 26 = .ok (.ireturn, 1) := by decide +kernel
theorem dX6_seed_0 : decode cX6_seed 0 = .ok (.iload_n 1, 1) := by decide +kernel
theorem dX6_seed_1 : decode cX6_seed 1 = .ok (.ifCond .ge 5, 3) := by decide +kernel
theorem dX6_seed_4 : decode cX6_seed 4 = .ok (.iconst (-1), 1) := by decide +kernel
theorem dX6_seed_5 : decode cX6_seed 5 = .ok (.ireturn, 1) := by decide +kernel
theorem dX6_seed_6 : decode cX6_seed 6 = .ok (.aload_n 0, 1) := by decide +kernel
theorem dX6_seed_7 : decode cX6_seed 7 = .ok (.getfield 10, 3) := by decide +kernel
theorem dX6_seed_10 : decode cX6_seed 10 = .ok (.getfield 127, 3) := by decide +kernel
theorem dX6_seed_13 : decode cX6_seed 13 = .ok (.istore_n 2, 1) := by decide +kernel
theorem dX6_seed_14 : decode cX6_seed 14 = .ok (.aload_n 0, 1) := by decide +kernel
theorem dX6_seed_15 : decode cX6_seed 15 = .ok (.getfield 10, 3) := by decide +kernel
theorem dX6_seed_18 : decode cX6_seed 18 = .ok (.iload_n 1, 1) := by decide +kernel
theorem dX6_seed_19 : decode cX6_seed 19 = .ok (.putfield 127, 3) := by decide +kernel
theorem dX6_seed_22 : decode cX6_seed 22 = .ok (.iload_n 2, 1) := by decide +kernel
theorem dX6_seed_23 : decode cX6_seed 23 = .ok (.ireturn, 1) := by decide +kernel
theorem dX6_speed_0 : decode cX6_speed 0 = .ok (.aload_n 0, 1) := by decide +kernel
theorem dX6_speed_1 : decode cX6_speed 1 = .ok (.getfield 10, 3) := by decide +kernel
theorem dX6_speed_4 : decode cX6_speed 4 = .ok (.iload_n 1, 1) := by decide +kernel
theorem dX6_speed_5 : decode cX6_speed 5 = .ok (.invokevirtual 82, 3) := by decide +kernel
theorem dX6_speed_8 : decode cX6_speed 8 = .ok (.ifCond .eq 10, 3) := by decide +kernel
theorem dX6_speed_11 : decode cX6_speed 11 = .ok (.iload_n 2, 1) := by decide +kernel
theorem dX6_speed_12 : decode cX6_speed 12 = .ok (.invokestatic 98, 3) := by decide +kernel
theorem dX6_speed_15 : decode cX6_speed 15 = .ok (.ifCond .ne 5, 3) := by decide +kernel
theorem dX6_speed_18 : decode cX6_speed 18 = .ok (.iconst (-1), 1) := by decide +kernel
theorem dX6_speed_19 : decode cX6_speed 19 = .ok (.ireturn, 1) := by decide +kernel
theorem dX6_speed_20 : decode cX6_speed 20 = .ok (.aload_n 0, 1) := by decide +kernel
theorem dX6_speed_21 : decode cX6_speed 21 = .ok (.getfield 10, 3) := by decide +kernel
theorem dX6_speed_24 : decode cX6_speed 24 = .ok (.iload_n 1, 1) := by decide +kernel
theorem dX6_speed_25 : decode cX6_speed 25 = .ok (.aload_n 0, 1) := by decide +kernel
theorem dX6_speed_26 : decode cX6_speed 26 = .ok (.getfield 49, 3) := by decide +kernel
theorem dX6_speed_29 : decode cX6_speed 29 = .ok (.invokevirtual 171, 3) := by decide +kernel
theorem dX6_speed_32 : decode cX6_speed 32 = .ok (.pop, 1) := by decide +kernel
theorem dX6_speed_33 : decode cX6_speed 33 = .ok (.aload_n 0, 1) := by decide +kernel
theorem dX6_speed_34 : decode cX6_speed 34 = .ok (.getfield 49, 3) := by decide +kernel
theorem dX6_speed_37 : decode cX6_speed 37 = .ok (.iload_n 2, 1) := by decide +kernel
theorem dX6_speed_38 : decode cX6_speed 38 = .ok (.iaload, 1) := by decide +kernel
theorem dX6_speed_39 : decode cX6_speed 39 = .ok (.ireturn, 1) := by decide +kernel
theorem dX6_ends_0 : decode cX6_ends 0 = .ok (.aload_n 0, 1) := by decide +kernel
theorem dX6_ends_1 : decode cX6_ends 1 = .ok (.getfield 10, 3) := by decide +kernel
theorem dX6_ends_4 : decode cX6_ends 4 = .ok (.iload_n 1, 1) := by decide +kernel
theorem dX6_ends_5 : decode cX6_ends 5 = .ok (.invokevirtual 82, 3) := by decide +kernel
theorem dX6_ends_8 : decode cX6_ends 8 = .ok (.ifCond .eq 18, 3) := by decide +kernel
theorem dX6_ends_11 : decode cX6_ends 11 = .ok (.aload_n 0, 1) := by decide +kernel
theorem dX6_ends_12 : decode cX6_ends 12 = .ok (.getfield 10, 3) := by decide +kernel
theorem dX6_ends_15 : decode cX6_ends 15 = .ok (.iload_n 1, 1) := by decide +kernel
theorem dX6_ends_16 : decode cX6_ends 16 = .ok (.aload_n 0, 1) := by decide +kernel
theorem dX6_ends_17 : decode cX6_ends 17 = .ok (.getfield 49, 3) := by decide +kernel
theorem dX6_ends_20 : decode cX6_ends 20 = .ok (.invokevirtual 171, 3) := by decide +kernel
theorem dX6_ends_23 : decode cX6_ends 23 = .ok (.goto 4, 3) := by decide +kernel
theorem dX6_ends_26 : decode cX6_ends 26 = .ok (.iconst (-1), 1) := by decide +kernel
theorem dX6_ends_27 : decode cX6_ends 27 = .ok (.ireturn, 1) := by decide +kernel
theorem dX6_fast_0 : decode cX6_fast 0 = .ok (.aload_n 0, 1) := by decide +kernel
theorem dX6_fast_1 : decode cX6_fast 1 = .ok (.getfield 10, 3) := by decide +kernel
theorem dX6_fast_4 : decode cX6_fast 4 = .ok (.iload_n 1, 1) := by decide +kernel
theorem dX6_fast_5 : decode cX6_fast 5 = .ok (.invokevirtual 82, 3) := by decide +kernel
theorem dX6_fast_8 : decode cX6_fast 8 = .ok (.ifCond .eq 12, 3) := by decide +kernel
theorem dX6_fast_11 : decode cX6_fast 11 = .ok (.iload_n 2, 1) := by decide +kernel
theorem dX6_fast_12 : decode cX6_fast 12 = .ok (.iconst 0, 1) := by decide +kernel
theorem dX6_fast_13 : decode cX6_fast 13 = .ok (.iconst 1, 1) := by decide +kernel
theorem dX6_fast_14 : decode cX6_fast 14 = .ok (.invokestatic 71, 3) := by decide +kernel
theorem dX6_fast_17 : decode cX6_fast 17 = .ok (.ifCond .ne 5, 3) := by decide +kernel
theorem dX6_fast_20 : decode cX6_fast 20 = .ok (.iconst (-1), 1) := by decide +kernel
theorem dX6_fast_21 : decode cX6_fast 21 = .ok (.ireturn, 1) := by decide +kernel
theorem dX6_fast_22 : decode cX6_fast 22 = .ok (.aload_n 0, 1) := by decide +kernel
theorem dX6_fast_23 : decode cX6_fast 23 = .ok (.getfield 10, 3) := by decide +kernel
theorem dX6_fast_26 : decode cX6_fast 26 = .ok (.iload_n 1, 1) := by decide +kernel
theorem dX6_fast_27 : decode cX6_fast 27 = .ok (.aload_n 0, 1) := by decide +kernel
theorem dX6_fast_28 : decode cX6_fast 28 = .ok (.getfield 49, 3) := by decide +kernel
theorem dX6_fast_31 : decode cX6_fast 31 = .ok (.invokevirtual 171, 3) := by decide +kernel
theorem dX6_fast_34 : decode cX6_fast 34 = .ok (.pop, 1) := by decide +kernel
theorem dX6_fast_35 : decode cX6_fast 35 = .ok (.aload_n 0, 1) := by decide +kernel
theorem dX6_fast_36 : decode cX6_fast 36 = .ok (.getfield 49, 3) := by decide +kernel
theorem dX6_fast_39 : decode cX6_fast 39 = .ok (.invokestatic 174, 3) := by decide +kernel
theorem dX6_fast_42 : decode cX6_fast 42 = .ok (.istore_n 3, 1) := by decide +kernel
theorem dX6_fast_43 : decode cX6_fast 43 = .ok (.aload_n 0, 1) := by decide +kernel
theorem dX6_fast_44 : decode cX6_fast 44 = .ok (.getfield 49, 3) := by decide +kernel
theorem dX6_fast_47 : decode cX6_fast 47 = .ok (.iload_n 3, 1) := by decide +kernel
theorem dX6_fast_48 : decode cX6_fast 48 = .ok (.iaload, 1) := by decide +kernel
theorem dX6_fast_49 : decode cX6_fast 49 = .ok (.bipush (-4), 2) := by decide +kernel
theorem dX6_fast_51 : decode cX6_fast 51 = .ok (.if_icmp .ne 6, 3) := by decide +kernel
theorem dX6_fast_54 : decode cX6_fast 54 = .ok (.bipush (-4), 2) := by decide +kernel
theorem dX6_fast_56 : decode cX6_fast 56 = .ok (.ireturn, 1) := by decide +kernel
theorem dX6_fast_57 : decode cX6_fast 57 = .ok (.iload_n 2, 1) := by decide +kernel
theorem dX6_fast_58 : decode cX6_fast 58 = .ok (.ifCond .ne 7, 3) := by decide +kernel
theorem dX6_fast_61 : decode cX6_fast 61 = .ok (.iload_n 3, 1) := by decide +kernel
theorem dX6_fast_62 : decode cX6_fast 62 = .ok (.goto 9, 3) := by decide +kernel
theorem dX6_fast_65 : decode cX6_fast 65 = .ok (.aload_n 0, 1) := by decide +kernel
theorem dX6_fast_66 : decode cX6_fast 66 = .ok (.getfield 49, 3) := by decide +kernel
theorem dX6_fast_69 : decode cX6_fast 69 = .ok (.iload_n 3, 1) := by decide +kernel
theorem dX6_fast_70 : decode cX6_fast 70 = .ok (.iaload, 1) := by decide +kernel
theorem dX6_fast_71 : decode cX6_fast 71 = .ok (.ireturn, 1) := by decide +kernel
theorem dX6_who_0 : decode cX6_who 0 = .ok (.iload_n 1, 1) := by decide +kernel
theorem dX6_who_1 : decode cX6_who 1 = .ok (.invokestatic 177, 3) := by decide +kernel
theorem dX6_who_4 : decode cX6_who 4 = .ok (.ifCond .ne 5, 3) := by decide +kernel
theorem dX6_who_7 : decode cX6_who 7 = .ok (.iconst (-1), 1) := by decide +kernel
theorem dX6_who_8 : decode cX6_who 8 = .ok (.ireturn, 1) := by decide +kernel
theorem dX6_who_9 : decode cX6_who 9 = .ok (.iconst 0, 1) := by decide +kernel
theorem dX6_who_10 : decode cX6_who 10 = .ok (.istore_n 2, 1) := by decide +kernel
theorem dX6_who_11 : decode cX6_who 11 = .ok (.iconst 0, 1) := by decide +kernel
theorem dX6_who_12 : decode cX6_who 12 = .ok (.istore_n 3, 1) := by decide +kernel
theorem dX6_who_13 : decode cX6_who 13 = .ok (.iload_n 3, 1) := by decide +kernel
theorem dX6_who_14 : decode cX6_who 14 = .ok (.aload_n 0, 1) := by decide +kernel
theorem dX6_who_15 : decode cX6_who 15 = .ok (.getfield 10, 3) := by decide +kernel
theorem dX6_who_18 : decode cX6_who 18 = .ok (.getfield 134, 3) := by decide +kernel
theorem dX6_who_21 : decode cX6_who 21 = .ok (.if_icmp .ge 31, 3) := by decide +kernel
theorem dX6_who_24 : decode cX6_who 24 = .ok (.aload_n 0, 1) := by decide +kernel
theorem dX6_who_25 : decode cX6_who 25 = .ok (.getfield 10, 3) := by decide +kernel
theorem dX6_who_28 : decode cX6_who 28 = .ok (.iload_n 3, 1) := by decide +kernel
theorem dX6_who_29 : decode cX6_who 29 = .ok (.aload_n 0, 1) := by decide +kernel
theorem dX6_who_30 : decode cX6_who 30 = .ok (.getfield 49, 3) := by decide +kernel
theorem dX6_who_33 : decode cX6_who 33 = .ok (.invokevirtual 171, 3) := by decide +kernel
theorem dX6_who_36 : decode cX6_who 36 = .ok (.iload_n 1, 1) := by decide +kernel
theorem dX6_who_37 : decode cX6_who 37 = .ok (.if_icmp .ne 9, 3) := by decide +kernel
theorem dX6_who_40 : decode cX6_who 40 = .ok (.iload_n 2, 1) := by decide +kernel
theorem dX6_who_41 : decode cX6_who 41 = .ok (.iconst 1, 1) := by decide +kernel
theorem dX6_who_42 : decode cX6_who 42 = .ok (.iload_n 3, 1) := by decide +kernel
theorem dX6_who_43 : decode cX6_who 43 = .ok (.ishl, 1) := by decide +kernel
theorem dX6_who_44 : decode cX6_who 44 = .ok (.ior, 1) := by decide +kernel
theorem dX6_who_45 : decode cX6_who 45 = .ok (.istore_n 2, 1) := by decide +kernel
theorem dX6_who_46 : decode cX6_who 46 = .ok (.iinc 3 1, 3) := by decide +kernel
theorem dX6_who_49 : decode cX6_who 49 = .ok (.goto (-36), 3) := by decide +kernel
theorem dX6_who_52 : decode cX6_who 52 = .ok (.iload_n 2, 1) := by decide +kernel
theorem dX6_who_53 : decode cX6_who 53 = .ok (.ireturn, 1) := by decide +kernel
theorem dX6_waxes_0 : decode cX6_waxes 0 = .ok (.aload_n 0, 1) := by decide +kernel
theorem dX6_waxes_1 : decode cX6_waxes 1 = .ok (.getfield 10, 3) := by decide +kernel
theorem dX6_waxes_4 : decode cX6_waxes 4 = .ok (.iload_n 1, 1) := by decide +kernel
theorem dX6_waxes_5 : decode cX6_waxes 5 = .ok (.invokevirtual 82, 3) := by decide +kernel
theorem dX6_waxes_8 : decode cX6_waxes 8 = .ok (.ifCond .eq 10, 3) := by decide +kernel
theorem dX6_waxes_11 : decode cX6_waxes 11 = .ok (.iload_n 2, 1) := by decide +kernel
theorem dX6_waxes_12 : decode cX6_waxes 12 = .ok (.invokestatic 177, 3) := by decide +kernel
theorem dX6_waxes_15 : decode cX6_waxes 15 = .ok (.ifCond .ne 5, 3) := by decide +kernel
theorem dX6_waxes_18 : decode cX6_waxes 18 = .ok (.iconst (-1), 1) := by decide +kernel
theorem dX6_waxes_19 : decode cX6_waxes 19 = .ok (.ireturn, 1) := by decide +kernel
theorem dX6_waxes_20 : decode cX6_waxes 20 = .ok (.aload_n 0, 1) := by decide +kernel
theorem dX6_waxes_21 : decode cX6_waxes 21 = .ok (.getfield 10, 3) := by decide +kernel
theorem dX6_waxes_24 : decode cX6_waxes 24 = .ok (.iload_n 1, 1) := by decide +kernel
theorem dX6_waxes_25 : decode cX6_waxes 25 = .ok (.aload_n 0, 1) := by decide +kernel
theorem dX6_waxes_26 : decode cX6_waxes 26 = .ok (.getfield 49, 3) := by decide +kernel
theorem dX6_waxes_29 : decode cX6_waxes 29 = .ok (.invokevirtual 171, 3) := by decide +kernel
theorem dX6_waxes_32 : decode cX6_waxes 32 = .ok (.iload_n 2, 1) := by decide +kernel
theorem dX6_waxes_33 : decode cX6_waxes 33 = .ok (.if_icmp .ne 6, 3) := by decide +kernel
theorem dX6_waxes_36 : decode cX6_waxes 36 = .ok (.bipush 100, 2) := by decide +kernel
theorem dX6_waxes_38 : decode cX6_waxes 38 = .ok (.ireturn, 1) := by decide +kernel
theorem dX6_waxes_39 : decode cX6_waxes 39 = .ok (.aload_n 0, 1) := by decide +kernel
theorem dX6_waxes_40 : decode cX6_waxes 40 = .ok (.getfield 16, 3) := by decide +kernel
theorem dX6_waxes_43 : decode cX6_waxes 43 = .ok (.aload_n 0, 1) := by decide +kernel
theorem dX6_waxes_44 : decode cX6_waxes 44 = .ok (.getfield 10, 3) := by decide +kernel
theorem dX6_waxes_47 : decode cX6_waxes 47 = .ok (.invokevirtual 130, 3) := by decide +kernel
theorem dX6_waxes_50 : decode cX6_waxes 50 = .ok (.iconst 0, 1) := by decide +kernel
theorem dX6_waxes_51 : decode cX6_waxes 51 = .ok (.istore_n 3, 1) := by decide +kernel
theorem dX6_waxes_52 : decode cX6_waxes 52 = .ok (.iload_n 3, 1) := by decide +kernel
theorem dX6_waxes_53 : decode cX6_waxes 53 = .ok (.bipush 10, 2) := by decide +kernel
theorem dX6_waxes_55 : decode cX6_waxes 55 = .ok (.if_icmp .ge 33, 3) := by decide +kernel
theorem dX6_waxes_58 : decode cX6_waxes 58 = .ok (.aload_n 0, 1) := by decide +kernel
theorem dX6_waxes_59 : decode cX6_waxes 59 = .ok (.iload_n 1, 1) := by decide +kernel
theorem dX6_waxes_60 : decode cX6_waxes 60 = .ok (.iload_n 3, 1) := by decide +kernel
theorem dX6_waxes_61 : decode cX6_waxes 61 = .ok (.iload_n 2, 1) := by decide +kernel
theorem dX6_waxes_62 : decode cX6_waxes 62 = .ok (.invokevirtual 180, 3) := by decide +kernel
theorem dX6_waxes_65 : decode cX6_waxes 65 = .ok (.istore 4, 2) := by decide +kernel
theorem dX6_waxes_67 : decode cX6_waxes 67 = .ok (.iload 4, 2) := by decide +kernel
theorem dX6_waxes_69 : decode cX6_waxes 69 = .ok (.bipush (-4), 2) := by decide +kernel
theorem dX6_waxes_71 : decode cX6_waxes 71 = .ok (.if_icmp .eq 11, 3) := by decide +kernel
theorem dX6_waxes_74 : decode cX6_waxes 74 = .ok (.bipush 10, 2) := by decide +kernel
theorem dX6_waxes_76 : decode cX6_waxes 76 = .ok (.iload_n 3, 1) := by decide +kernel
theorem dX6_waxes_77 : decode cX6_waxes 77 = .ok (.imul, 1) := by decide +kernel
theorem dX6_waxes_78 : decode cX6_waxes 78 = .ok (.iload 4, 2) := by decide +kernel
theorem dX6_waxes_80 : decode cX6_waxes 80 = .ok (.iadd, 1) := by decide +kernel
theorem dX6_waxes_81 : decode cX6_waxes 81 = .ok (.ireturn, 1) := by decide +kernel
theorem dX6_waxes_82 : decode cX6_waxes 82 = .ok (.iinc 3 1, 3) := by decide +kernel
theorem dX6_waxes_85 : decode cX6_waxes 85 = .ok (.goto (-33), 3) := by decide +kernel
theorem dX6_waxes_88 : decode cX6_waxes 88 = .ok (.bipush (-4), 2) := by decide +kernel
theorem dX6_waxes_90 : decode cX6_waxes 90 = .ok (.ireturn, 1) := by decide +kernel
theorem dX6_firstWaxFor_0 : decode cX6_firstWaxFor 0 = .ok (.aload_n 0, 1) := by decide +kernel
theorem dX6_firstWaxFor_1 : decode cX6_firstWaxFor 1 = .ok (.getfield 16, 3) := by decide +kernel
theorem dX6_firstWaxFor_4 : decode cX6_firstWaxFor 4 = .ok (.getfield 101, 3) := by decide +kernel
theorem dX6_firstWaxFor_7 : decode cX6_firstWaxFor 7 = .ok (.iload_n 2, 1) := by decide +kernel
theorem dX6_firstWaxFor_8 : decode cX6_firstWaxFor 8 = .ok (.iaload, 1) := by decide +kernel
theorem dX6_firstWaxFor_9 : decode cX6_firstWaxFor 9 = .ok (.istore 4, 2) := by decide +kernel
theorem dX6_firstWaxFor_11 : decode cX6_firstWaxFor 11 = .ok (.bipush (-4), 2) := by decide +kernel
theorem dX6_firstWaxFor_13 : decode cX6_firstWaxFor 13 = .ok (.istore 5, 2) := by decide +kernel
theorem dX6_firstWaxFor_15 : decode cX6_firstWaxFor 15 = .ok (.iconst 0, 1) := by decide +kernel
theorem dX6_firstWaxFor_16 : decode cX6_firstWaxFor 16 = .ok (.istore 6, 2) := by decide +kernel
theorem dX6_firstWaxFor_18 : decode cX6_firstWaxFor 18 = .ok (.iload 6, 2) := by decide +kernel
theorem dX6_firstWaxFor_20 : decode cX6_firstWaxFor 20 = .ok (.bipush 9, 2) := by decide +kernel
theorem dX6_firstWaxFor_22 : decode cX6_firstWaxFor 22 = .ok (.if_icmp .gt 47, 3) := by decide +kernel
theorem dX6_firstWaxFor_25 : decode cX6_firstWaxFor 25 = .ok (.iload 5, 2) := by decide +kernel
theorem dX6_firstWaxFor_27 : decode cX6_firstWaxFor 27 = .ok (.bipush (-4), 2) := by decide +kernel
theorem dX6_firstWaxFor_29 : decode cX6_firstWaxFor 29 = .ok (.if_icmp .ne 40, 3) := by decide +kernel
theorem dX6_firstWaxFor_32 : decode cX6_firstWaxFor 32 = .ok (.aload_n 0, 1) := by decide +kernel
theorem dX6_firstWaxFor_33 : decode cX6_firstWaxFor 33 = .ok (.getfield 16, 3) := by decide +kernel
theorem dX6_firstWaxFor_36 : decode cX6_firstWaxFor 36 = .ok (.getfield 101, 3) := by decide +kernel
theorem dX6_firstWaxFor_39 : decode cX6_firstWaxFor 39 = .ok (.iload_n 2, 1) := by decide +kernel
theorem dX6_firstWaxFor_40 : decode cX6_firstWaxFor 40 = .ok (.iload 6, 2) := by decide +kernel
theorem dX6_firstWaxFor_42 : decode cX6_firstWaxFor 42 = .ok (.iastore, 1) := by decide +kernel
theorem dX6_firstWaxFor_43 : decode cX6_firstWaxFor 43 = .ok (.aload_n 0, 1) := by decide +kernel
theorem dX6_firstWaxFor_44 : decode cX6_firstWaxFor 44 = .ok (.getfield 16, 3) := by decide +kernel
theorem dX6_firstWaxFor_47 : decode cX6_firstWaxFor 47 = .ok (.iload_n 1, 1) := by decide +kernel
theorem dX6_firstWaxFor_48 : decode cX6_firstWaxFor 48 = .ok (.aload_n 0, 1) := by decide +kernel
theorem dX6_firstWaxFor_49 : decode cX6_firstWaxFor 49 = .ok (.getfield 49, 3) := by decide +kernel
theorem dX6_firstWaxFor_52 : decode cX6_firstWaxFor 52 = .ok (.invokevirtual 171, 3) := by decide +kernel
theorem dX6_firstWaxFor_55 : decode cX6_firstWaxFor 55 = .ok (.iload_n 3, 1) := by decide +kernel
theorem dX6_firstWaxFor_56 : decode cX6_firstWaxFor 56 = .ok (.if_icmp .ne 7, 3) := by decide +kernel
theorem dX6_firstWaxFor_59 : decode cX6_firstWaxFor 59 = .ok (.iload 6, 2) := by decide +kernel
theorem dX6_firstWaxFor_61 : decode cX6_firstWaxFor 61 = .ok (.istore 5, 2) := by decide +kernel
theorem dX6_firstWaxFor_63 : decode cX6_firstWaxFor 63 = .ok (.iinc 6 1, 3) := by decide +kernel
theorem dX6_firstWaxFor_66 : decode cX6_firstWaxFor 66 = .ok (.goto (-48), 3) := by decide +kernel
theorem dX6_firstWaxFor_69 : decode cX6_firstWaxFor 69 = .ok (.aload_n 0, 1) := by decide +kernel
theorem dX6_firstWaxFor_70 : decode cX6_firstWaxFor 70 = .ok (.getfield 16, 3) := by decide +kernel
theorem dX6_firstWaxFor_73 : decode cX6_firstWaxFor 73 = .ok (.getfield 101, 3) := by decide +kernel
theorem dX6_firstWaxFor_76 : decode cX6_firstWaxFor 76 = .ok (.iload_n 2, 1) := by decide +kernel
theorem dX6_firstWaxFor_77 : decode cX6_firstWaxFor 77 = .ok (.iload 4, 2) := by decide +kernel
theorem dX6_firstWaxFor_79 : decode cX6_firstWaxFor 79 = .ok (.iastore, 1) := by decide +kernel
theorem dX6_firstWaxFor_80 : decode cX6_firstWaxFor 80 = .ok (.iload 5, 2) := by decide +kernel
theorem dX6_firstWaxFor_82 : decode cX6_firstWaxFor 82 = .ok (.ireturn, 1) := by decide +kernel
theorem dX6_may_0 : decode cX6_may 0 = .ok (.aload_n 0, 1) := by decide +kernel
theorem dX6_may_1 : decode cX6_may 1 = .ok (.getfield 10, 3) := by decide +kernel
theorem dX6_may_4 : decode cX6_may 4 = .ok (.iload_n 1, 1) := by decide +kernel
theorem dX6_may_5 : decode cX6_may 5 = .ok (.invokevirtual 82, 3) := by decide +kernel
theorem dX6_may_8 : decode cX6_may 8 = .ok (.ifCond .eq 10, 3) := by decide +kernel
theorem dX6_may_11 : decode cX6_may 11 = .ok (.iload_n 2, 1) := by decide +kernel
theorem dX6_may_12 : decode cX6_may 12 = .ok (.invokestatic 98, 3) := by decide +kernel
theorem dX6_may_15 : decode cX6_may 15 = .ok (.ifCond .ne 5, 3) := by decide +kernel
theorem dX6_may_18 : decode cX6_may 18 = .ok (.iconst (-1), 1) := by decide +kernel
theorem dX6_may_19 : decode cX6_may 19 = .ok (.ireturn, 1) := by decide +kernel
theorem dX6_may_20 : decode cX6_may 20 = .ok (.aload_n 0, 1) := by decide +kernel
theorem dX6_may_21 : decode cX6_may 21 = .ok (.getfield 16, 3) := by decide +kernel
theorem dX6_may_24 : decode cX6_may 24 = .ok (.aload_n 0, 1) := by decide +kernel
theorem dX6_may_25 : decode cX6_may 25 = .ok (.getfield 10, 3) := by decide +kernel
theorem dX6_may_28 : decode cX6_may 28 = .ok (.invokevirtual 130, 3) := by decide +kernel
theorem dX6_may_31 : decode cX6_may 31 = .ok (.iconst 0, 1) := by decide +kernel
theorem dX6_may_32 : decode cX6_may 32 = .ok (.istore_n 3, 1) := by decide +kernel
theorem dX6_may_33 : decode cX6_may 33 = .ok (.iconst 0, 1) := by decide +kernel
theorem dX6_may_34 : decode cX6_may 34 = .ok (.istore 4, 2) := by decide +kernel
theorem dX6_may_36 : decode cX6_may 36 = .ok (.iload 4, 2) := by decide +kernel
theorem dX6_may_38 : decode cX6_may 38 = .ok (.bipush 9, 2) := by decide +kernel
theorem dX6_may_40 : decode cX6_may 40 = .ok (.if_icmp .gt 49, 3) := by decide +kernel
theorem dX6_may_43 : decode cX6_may 43 = .ok (.aload_n 0, 1) := by decide +kernel
theorem dX6_may_44 : decode cX6_may 44 = .ok (.getfield 16, 3) := by decide +kernel
theorem dX6_may_47 : decode cX6_may 47 = .ok (.getfield 101, 3) := by decide +kernel
theorem dX6_may_50 : decode cX6_may 50 = .ok (.iload_n 2, 1) := by decide +kernel
theorem dX6_may_51 : decode cX6_may 51 = .ok (.iload 4, 2) := by decide +kernel
theorem dX6_may_53 : decode cX6_may 53 = .ok (.iastore, 1) := by decide +kernel
theorem dX6_may_54 : decode cX6_may 54 = .ok (.aload_n 0, 1) := by decide +kernel
theorem dX6_may_55 : decode cX6_may 55 = .ok (.getfield 16, 3) := by decide +kernel
theorem dX6_may_58 : decode cX6_may 58 = .ok (.iload_n 1, 1) := by decide +kernel
theorem dX6_may_59 : decode cX6_may 59 = .ok (.aload_n 0, 1) := by decide +kernel
theorem dX6_may_60 : decode cX6_may 60 = .ok (.getfield 49, 3) := by decide +kernel
theorem dX6_may_63 : decode cX6_may 63 = .ok (.invokevirtual 171, 3) := by decide +kernel
theorem dX6_may_66 : decode cX6_may 66 = .ok (.istore 5, 2) := by decide +kernel
theorem dX6_may_68 : decode cX6_may 68 = .ok (.iload 5, 2) := by decide +kernel
theorem dX6_may_70 : decode cX6_may 70 = .ok (.invokestatic 177, 3) := by decide +kernel
theorem dX6_may_73 : decode cX6_may 73 = .ok (.ifCond .eq 10, 3) := by decide +kernel
theorem dX6_may_76 : decode cX6_may 76 = .ok (.iload_n 3, 1) := by decide +kernel
theorem dX6_may_77 : decode cX6_may 77 = .ok (.iconst 1, 1) := by decide +kernel
theorem dX6_may_78 : decode cX6_may 78 = .ok (.iload 5, 2) := by decide +kernel
theorem dX6_may_80 : decode cX6_may 80 = .ok (.ishl, 1) := by decide +kernel
theorem dX6_may_81 : decode cX6_may 81 = .ok (.ior, 1) := by decide +kernel
theorem dX6_may_82 : decode cX6_may 82 = .ok (.istore_n 3, 1) := by decide +kernel
theorem dX6_may_83 : decode cX6_may 83 = .ok (.iinc 4 1, 3) := by decide +kernel
theorem dX6_may_86 : decode cX6_may 86 = .ok (.goto (-50), 3) := by decide +kernel
theorem dX6_may_89 : decode cX6_may 89 = .ok (.iload_n 3, 1) := by decide +kernel
theorem dX6_may_90 : decode cX6_may 90 = .ok (.ireturn, 1) := by decide +kernel
theorem dX6_weight_0 : decode cX6_weight 0 = .ok (.aload_n 0, 1) := by decide +kernel
theorem dX6_weight_1 : decode cX6_weight 1 = .ok (.getfield 10, 3) := by decide +kernel
theorem dX6_weight_4 : decode cX6_weight 4 = .ok (.iload_n 1, 1) := by decide +kernel
theorem dX6_weight_5 : decode cX6_weight 5 = .ok (.invokevirtual 82, 3) := by decide +kernel
theorem dX6_weight_8 : decode cX6_weight 8 = .ok (.ifCond .ne 5, 3) := by decide +kernel
theorem dX6_weight_11 : decode cX6_weight 11 = .ok (.iconst (-1), 1) := by decide +kernel
theorem dX6_weight_12 : decode cX6_weight 12 = .ok (.ireturn, 1) := by decide +kernel
theorem dX6_weight_13 : decode cX6_weight 13 = .ok (.aload_n 0, 1) := by decide +kernel
theorem dX6_weight_14 : decode cX6_weight 14 = .ok (.getfield 16, 3) := by decide +kernel
theorem dX6_weight_17 : decode cX6_weight 17 = .ok (.aload_n 0, 1) := by decide +kernel
theorem dX6_weight_18 : decode cX6_weight 18 = .ok (.getfield 10, 3) := by decide +kernel
theorem dX6_weight_21 : decode cX6_weight 21 = .ok (.invokevirtual 130, 3) := by decide +kernel
theorem dX6_weight_24 : decode cX6_weight 24 = .ok (.iconst 1, 1) := by decide +kernel
theorem dX6_weight_25 : decode cX6_weight 25 = .ok (.istore_n 2, 1) := by decide +kernel
theorem dX6_weight_26 : decode cX6_weight 26 = .ok (.iload_n 2, 1) := by decide +kernel
theorem dX6_weight_27 : decode cX6_weight 27 = .ok (.bipush 20, 2) := by decide +kernel
theorem dX6_weight_29 : decode cX6_weight 29 = .ok (.if_icmp .gt 39, 3) := by decide +kernel
theorem dX6_weight_32 : decode cX6_weight 32 = .ok (.aload_n 0, 1) := by decide +kernel
theorem dX6_weight_33 : decode cX6_weight 33 = .ok (.getfield 16, 3) := by decide +kernel
theorem dX6_weight_36 : decode cX6_weight 36 = .ok (.getfield 92, 3) := by decide +kernel
theorem dX6_weight_39 : decode cX6_weight 39 = .ok (.iload_n 1, 1) := by decide +kernel
theorem dX6_weight_40 : decode cX6_weight 40 = .ok (.iload_n 2, 1) := by decide +kernel
theorem dX6_weight_41 : decode cX6_weight 41 = .ok (.iastore, 1) := by decide +kernel
theorem dX6_weight_42 : decode cX6_weight 42 = .ok (.aload_n 0, 1) := by decide +kernel
theorem dX6_weight_43 : decode cX6_weight 43 = .ok (.getfield 16, 3) := by decide +kernel
theorem dX6_weight_46 : decode cX6_weight 46 = .ok (.iload_n 1, 1) := by decide +kernel
theorem dX6_weight_47 : decode cX6_weight 47 = .ok (.aload_n 0, 1) := by decide +kernel
end
section
theorem dX6_weight_48 : decode cX6_weight 48 = .ok (.getfield 49, 3) := by decide +kernel
theorem dX6_weight_51 : decode cX6_weight 51 = .ok (.invokevirtual 171, 3) := by decide +kernel
theorem dX6_weight_54 : decode cX6_weight 54 = .ok (.invokestatic 177, 3) := by decide +kernel
theorem dX6_weight_57 : decode cX6_weight 57 = .ok (.ifCond .eq 5, 3) := by decide +kernel
theorem dX6_weight_60 : decode cX6_weight 60 = .ok (.iload_n 2, 1) := by decide +kernel
theorem dX6_weight_61 : decode cX6_weight 61 = .ok (.ireturn, 1) := by decide +kernel
theorem dX6_weight_62 : decode cX6_weight 62 = .ok (.iinc 2 1, 3) := by decide +kernel
theorem dX6_weight_65 : decode cX6_weight 65 = .ok (.goto (-39), 3) := by decide +kernel
theorem dX6_weight_68 : decode cX6_weight 68 = .ok (.bipush (-4), 2) := by decide +kernel
theorem dX6_weight_70 : decode cX6_weight 70 = .ok (.ireturn, 1) := by decide +kernel
theorem dX6_bump_0 : decode cX6_bump 0 = .ok (.iload_n 1, 1) := by decide +kernel
theorem dX6_bump_1 : decode cX6_bump 1 = .ok (.iconst 0, 1) := by decide +kernel
theorem dX6_bump_2 : decode cX6_bump 2 = .ok (.iconst 1, 1) := by decide +kernel
theorem dX6_bump_3 : decode cX6_bump 3 = .ok (.invokestatic 71, 3) := by decide +kernel
theorem dX6_bump_6 : decode cX6_bump 6 = .ok (.ifCond .ne 5, 3) := by decide +kernel
theorem dX6_bump_9 : decode cX6_bump 9 = .ok (.iconst (-1), 1) := by decide +kernel
theorem dX6_bump_10 : decode cX6_bump 10 = .ok (.ireturn, 1) := by decide +kernel
theorem dX6_bump_11 : decode cX6_bump 11 = .ok (.aload_n 0, 1) := by decide +kernel
theorem dX6_bump_12 : decode cX6_bump 12 = .ok (.getfield 16, 3) := by decide +kernel
theorem dX6_bump_15 : decode cX6_bump 15 = .ok (.aload_n 0, 1) := by decide +kernel
theorem dX6_bump_16 : decode cX6_bump 16 = .ok (.getfield 10, 3) := by decide +kernel
theorem dX6_bump_19 : decode cX6_bump 19 = .ok (.invokevirtual 130, 3) := by decide +kernel
theorem dX6_bump_22 : decode cX6_bump 22 = .ok (.iconst 0, 1) := by decide +kernel
theorem dX6_bump_23 : decode cX6_bump 23 = .ok (.istore_n 2, 1) := by decide +kernel
theorem dX6_bump_24 : decode cX6_bump 24 = .ok (.iconst (-1), 1) := by decide +kernel
theorem dX6_bump_25 : decode cX6_bump 25 = .ok (.istore_n 3, 1) := by decide +kernel
theorem dX6_bump_26 : decode cX6_bump 26 = .ok (.iconst 0, 1) := by decide +kernel
theorem dX6_bump_27 : decode cX6_bump 27 = .ok (.istore 4, 2) := by decide +kernel
theorem dX6_bump_29 : decode cX6_bump 29 = .ok (.iload 4, 2) := by decide +kernel
theorem dX6_bump_31 : decode cX6_bump 31 = .ok (.bipush 10, 2) := by decide +kernel
theorem dX6_bump_33 : decode cX6_bump 33 = .ok (.if_icmp .ge 29, 3) := by decide +kernel
theorem dX6_bump_36 : decode cX6_bump 36 = .ok (.aload_n 0, 1) := by decide +kernel
theorem dX6_bump_37 : decode cX6_bump 37 = .ok (.iload 4, 2) := by decide +kernel
theorem dX6_bump_39 : decode cX6_bump 39 = .ok (.invokevirtual 183, 3) := by decide +kernel
theorem dX6_bump_42 : decode cX6_bump 42 = .ok (.istore 5, 2) := by decide +kernel
theorem dX6_bump_44 : decode cX6_bump 44 = .ok (.iload 5, 2) := by decide +kernel
theorem dX6_bump_46 : decode cX6_bump 46 = .ok (.iload_n 3, 1) := by decide +kernel
theorem dX6_bump_47 : decode cX6_bump 47 = .ok (.if_icmp .le 9, 3) := by decide +kernel
theorem dX6_bump_50 : decode cX6_bump 50 = .ok (.iload 5, 2) := by decide +kernel
theorem dX6_bump_52 : decode cX6_bump 52 = .ok (.istore_n 3, 1) := by decide +kernel
theorem dX6_bump_53 : decode cX6_bump 53 = .ok (.iload 4, 2) := by decide +kernel
theorem dX6_bump_55 : decode cX6_bump 55 = .ok (.istore_n 2, 1) := by decide +kernel
theorem dX6_bump_56 : decode cX6_bump 56 = .ok (.iinc 4 1, 3) := by decide +kernel
theorem dX6_bump_59 : decode cX6_bump 59 = .ok (.goto (-30), 3) := by decide +kernel
theorem dX6_bump_62 : decode cX6_bump 62 = .ok (.iload_n 1, 1) := by decide +kernel
theorem dX6_bump_63 : decode cX6_bump 63 = .ok (.ifCond .ne 7, 3) := by decide +kernel
theorem dX6_bump_66 : decode cX6_bump 66 = .ok (.iload_n 2, 1) := by decide +kernel
theorem dX6_bump_67 : decode cX6_bump 67 = .ok (.goto 4, 3) := by decide +kernel
theorem dX6_bump_70 : decode cX6_bump 70 = .ok (.iload_n 3, 1) := by decide +kernel
theorem dX6_bump_71 : decode cX6_bump 71 = .ok (.ireturn, 1) := by decide +kernel
theorem dX6_throughWithoutBump_0 : decode cX6_throughWithoutBump 0 = .ok (.aload_n 0, 1) := by decide +kernel
theorem dX6_throughWithoutBump_1 : decode cX6_throughWithoutBump 1 = .ok (.getfield 16, 3) := by decide +kernel
theorem dX6_throughWithoutBump_4 : decode cX6_throughWithoutBump 4 = .ok (.getfield 104, 3) := by decide +kernel
theorem dX6_throughWithoutBump_7 : decode cX6_throughWithoutBump 7 = .ok (.iload_n 1, 1) := by decide +kernel
theorem dX6_throughWithoutBump_8 : decode cX6_throughWithoutBump 8 = .ok (.iaload, 1) := by decide +kernel
theorem dX6_throughWithoutBump_9 : decode cX6_throughWithoutBump 9 = .ok (.istore_n 2, 1) := by decide +kernel
theorem dX6_throughWithoutBump_10 : decode cX6_throughWithoutBump 10 = .ok (.aload_n 0, 1) := by decide +kernel
theorem dX6_throughWithoutBump_11 : decode cX6_throughWithoutBump 11 = .ok (.getfield 16, 3) := by decide +kernel
theorem dX6_throughWithoutBump_14 : decode cX6_throughWithoutBump 14 = .ok (.getfield 104, 3) := by decide +kernel
theorem dX6_throughWithoutBump_17 : decode cX6_throughWithoutBump 17 = .ok (.iload_n 1, 1) := by decide +kernel
theorem dX6_throughWithoutBump_18 : decode cX6_throughWithoutBump 18 = .ok (.iconst 0, 1) := by decide +kernel
theorem dX6_throughWithoutBump_19 : decode cX6_throughWithoutBump 19 = .ok (.iastore, 1) := by decide +kernel
theorem dX6_throughWithoutBump_20 : decode cX6_throughWithoutBump 20 = .ok (.iconst 0, 1) := by decide +kernel
theorem dX6_throughWithoutBump_21 : decode cX6_throughWithoutBump 21 = .ok (.istore_n 3, 1) := by decide +kernel
theorem dX6_throughWithoutBump_22 : decode cX6_throughWithoutBump 22 = .ok (.iconst 0, 1) := by decide +kernel
theorem dX6_throughWithoutBump_23 : decode cX6_throughWithoutBump 23 = .ok (.istore 4, 2) := by decide +kernel
theorem dX6_throughWithoutBump_25 : decode cX6_throughWithoutBump 25 = .ok (.iload 4, 2) := by decide +kernel
theorem dX6_throughWithoutBump_27 : decode cX6_throughWithoutBump 27 = .ok (.aload_n 0, 1) := by decide +kernel
theorem dX6_throughWithoutBump_28 : decode cX6_throughWithoutBump 28 = .ok (.getfield 16, 3) := by decide +kernel
theorem dX6_throughWithoutBump_31 : decode cX6_throughWithoutBump 31 = .ok (.getfield 134, 3) := by decide +kernel
theorem dX6_throughWithoutBump_34 : decode cX6_throughWithoutBump 34 = .ok (.if_icmp .ge 31, 3) := by decide +kernel
theorem dX6_throughWithoutBump_37 : decode cX6_throughWithoutBump 37 = .ok (.aload_n 0, 1) := by decide +kernel
theorem dX6_throughWithoutBump_38 : decode cX6_throughWithoutBump 38 = .ok (.getfield 16, 3) := by decide +kernel
theorem dX6_throughWithoutBump_41 : decode cX6_throughWithoutBump 41 = .ok (.iload 4, 2) := by decide +kernel
theorem dX6_throughWithoutBump_43 : decode cX6_throughWithoutBump 43 = .ok (.aload_n 0, 1) := by decide +kernel
theorem dX6_throughWithoutBump_44 : decode cX6_throughWithoutBump 44 = .ok (.getfield 49, 3) := by decide +kernel
theorem dX6_throughWithoutBump_47 : decode cX6_throughWithoutBump 47 = .ok (.invokevirtual 171, 3) := by decide +kernel
theorem dX6_throughWithoutBump_50 : decode cX6_throughWithoutBump 50 = .ok (.invokestatic 177, 3) := by decide +kernel
theorem dX6_throughWithoutBump_53 : decode cX6_throughWithoutBump 53 = .ok (.ifCond .eq 6, 3) := by decide +kernel
theorem dX6_throughWithoutBump_56 : decode cX6_throughWithoutBump 56 = .ok (.iinc 3 1, 3) := by decide +kernel
theorem dX6_throughWithoutBump_59 : decode cX6_throughWithoutBump 59 = .ok (.iinc 4 1, 3) := by decide +kernel
theorem dX6_throughWithoutBump_62 : decode cX6_throughWithoutBump 62 = .ok (.goto (-37), 3) := by decide +kernel
theorem dX6_throughWithoutBump_65 : decode cX6_throughWithoutBump 65 = .ok (.aload_n 0, 1) := by decide +kernel
theorem dX6_throughWithoutBump_66 : decode cX6_throughWithoutBump 66 = .ok (.getfield 16, 3) := by decide +kernel
theorem dX6_throughWithoutBump_69 : decode cX6_throughWithoutBump 69 = .ok (.getfield 104, 3) := by decide +kernel
theorem dX6_throughWithoutBump_72 : decode cX6_throughWithoutBump 72 = .ok (.iload_n 1, 1) := by decide +kernel
theorem dX6_throughWithoutBump_73 : decode cX6_throughWithoutBump 73 = .ok (.iload_n 2, 1) := by decide +kernel
theorem dX6_throughWithoutBump_74 : decode cX6_throughWithoutBump 74 = .ok (.iastore, 1) := by decide +kernel
theorem dX6_throughWithoutBump_75 : decode cX6_throughWithoutBump 75 = .ok (.iload_n 3, 1) := by decide +kernel
theorem dX6_throughWithoutBump_76 : decode cX6_throughWithoutBump 76 = .ok (.ireturn, 1) := by decide +kernel
theorem dX6_order_0 : decode cX6_order 0 = .ok (.iload_n 1, 1) := by decide +kernel
theorem dX6_order_1 : decode cX6_order 1 = .ok (.iconst (-1), 1) := by decide +kernel
theorem dX6_order_2 : decode cX6_order 2 = .ok (.if_icmp .ge 5, 3) := by decide +kernel
theorem dX6_order_5 : decode cX6_order 5 = .ok (.iconst (-1), 1) := by decide +kernel
theorem dX6_order_6 : decode cX6_order 6 = .ok (.ireturn, 1) := by decide +kernel
theorem dX6_order_7 : decode cX6_order 7 = .ok (.aload_n 0, 1) := by decide +kernel
theorem dX6_order_8 : decode cX6_order 8 = .ok (.invokevirtual 186, 3) := by decide +kernel
theorem dX6_order_11 : decode cX6_order 11 = .ok (.istore_n 2, 1) := by decide +kernel
theorem dX6_order_12 : decode cX6_order 12 = .ok (.iload_n 1, 1) := by decide +kernel
theorem dX6_order_13 : decode cX6_order 13 = .ok (.iconst (-1), 1) := by decide +kernel
theorem dX6_order_14 : decode cX6_order 14 = .ok (.if_icmp .ne 7, 3) := by decide +kernel
theorem dX6_order_17 : decode cX6_order 17 = .ok (.iload_n 2, 1) := by decide +kernel
theorem dX6_order_18 : decode cX6_order 18 = .ok (.goto 11, 3) := by decide +kernel
theorem dX6_order_21 : decode cX6_order 21 = .ok (.aload_n 0, 1) := by decide +kernel
theorem dX6_order_22 : decode cX6_order 22 = .ok (.getfield 60, 3) := by decide +kernel
theorem dX6_order_25 : decode cX6_order 25 = .ok (.iload_n 1, 1) := by decide +kernel
theorem dX6_order_26 : decode cX6_order 26 = .ok (.invokevirtual 189, 3) := by decide +kernel
theorem dX6_order_29 : decode cX6_order 29 = .ok (.ireturn, 1) := by decide +kernel
theorem dX6_findBestOrder_0 : decode cX6_findBestOrder 0 = .ok (.aload_n 0, 1) := by decide +kernel
theorem dX6_findBestOrder_1 : decode cX6_findBestOrder 1 = .ok (.getfield 56, 3) := by decide +kernel
theorem dX6_findBestOrder_4 : decode cX6_findBestOrder 4 = .ok (.aload_n 0, 1) := by decide +kernel
theorem dX6_findBestOrder_5 : decode cX6_findBestOrder 5 = .ok (.getfield 10, 3) := by decide +kernel
theorem dX6_findBestOrder_8 : decode cX6_findBestOrder 8 = .ok (.invokevirtual 192, 3) := by decide +kernel
theorem dX6_findBestOrder_11 : decode cX6_findBestOrder 11 = .ok (.iconst (-1), 1) := by decide +kernel
theorem dX6_findBestOrder_12 : decode cX6_findBestOrder 12 = .ok (.istore_n 1, 1) := by decide +kernel
theorem dX6_findBestOrder_13 : decode cX6_findBestOrder 13 = .ok (.iconst 1, 1) := by decide +kernel
theorem dX6_findBestOrder_14 : decode cX6_findBestOrder 14 = .ok (.istore_n 2, 1) := by decide +kernel
theorem dX6_findBestOrder_15 : decode cX6_findBestOrder 15 = .ok (.iconst 0, 1) := by decide +kernel
theorem dX6_findBestOrder_16 : decode cX6_findBestOrder 16 = .ok (.istore_n 3, 1) := by decide +kernel
theorem dX6_findBestOrder_17 : decode cX6_findBestOrder 17 = .ok (.iload_n 3, 1) := by decide +kernel
theorem dX6_findBestOrder_18 : decode cX6_findBestOrder 18 = .ok (.bipush 120, 2) := by decide +kernel
theorem dX6_findBestOrder_20 : decode cX6_findBestOrder 20 = .ok (.if_icmp .ge 51, 3) := by decide +kernel
theorem dX6_findBestOrder_23 : decode cX6_findBestOrder 23 = .ok (.iload_n 2, 1) := by decide +kernel
theorem dX6_findBestOrder_24 : decode cX6_findBestOrder 24 = .ok (.ifCond .eq 47, 3) := by decide +kernel
theorem dX6_findBestOrder_27 : decode cX6_findBestOrder 27 = .ok (.aload_n 0, 1) := by decide +kernel
theorem dX6_findBestOrder_28 : decode cX6_findBestOrder 28 = .ok (.aload_n 0, 1) := by decide +kernel
theorem dX6_findBestOrder_29 : decode cX6_findBestOrder 29 = .ok (.getfield 56, 3) := by decide +kernel
theorem dX6_findBestOrder_32 : decode cX6_findBestOrder 32 = .ok (.invokevirtual 195, 3) := by decide +kernel
theorem dX6_findBestOrder_35 : decode cX6_findBestOrder 35 = .ok (.istore 4, 2) := by decide +kernel
theorem dX6_findBestOrder_37 : decode cX6_findBestOrder 37 = .ok (.iload 4, 2) := by decide +kernel
theorem dX6_findBestOrder_39 : decode cX6_findBestOrder 39 = .ok (.iload_n 1, 1) := by decide +kernel
theorem dX6_findBestOrder_40 : decode cX6_findBestOrder 40 = .ok (.if_icmp .le 17, 3) := by decide +kernel
theorem dX6_findBestOrder_43 : decode cX6_findBestOrder 43 = .ok (.iload 4, 2) := by decide +kernel
theorem dX6_findBestOrder_45 : decode cX6_findBestOrder 45 = .ok (.istore_n 1, 1) := by decide +kernel
theorem dX6_findBestOrder_46 : decode cX6_findBestOrder 46 = .ok (.aload_n 0, 1) := by decide +kernel
theorem dX6_findBestOrder_47 : decode cX6_findBestOrder 47 = .ok (.getfield 60, 3) := by decide +kernel
theorem dX6_findBestOrder_50 : decode cX6_findBestOrder 50 = .ok (.aload_n 0, 1) := by decide +kernel
theorem dX6_findBestOrder_51 : decode cX6_findBestOrder 51 = .ok (.getfield 56, 3) := by decide +kernel
theorem dX6_findBestOrder_54 : decode cX6_findBestOrder 54 = .ok (.invokevirtual 199, 3) := by decide +kernel
theorem dX6_findBestOrder_57 : decode cX6_findBestOrder 57 = .ok (.aload_n 0, 1) := by decide +kernel
theorem dX6_findBestOrder_58 : decode cX6_findBestOrder 58 = .ok (.getfield 56, 3) := by decide +kernel
theorem dX6_findBestOrder_61 : decode cX6_findBestOrder 61 = .ok (.invokevirtual 202, 3) := by decide +kernel
theorem dX6_findBestOrder_64 : decode cX6_findBestOrder 64 = .ok (.istore_n 2, 1) := by decide +kernel
theorem dX6_findBestOrder_65 : decode cX6_findBestOrder 65 = .ok (.iinc 3 1, 3) := by decide +kernel
theorem dX6_findBestOrder_68 : decode cX6_findBestOrder 68 = .ok (.goto (-51), 3) := by decide +kernel
theorem dX6_findBestOrder_71 : decode cX6_findBestOrder 71 = .ok (.iload_n 1, 1) := by decide +kernel
theorem dX6_findBestOrder_72 : decode cX6_findBestOrder 72 = .ok (.ireturn, 1) := by decide +kernel
theorem dX6_throughBy_0 : decode cX6_throughBy 0 = .ok (.aload_n 0, 1) := by decide +kernel
theorem dX6_throughBy_1 : decode cX6_throughBy 1 = .ok (.getfield 16, 3) := by decide +kernel
theorem dX6_throughBy_4 : decode cX6_throughBy 4 = .ok (.aload_n 0, 1) := by decide +kernel
theorem dX6_throughBy_5 : decode cX6_throughBy 5 = .ok (.getfield 10, 3) := by decide +kernel
theorem dX6_throughBy_8 : decode cX6_throughBy 8 = .ok (.invokevirtual 130, 3) := by decide +kernel
theorem dX6_throughBy_11 : decode cX6_throughBy 11 = .ok (.iconst 0, 1) := by decide +kernel
theorem dX6_throughBy_12 : decode cX6_throughBy 12 = .ok (.istore_n 2, 1) := by decide +kernel
theorem dX6_throughBy_13 : decode cX6_throughBy 13 = .ok (.iload_n 2, 1) := by decide +kernel
theorem dX6_throughBy_14 : decode cX6_throughBy 14 = .ok (.aload_n 1, 1) := by decide +kernel
theorem dX6_throughBy_15 : decode cX6_throughBy 15 = .ok (.getfield 206, 3) := by decide +kernel
theorem dX6_throughBy_18 : decode cX6_throughBy 18 = .ok (.if_icmp .ge 26, 3) := by decide +kernel
theorem dX6_throughBy_21 : decode cX6_throughBy 21 = .ok (.aload_n 0, 1) := by decide +kernel
theorem dX6_throughBy_22 : decode cX6_throughBy 22 = .ok (.getfield 16, 3) := by decide +kernel
theorem dX6_throughBy_25 : decode cX6_throughBy 25 = .ok (.aload_n 1, 1) := by decide +kernel
theorem dX6_throughBy_26 : decode cX6_throughBy 26 = .ok (.iload_n 2, 1) := by decide +kernel
theorem dX6_throughBy_27 : decode cX6_throughBy 27 = .ok (.invokevirtual 189, 3) := by decide +kernel
theorem dX6_throughBy_30 : decode cX6_throughBy 30 = .ok (.aload_n 0, 1) := by decide +kernel
theorem dX6_throughBy_31 : decode cX6_throughBy 31 = .ok (.getfield 49, 3) := by decide +kernel
theorem dX6_throughBy_34 : decode cX6_throughBy 34 = .ok (.invokevirtual 160, 3) := by decide +kernel
theorem dX6_throughBy_37 : decode cX6_throughBy 37 = .ok (.pop, 1) := by decide +kernel
theorem dX6_throughBy_38 : decode cX6_throughBy 38 = .ok (.iinc 2 1, 3) := by decide +kernel
theorem dX6_throughBy_41 : decode cX6_throughBy 41 = .ok (.goto (-28), 3) := by decide +kernel
theorem dX6_throughBy_44 : decode cX6_throughBy 44 = .ok (.aload_n 0, 1) := by decide +kernel
theorem dX6_throughBy_45 : decode cX6_throughBy 45 = .ok (.getfield 16, 3) := by decide +kernel
theorem dX6_throughBy_48 : decode cX6_throughBy 48 = .ok (.invokevirtual 144, 3) := by decide +kernel
theorem dX6_throughBy_51 : decode cX6_throughBy 51 = .ok (.invokestatic 209, 3) := by decide +kernel
theorem dX6_throughBy_54 : decode cX6_throughBy 54 = .ok (.ireturn, 1) := by decide +kernel
theorem dX6_rain_0 : decode cX6_rain 0 = .ok (.aload_n 0, 1) := by decide +kernel
theorem dX6_rain_1 : decode cX6_rain 1 = .ok (.getfield 10, 3) := by decide +kernel
theorem dX6_rain_4 : decode cX6_rain 4 = .ok (.iload_n 1, 1) := by decide +kernel
theorem dX6_rain_5 : decode cX6_rain 5 = .ok (.invokevirtual 82, 3) := by decide +kernel
theorem dX6_rain_8 : decode cX6_rain 8 = .ok (.ifCond .eq 22, 3) := by decide +kernel
theorem dX6_rain_11 : decode cX6_rain 11 = .ok (.iload_n 2, 1) := by decide +kernel
theorem dX6_rain_12 : decode cX6_rain 12 = .ok (.iconst 0, 1) := by decide +kernel
theorem dX6_rain_13 : decode cX6_rain 13 = .ok (.bipush 10, 2) := by decide +kernel
theorem dX6_rain_15 : decode cX6_rain 15 = .ok (.invokestatic 71, 3) := by decide +kernel
theorem dX6_rain_18 : decode cX6_rain 18 = .ok (.ifCond .eq 12, 3) := by decide +kernel
theorem dX6_rain_21 : decode cX6_rain 21 = .ok (.iload_n 3, 1) := by decide +kernel
theorem dX6_rain_22 : decode cX6_rain 22 = .ok (.iconst 0, 1) := by decide +kernel
theorem dX6_rain_23 : decode cX6_rain 23 = .ok (.iconst 1, 1) := by decide +kernel
theorem dX6_rain_24 : decode cX6_rain 24 = .ok (.invokestatic 71, 3) := by decide +kernel
theorem dX6_rain_27 : decode cX6_rain 27 = .ok (.ifCond .ne 7, 3) := by decide +kernel
theorem dX6_rain_30 : decode cX6_rain 30 = .ok (.ldc2_w 214, 3) := by decide +kernel
theorem dX6_rain_33 : decode cX6_rain 33 = .ok (.lreturn, 1) := by decide +kernel
theorem dX6_rain_34 : decode cX6_rain 34 = .ok (.aload_n 0, 1) := by decide +kernel
theorem dX6_rain_35 : decode cX6_rain 35 = .ok (.getfield 66, 3) := by decide +kernel
theorem dX6_rain_38 : decode cX6_rain 38 = .ok (.aload_n 0, 1) := by decide +kernel
theorem dX6_rain_39 : decode cX6_rain 39 = .ok (.getfield 10, 3) := by decide +kernel
theorem dX6_rain_42 : decode cX6_rain 42 = .ok (.iload_n 1, 1) := by decide +kernel
theorem dX6_rain_43 : decode cX6_rain 43 = .ok (.iload_n 2, 1) := by decide +kernel
theorem dX6_rain_44 : decode cX6_rain 44 = .ok (.invokevirtual 216, 3) := by decide +kernel
theorem dX6_rain_47 : decode cX6_rain 47 = .ok (.lstore 4, 2) := by decide +kernel
theorem dX6_rain_49 : decode cX6_rain 49 = .ok (.ldc2_w 220, 3) := by decide +kernel
theorem dX6_rain_52 : decode cX6_rain 52 = .ok (.lstore 6, 2) := by decide +kernel
theorem dX6_rain_54 : decode cX6_rain 54 = .ok (.iconst 0, 1) := by decide +kernel
theorem dX6_rain_55 : decode cX6_rain 55 = .ok (.istore 8, 2) := by decide +kernel
theorem dX6_rain_57 : decode cX6_rain 57 = .ok (.iload 8, 2) := by decide +kernel
theorem dX6_rain_59 : decode cX6_rain 59 = .ok (.bipush 10, 2) := by decide +kernel
theorem dX6_rain_61 : decode cX6_rain 61 = .ok (.if_icmp .ge 63, 3) := by decide +kernel
theorem dX6_rain_64 : decode cX6_rain 64 = .ok (.lload 4, 2) := by decide +kernel
theorem dX6_rain_66 : decode cX6_rain 66 = .ok (.ldc2_w 222, 3) := by decide +kernel
theorem dX6_rain_69 : decode cX6_rain 69 = .ok (.lrem, 1) := by decide +kernel
theorem dX6_rain_70 : decode cX6_rain 70 = .ok (.lconst 0, 1) := by decide +kernel
theorem dX6_rain_71 : decode cX6_rain 71 = .ok (.lcmp, 1) := by decide +kernel
theorem dX6_rain_72 : decode cX6_rain 72 = .ok (.ifCond .ne 19, 3) := by decide +kernel
theorem dX6_rain_75 : decode cX6_rain 75 = .ok (.lload 4, 2) := by decide +kernel
theorem dX6_rain_77 : decode cX6_rain 77 = .ok (.ldc2_w 222, 3) := by decide +kernel
theorem dX6_rain_80 : decode cX6_rain 80 = .ok (.ldiv, 1) := by decide +kernel
theorem dX6_rain_81 : decode cX6_rain 81 = .ok (.lstore 4, 2) := by decide +kernel
theorem dX6_rain_83 : decode cX6_rain 83 = .ok (.lload 6, 2) := by decide +kernel
theorem dX6_rain_85 : decode cX6_rain 85 = .ok (.ldc2_w 222, 3) := by decide +kernel
theorem dX6_rain_88 : decode cX6_rain 88 = .ok (.ldiv, 1) := by decide +kernel
theorem dX6_rain_89 : decode cX6_rain 89 = .ok (.lstore 6, 2) := by decide +kernel
theorem dX6_rain_91 : decode cX6_rain 91 = .ok (.lload 4, 2) := by decide +kernel
theorem dX6_rain_93 : decode cX6_rain 93 = .ok (.ldc2_w 224, 3) := by decide +kernel
theorem dX6_rain_96 : decode cX6_rain 96 = .ok (.lrem, 1) := by decide +kernel
theorem dX6_rain_97 : decode cX6_rain 97 = .ok (.lconst 0, 1) := by decide +kernel
theorem dX6_rain_98 : decode cX6_rain 98 = .ok (.lcmp, 1) := by decide +kernel
theorem dX6_rain_99 : decode cX6_rain 99 = .ok (.ifCond .ne 19, 3) := by decide +kernel
theorem dX6_rain_102 : decode cX6_rain 102 = .ok (.lload 4, 2) := by decide +kernel
theorem dX6_rain_104 : decode cX6_rain 104 = .ok (.ldc2_w 224, 3) := by decide +kernel
theorem dX6_rain_107 : decode cX6_rain 107 = .ok (.ldiv, 1) := by decide +kernel
theorem dX6_rain_108 : decode cX6_rain 108 = .ok (.lstore 4, 2) := by decide +kernel
theorem dX6_rain_110 : decode cX6_rain 110 = .ok (.lload 6, 2) := by decide +kernel
theorem dX6_rain_112 : decode cX6_rain 112 = .ok (.ldc2_w 224, 3) := by decide +kernel
theorem dX6_rain_115 : decode cX6_rain 115 = .ok (.ldiv, 1) := by decide +kernel
theorem dX6_rain_116 : decode cX6_rain 116 = .ok (.lstore 6, 2) := by decide +kernel
theorem dX6_rain_118 : decode cX6_rain 118 = .ok (.iinc 8 1, 3) := by decide +kernel
theorem dX6_rain_121 : decode cX6_rain 121 = .ok (.goto (-64), 3) := by decide +kernel
theorem dX6_rain_124 : decode cX6_rain 124 = .ok (.iload_n 3, 1) := by decide +kernel
theorem dX6_rain_125 : decode cX6_rain 125 = .ok (.ifCond .ne 8, 3) := by decide +kernel
theorem dX6_rain_128 : decode cX6_rain 128 = .ok (.lload 4, 2) := by decide +kernel
theorem dX6_rain_130 : decode cX6_rain 130 = .ok (.goto 5, 3) := by decide +kernel
theorem dX6_rain_133 : decode cX6_rain 133 = .ok (.lload 6, 2) := by decide +kernel
theorem dX6_rain_135 : decode cX6_rain 135 = .ok (.lreturn, 1) := by decide +kernel
theorem dX6_image_0 : decode cX6_image 0 = .ok (.aload_n 0, 1) := by decide +kernel
theorem dX6_image_1 : decode cX6_image 1 = .ok (.getfield 26, 3) := by decide +kernel
theorem dX6_image_4 : decode cX6_image 4 = .ok (.aload_n 0, 1) := by decide +kernel
theorem dX6_image_5 : decode cX6_image 5 = .ok (.getfield 10, 3) := by decide +kernel
theorem dX6_image_8 : decode cX6_image 8 = .ok (.invokevirtual 130, 3) := by decide +kernel
theorem dX6_image_11 : decode cX6_image 11 = .ok (.aload_n 0, 1) := by decide +kernel
theorem dX6_image_12 : decode cX6_image 12 = .ok (.getfield 29, 3) := by decide +kernel
theorem dX6_image_15 : decode cX6_image 15 = .ok (.aload_n 0, 1) := by decide +kernel
theorem dX6_image_16 : decode cX6_image 16 = .ok (.getfield 22, 3) := by decide +kernel
theorem dX6_image_19 : decode cX6_image 19 = .ok (.invokevirtual 226, 3) := by decide +kernel
theorem dX6_image_22 : decode cX6_image 22 = .ok (.aload_n 0, 1) := by decide +kernel
theorem dX6_image_23 : decode cX6_image 23 = .ok (.iconst 1, 1) := by decide +kernel
theorem dX6_image_24 : decode cX6_image 24 = .ok (.putfield 32, 3) := by decide +kernel
theorem dX6_image_27 : decode cX6_image 27 = .ok (.iconst 1, 1) := by decide +kernel
theorem dX6_image_28 : decode cX6_image 28 = .ok (.ireturn, 1) := by decide +kernel
theorem dX6_restore_0 : decode cX6_restore 0 = .ok (.aload_n 0, 1) := by decide +kernel
theorem dX6_restore_1 : decode cX6_restore 1 = .ok (.getfield 32, 3) := by decide +kernel
theorem dX6_restore_4 : decode cX6_restore 4 = .ok (.ifCond .ne 6, 3) := by decide +kernel
theorem dX6_restore_7 : decode cX6_restore 7 = .ok (.bipush (-4), 2) := by decide +kernel
theorem dX6_restore_9 : decode cX6_restore 9 = .ok (.ireturn, 1) := by decide +kernel
theorem dX6_restore_10 : decode cX6_restore 10 = .ok (.aload_n 0, 1) := by decide +kernel
theorem dX6_restore_11 : decode cX6_restore 11 = .ok (.getfield 10, 3) := by decide +kernel
theorem dX6_restore_14 : decode cX6_restore 14 = .ok (.aload_n 0, 1) := by decide +kernel
theorem dX6_restore_15 : decode cX6_restore 15 = .ok (.getfield 26, 3) := by decide +kernel
theorem dX6_restore_18 : decode cX6_restore 18 = .ok (.invokevirtual 130, 3) := by decide +kernel
theorem dX6_restore_21 : decode cX6_restore 21 = .ok (.aload_n 0, 1) := by decide +kernel
theorem dX6_restore_22 : decode cX6_restore 22 = .ok (.getfield 22, 3) := by decide +kernel
theorem dX6_restore_25 : decode cX6_restore 25 = .ok (.aload_n 0, 1) := by decide +kernel
theorem dX6_restore_26 : decode cX6_restore 26 = .ok (.getfield 29, 3) := by decide +kernel
theorem dX6_restore_29 : decode cX6_restore 29 = .ok (.invokevirtual 226, 3) := by decide +kernel
theorem dX6_restore_32 : decode cX6_restore 32 = .ok (.iconst 1, 1) := by decide +kernel
theorem dX6_restore_33 : decode cX6_restore 33 = .ok (.ireturn, 1) := by decide +kernel
theorem dX6_clocked_0 : decode cX6_clocked 0 = .ok (.aload_n 0, 1) := by decide +kernel
theorem dX6_clocked_1 : decode cX6_clocked 1 = .ok (.getfield 10, 3) := by decide +kernel
theorem dX6_clocked_4 : decode cX6_clocked 4 = .ok (.iload_n 1, 1) := by decide +kernel
theorem dX6_clocked_5 : decode cX6_clocked 5 = .ok (.invokevirtual 82, 3) := by decide +kernel
theorem dX6_clocked_8 : decode cX6_clocked 8 = .ok (.ifCond .eq 48, 3) := by decide +kernel
theorem dX6_clocked_11 : decode cX6_clocked 11 = .ok (.iload_n 2, 1) := by decide +kernel
theorem dX6_clocked_12 : decode cX6_clocked 12 = .ok (.invokestatic 98, 3) := by decide +kernel
theorem dX6_clocked_15 : decode cX6_clocked 15 = .ok (.ifCond .eq 41, 3) := by decide +kernel
theorem dX6_clocked_18 : decode cX6_clocked 18 = .ok (.iload 6, 2) := by decide +kernel
theorem dX6_clocked_20 : decode cX6_clocked 20 = .ok (.iconst 1, 1) := by decide +kernel
theorem dX6_clocked_21 : decode cX6_clocked 21 = .ok (.bipush 10, 2) := by decide +kernel
theorem dX6_clocked_23 : decode cX6_clocked 23 = .ok (.iload_n 2, 1) := by decide +kernel
theorem dX6_clocked_24 : decode cX6_clocked 24 = .ok (.isub, 1) := by decide +kernel
theorem dX6_clocked_25 : decode cX6_clocked 25 = .ok (.invokestatic 71, 3) := by decide +kernel
theorem dX6_clocked_28 : decode cX6_clocked 28 = .ok (.ifCond .eq 28, 3) := by decide +kernel
theorem dX6_clocked_31 : decode cX6_clocked 31 = .ok (.iload_n 3, 1) := by decide +kernel
theorem dX6_clocked_32 : decode cX6_clocked 32 = .ok (.invokestatic 229, 3) := by decide +kernel
theorem dX6_clocked_35 : decode cX6_clocked 35 = .ok (.ifCond .eq 21, 3) := by decide +kernel
theorem dX6_clocked_38 : decode cX6_clocked 38 = .ok (.iload 4, 2) := by decide +kernel
theorem dX6_clocked_40 : decode cX6_clocked 40 = .ok (.invokestatic 232, 3) := by decide +kernel
theorem dX6_clocked_43 : decode cX6_clocked 43 = .ok (.ifCond .eq 13, 3) := by decide +kernel
theorem dX6_clocked_46 : decode cX6_clocked 46 = .ok (.iload 7, 2) := by decide +kernel
theorem dX6_clocked_48 : decode cX6_clocked 48 = .ok (.iconst 0, 1) := by decide +kernel
theorem dX6_clocked_49 : decode cX6_clocked 49 = .ok (.iconst 1, 1) := by decide +kernel
theorem dX6_clocked_50 : decode cX6_clocked 50 = .ok (.invokestatic 71, 3) := by decide +kernel
theorem dX6_clocked_53 : decode cX6_clocked 53 = .ok (.ifCond .ne 5, 3) := by decide +kernel
theorem dX6_clocked_56 : decode cX6_clocked 56 = .ok (.iconst (-1), 1) := by decide +kernel
theorem dX6_clocked_57 : decode cX6_clocked 57 = .ok (.ireturn, 1) := by decide +kernel
theorem dX6_clocked_58 : decode cX6_clocked 58 = .ok (.aload_n 0, 1) := by decide +kernel
theorem dX6_clocked_59 : decode cX6_clocked 59 = .ok (.getfield 45, 3) := by decide +kernel
theorem dX6_clocked_62 : decode cX6_clocked 62 = .ok (.iload_n 3, 1) := by decide +kernel
theorem dX6_clocked_63 : decode cX6_clocked 63 = .ok (.aaload, 1) := by decide +kernel
theorem dX6_clocked_64 : decode cX6_clocked 64 = .ok (.astore 8, 2) := by decide +kernel
theorem dX6_clocked_66 : decode cX6_clocked 66 = .ok (.aload 8, 2) := by decide +kernel
theorem dX6_clocked_68 : decode cX6_clocked 68 = .ok (.iload 4, 2) := by decide +kernel
theorem dX6_clocked_70 : decode cX6_clocked 70 = .ok (.iload 5, 2) := by decide +kernel
theorem dX6_clocked_72 : decode cX6_clocked 72 = .ok (.iload 6, 2) := by decide +kernel
theorem dX6_clocked_74 : decode cX6_clocked 74 = .ok (.invokevirtual 235, 3) := by decide +kernel
theorem dX6_clocked_77 : decode cX6_clocked 77 = .ok (.istore 9, 2) := by decide +kernel
theorem dX6_clocked_79 : decode cX6_clocked 79 = .ok (.iload 9, 2) := by decide +kernel
theorem dX6_clocked_81 : decode cX6_clocked 81 = .ok (.ifCond .eq 6, 3) := by decide +kernel
theorem dX6_clocked_84 : decode cX6_clocked 84 = .ok (.iload 9, 2) := by decide +kernel
theorem dX6_clocked_86 : decode cX6_clocked 86 = .ok (.ireturn, 1) := by decide +kernel
theorem dX6_clocked_87 : decode cX6_clocked 87 = .ok (.iload 7, 2) := by decide +kernel
theorem dX6_clocked_89 : decode cX6_clocked 89 = .ok (.ifCond .ne 18, 3) := by decide +kernel
theorem dX6_clocked_92 : decode cX6_clocked 92 = .ok (.aload_n 0, 1) := by decide +kernel
theorem dX6_clocked_93 : decode cX6_clocked 93 = .ok (.iload_n 1, 1) := by decide +kernel
theorem dX6_clocked_94 : decode cX6_clocked 94 = .ok (.iload_n 2, 1) := by decide +kernel
theorem dX6_clocked_95 : decode cX6_clocked 95 = .ok (.aload 8, 2) := by decide +kernel
theorem dX6_clocked_97 : decode cX6_clocked 97 = .ok (.iload 5, 2) := by decide +kernel
theorem dX6_clocked_99 : decode cX6_clocked 99 = .ok (.iload 6, 2) := by decide +kernel
theorem dX6_clocked_101 : decode cX6_clocked 101 = .ok (.invokevirtual 238, 3) := by decide +kernel
theorem dX6_clocked_104 : decode cX6_clocked 104 = .ok (.goto 15, 3) := by decide +kernel
theorem dX6_clocked_107 : decode cX6_clocked 107 = .ok (.aload_n 0, 1) := by decide +kernel
theorem dX6_clocked_108 : decode cX6_clocked 108 = .ok (.iload_n 1, 1) := by decide +kernel
theorem dX6_clocked_109 : decode cX6_clocked 109 = .ok (.iload_n 2, 1) := by decide +kernel
theorem dX6_clocked_110 : decode cX6_clocked 110 = .ok (.aload 8, 2) := by decide +kernel
theorem dX6_clocked_112 : decode cX6_clocked 112 = .ok (.iload 5, 2) := by decide +kernel
theorem dX6_clocked_114 : decode cX6_clocked 114 = .ok (.iload 6, 2) := by decide +kernel
theorem dX6_clocked_116 : decode cX6_clocked 116 = .ok (.invokevirtual 242, 3) := by decide +kernel
theorem dX6_clocked_119 : decode cX6_clocked 119 = .ok (.ireturn, 1) := by decide +kernel
theorem dX6_kindsClocked_0 : decode cX6_kindsClocked 0 = .ok (.aload_n 0, 1) := by decide +kernel
theorem dX6_kindsClocked_1 : decode cX6_kindsClocked 1 = .ok (.getfield 16, 3) := by decide +kernel
theorem dX6_kindsClocked_4 : decode cX6_kindsClocked 4 = .ok (.aload_n 0, 1) := by decide +kernel
theorem dX6_kindsClocked_5 : decode cX6_kindsClocked 5 = .ok (.getfield 10, 3) := by decide +kernel
theorem dX6_kindsClocked_8 : decode cX6_kindsClocked 8 = .ok (.invokevirtual 130, 3) := by decide +kernel
theorem dX6_kindsClocked_11 : decode cX6_kindsClocked 11 = .ok (.iconst 0, 1) := by decide +kernel
theorem dX6_kindsClocked_12 : decode cX6_kindsClocked 12 = .ok (.istore 6, 2) := by decide +kernel
theorem dX6_kindsClocked_14 : decode cX6_kindsClocked 14 = .ok (.iconst 0, 1) := by decide +kernel
theorem dX6_kindsClocked_15 : decode cX6_kindsClocked 15 = .ok (.istore 7, 2) := by decide +kernel
theorem dX6_kindsClocked_17 : decode cX6_kindsClocked 17 = .ok (.iload 7, 2) := by decide +kernel
theorem dX6_kindsClocked_19 : decode cX6_kindsClocked 19 = .ok (.iconst 5, 1) := by decide +kernel
theorem dX6_kindsClocked_20 : decode cX6_kindsClocked 20 = .ok (.if_icmp .ge 58, 3) := by decide +kernel
theorem dX6_kindsClocked_23 : decode cX6_kindsClocked 23 = .ok (.aload_n 0, 1) := by decide +kernel
theorem dX6_kindsClocked_24 : decode cX6_kindsClocked 24 = .ok (.getfield 16, 3) := by decide +kernel
theorem dX6_kindsClocked_27 : decode cX6_kindsClocked 27 = .ok (.getfield 89, 3) := by decide +kernel
theorem dX6_kindsClocked_30 : decode cX6_kindsClocked 30 = .ok (.iload_n 1, 1) := by decide +kernel
theorem dX6_kindsClocked_31 : decode cX6_kindsClocked 31 = .ok (.iload 7, 2) := by decide +kernel
theorem dX6_kindsClocked_33 : decode cX6_kindsClocked 33 = .ok (.iastore, 1) := by decide +kernel
theorem dX6_kindsClocked_34 : decode cX6_kindsClocked 34 = .ok (.aload_n 0, 1) := by decide +kernel
theorem dX6_kindsClocked_35 : decode cX6_kindsClocked 35 = .ok (.getfield 16, 3) := by decide +kernel
theorem dX6_kindsClocked_38 : decode cX6_kindsClocked 38 = .ok (.iload_n 1, 1) := by decide +kernel
theorem dX6_kindsClocked_39 : decode cX6_kindsClocked 39 = .ok (.aload_n 0, 1) := by decide +kernel
theorem dX6_kindsClocked_40 : decode cX6_kindsClocked 40 = .ok (.getfield 49, 3) := by decide +kernel
theorem dX6_kindsClocked_43 : decode cX6_kindsClocked 43 = .ok (.invokevirtual 171, 3) := by decide +kernel
theorem dX6_kindsClocked_46 : decode cX6_kindsClocked 46 = .ok (.pop, 1) := by decide +kernel
theorem dX6_kindsClocked_47 : decode cX6_kindsClocked 47 = .ok (.aload_n 3, 1) := by decide +kernel
theorem dX6_kindsClocked_48 : decode cX6_kindsClocked 48 = .ok (.iload 4, 2) := by decide +kernel
theorem dX6_kindsClocked_50 : decode cX6_kindsClocked 50 = .ok (.aload_n 0, 1) := by decide +kernel
theorem dX6_kindsClocked_51 : decode cX6_kindsClocked 51 = .ok (.getfield 49, 3) := by decide +kernel
theorem dX6_kindsClocked_54 : decode cX6_kindsClocked 54 = .ok (.iload_n 2, 1) := by decide +kernel
theorem dX6_kindsClocked_55 : decode cX6_kindsClocked 55 = .ok (.iload 5, 2) := by decide +kernel
theorem dX6_kindsClocked_57 : decode cX6_kindsClocked 57 = .ok (.invokevirtual 245, 3) := by decide +kernel
theorem dX6_kindsClocked_60 : decode cX6_kindsClocked 60 = .ok (.ifCond .eq 12, 3) := by decide +kernel
theorem dX6_kindsClocked_63 : decode cX6_kindsClocked 63 = .ok (.iload 6, 2) := by decide +kernel
theorem dX6_kindsClocked_65 : decode cX6_kindsClocked 65 = .ok (.iconst 1, 1) := by decide +kernel
theorem dX6_kindsClocked_66 : decode cX6_kindsClocked 66 = .ok (.iload 7, 2) := by decide +kernel
theorem dX6_kindsClocked_68 : decode cX6_kindsClocked 68 = .ok (.ishl, 1) := by decide +kernel
theorem dX6_kindsClocked_69 : decode cX6_kindsClocked 69 = .ok (.ior, 1) := by decide +kernel
theorem dX6_kindsClocked_70 : decode cX6_kindsClocked 70 = .ok (.istore 6, 2) := by decide +kernel
theorem dX6_kindsClocked_72 : decode cX6_kindsClocked 72 = .ok (.iinc 7 1, 3) := by decide +kernel
theorem dX6_kindsClocked_75 : decode cX6_kindsClocked 75 = .ok (.goto (-58), 3) := by decide +kernel
theorem dX6_kindsClocked_78 : decode cX6_kindsClocked 78 = .ok (.iload 6, 2) := by decide +kernel
theorem dX6_kindsClocked_80 : decode cX6_kindsClocked 80 = .ok (.ireturn, 1) := by decide +kernel
theorem dX6_heaviesClocked_0 : decode cX6_heaviesClocked 0 = .ok (.aload_n 0, 1) := by decide +kernel
theorem dX6_heaviesClocked_1 : decode cX6_heaviesClocked 1 = .ok (.getfield 16, 3) := by decide +kernel
theorem dX6_heaviesClocked_4 : decode cX6_heaviesClocked 4 = .ok (.aload_n 0, 1) := by decide +kernel
theorem dX6_heaviesClocked_5 : decode cX6_heaviesClocked 5 = .ok (.getfield 10, 3) := by decide +kernel
theorem dX6_heaviesClocked_8 : decode cX6_heaviesClocked 8 = .ok (.invokevirtual 130, 3) := by decide +kernel
theorem dX6_heaviesClocked_11 : decode cX6_heaviesClocked 11 = .ok (.iconst 0, 1) := by decide +kernel
theorem dX6_heaviesClocked_12 : decode cX6_heaviesClocked 12 = .ok (.istore 6, 2) := by decide +kernel
theorem dX6_heaviesClocked_14 : decode cX6_heaviesClocked 14 = .ok (.iconst 1, 1) := by decide +kernel
theorem dX6_heaviesClocked_15 : decode cX6_heaviesClocked 15 = .ok (.istore 7, 2) := by decide +kernel
theorem dX6_heaviesClocked_17 : decode cX6_heaviesClocked 17 = .ok (.iload 7, 2) := by decide +kernel
theorem dX6_heaviesClocked_19 : decode cX6_heaviesClocked 19 = .ok (.bipush 20, 2) := by decide +kernel
theorem dX6_heaviesClocked_21 : decode cX6_heaviesClocked 21 = .ok (.if_icmp .gt 58, 3) := by decide +kernel
theorem dX6_heaviesClocked_24 : decode cX6_heaviesClocked 24 = .ok (.aload_n 0, 1) := by decide +kernel
theorem dX6_heaviesClocked_25 : decode cX6_heaviesClocked 25 = .ok (.getfield 16, 3) := by decide +kernel
theorem dX6_heaviesClocked_28 : decode cX6_heaviesClocked 28 = .ok (.getfield 92, 3) := by decide +kernel
theorem dX6_heaviesClocked_31 : decode cX6_heaviesClocked 31 = .ok (.iload_n 1, 1) := by decide +kernel
theorem dX6_heaviesClocked_32 : decode cX6_heaviesClocked 32 = .ok (.iload 7, 2) := by decide +kernel
theorem dX6_heaviesClocked_34 : decode cX6_heaviesClocked 34 = .ok (.iastore, 1) := by decide +kernel
theorem dX6_heaviesClocked_35 : decode cX6_heaviesClocked 35 = .ok (.aload_n 0, 1) := by decide +kernel
theorem dX6_heaviesClocked_36 : decode cX6_heaviesClocked 36 = .ok (.getfield 16, 3) := by decide +kernel
theorem dX6_heaviesClocked_39 : decode cX6_heaviesClocked 39 = .ok (.iload_n 1, 1) := by decide +kernel
theorem dX6_heaviesClocked_40 : decode cX6_heaviesClocked 40 = .ok (.aload_n 0, 1) := by decide +kernel
theorem dX6_heaviesClocked_41 : decode cX6_heaviesClocked 41 = .ok (.getfield 49, 3) := by decide +kernel
theorem dX6_heaviesClocked_44 : decode cX6_heaviesClocked 44 = .ok (.invokevirtual 171, 3) := by decide +kernel
theorem dX6_heaviesClocked_47 : decode cX6_heaviesClocked 47 = .ok (.pop, 1) := by decide +kernel
theorem dX6_heaviesClocked_48 : decode cX6_heaviesClocked 48 = .ok (.aload_n 3, 1) := by decide +kernel
theorem dX6_heaviesClocked_49 : decode cX6_heaviesClocked 49 = .ok (.iload 4, 2) := by decide +kernel
theorem dX6_heaviesClocked_51 : decode cX6_heaviesClocked 51 = .ok (.aload_n 0, 1) := by decide +kernel
theorem dX6_heaviesClocked_52 : decode cX6_heaviesClocked 52 = .ok (.getfield 49, 3) := by decide +kernel
theorem dX6_heaviesClocked_55 : decode cX6_heaviesClocked 55 = .ok (.iload_n 2, 1) := by decide +kernel
theorem dX6_heaviesClocked_56 : decode cX6_heaviesClocked 56 = .ok (.iload 5, 2) := by decide +kernel
theorem dX6_heaviesClocked_58 : decode cX6_heaviesClocked 58 = .ok (.invokevirtual 245, 3) := by decide +kernel
theorem dX6_heaviesClocked_61 : decode cX6_heaviesClocked 61 = .ok (.ifCond .eq 12, 3) := by decide +kernel
theorem dX6_heaviesClocked_64 : decode cX6_heaviesClocked 64 = .ok (.iload 6, 2) := by decide +kernel
theorem dX6_heaviesClocked_66 : decode cX6_heaviesClocked 66 = .ok (.iconst 1, 1) := by decide +kernel
theorem dX6_heaviesClocked_67 : decode cX6_heaviesClocked 67 = .ok (.iload 7, 2) := by decide +kernel
theorem dX6_heaviesClocked_69 : decode cX6_heaviesClocked 69 = .ok (.ishl, 1) := by decide +kernel
theorem dX6_heaviesClocked_70 : decode cX6_heaviesClocked 70 = .ok (.ior, 1) := by decide +kernel
theorem dX6_heaviesClocked_71 : decode cX6_heaviesClocked 71 = .ok (.istore 6, 2) := by decide +kernel
theorem dX6_heaviesClocked_73 : decode cX6_heaviesClocked 73 = .ok (.iinc 7 1, 3) := by decide +kernel
theorem dX6_heaviesClocked_76 : decode cX6_heaviesClocked 76 = .ok (.goto (-59), 3) := by decide +kernel
theorem dX6_heaviesClocked_79 : decode cX6_heaviesClocked 79 = .ok (.iload 6, 2) := by decide +kernel
theorem dX6_heaviesClocked_81 : decode cX6_heaviesClocked 81 = .ok (.ireturn, 1) := by decide +kernel
theorem dX6_film_0 : decode cX6_film 0 = .ok (.aload_n 0, 1) := by decide +kernel
theorem dX6_film_1 : decode cX6_film 1 = .ok (.getfield 10, 3) := by decide +kernel
theorem dX6_film_4 : decode cX6_film 4 = .ok (.iload_n 1, 1) := by decide +kernel
theorem dX6_film_5 : decode cX6_film 5 = .ok (.invokevirtual 82, 3) := by decide +kernel
theorem dX6_film_8 : decode cX6_film 8 = .ok (.ifCond .eq 28, 3) := by decide +kernel
theorem dX6_film_11 : decode cX6_film 11 = .ok (.iload_n 2, 1) := by decide +kernel
theorem dX6_film_12 : decode cX6_film 12 = .ok (.iconst 1, 1) := by decide +kernel
theorem dX6_film_13 : decode cX6_film 13 = .ok (.bipush 10, 2) := by decide +kernel
theorem dX6_film_15 : decode cX6_film 15 = .ok (.invokestatic 71, 3) := by decide +kernel
theorem dX6_film_18 : decode cX6_film 18 = .ok (.ifCond .eq 18, 3) := by decide +kernel
theorem dX6_film_21 : decode cX6_film 21 = .ok (.iload_n 3, 1) := by decide +kernel
theorem dX6_film_22 : decode cX6_film 22 = .ok (.invokestatic 229, 3) := by decide +kernel
theorem dX6_film_25 : decode cX6_film 25 = .ok (.ifCond .eq 11, 3) := by decide +kernel
theorem dX6_film_28 : decode cX6_film 28 = .ok (.iload 4, 2) := by decide +kernel
theorem dX6_film_30 : decode cX6_film 30 = .ok (.invokestatic 232, 3) := by decide +kernel
theorem dX6_film_33 : decode cX6_film 33 = .ok (.ifCond .ne 5, 3) := by decide +kernel
theorem dX6_film_36 : decode cX6_film 36 = .ok (.iconst (-1), 1) := by decide +kernel
theorem dX6_film_37 : decode cX6_film 37 = .ok (.ireturn, 1) := by decide +kernel
theorem dX6_film_38 : decode cX6_film 38 = .ok (.aload_n 0, 1) := by decide +kernel
theorem dX6_film_39 : decode cX6_film 39 = .ok (.getfield 45, 3) := by decide +kernel
theorem dX6_film_42 : decode cX6_film 42 = .ok (.iload_n 3, 1) := by decide +kernel
theorem dX6_film_43 : decode cX6_film 43 = .ok (.aaload, 1) := by decide +kernel
theorem dX6_film_44 : decode cX6_film 44 = .ok (.astore 6, 2) := by decide +kernel
theorem dX6_film_46 : decode cX6_film 46 = .ok (.aload 6, 2) := by decide +kernel
theorem dX6_film_48 : decode cX6_film 48 = .ok (.iload 4, 2) := by decide +kernel
theorem dX6_film_50 : decode cX6_film 50 = .ok (.iload 5, 2) := by decide +kernel
theorem dX6_film_52 : decode cX6_film 52 = .ok (.iload_n 2, 1) := by decide +kernel
theorem dX6_film_53 : decode cX6_film 53 = .ok (.invokevirtual 235, 3) := by decide +kernel
theorem dX6_film_56 : decode cX6_film 56 = .ok (.istore 7, 2) := by decide +kernel
theorem dX6_film_58 : decode cX6_film 58 = .ok (.iload 7, 2) := by decide +kernel
theorem dX6_film_60 : decode cX6_film 60 = .ok (.ifCond .eq 6, 3) := by decide +kernel
theorem dX6_film_63 : decode cX6_film 63 = .ok (.iload 7, 2) := by decide +kernel
theorem dX6_film_65 : decode cX6_film 65 = .ok (.ireturn, 1) := by decide +kernel
theorem dX6_film_66 : decode cX6_film 66 = .ok (.aload_n 0, 1) := by decide +kernel
theorem dX6_film_67 : decode cX6_film 67 = .ok (.getfield 10, 3) := by decide +kernel
theorem dX6_film_70 : decode cX6_film 70 = .ok (.iload_n 1, 1) := by decide +kernel
theorem dX6_film_71 : decode cX6_film 71 = .ok (.aload_n 0, 1) := by decide +kernel
theorem dX6_film_72 : decode cX6_film 72 = .ok (.getfield 49, 3) := by decide +kernel
theorem dX6_film_75 : decode cX6_film 75 = .ok (.invokevirtual 171, 3) := by decide +kernel
theorem dX6_film_78 : decode cX6_film 78 = .ok (.pop, 1) := by decide +kernel
theorem dX6_film_79 : decode cX6_film 79 = .ok (.iconst 0, 1) := by decide +kernel
theorem dX6_film_80 : decode cX6_film 80 = .ok (.istore 8, 2) := by decide +kernel
theorem dX6_film_82 : decode cX6_film 82 = .ok (.iload 8, 2) := by decide +kernel
theorem dX6_film_84 : decode cX6_film 84 = .ok (.iload_n 2, 1) := by decide +kernel
theorem dX6_film_85 : decode cX6_film 85 = .ok (.if_icmp .ge 27, 3) := by decide +kernel
theorem dX6_film_88 : decode cX6_film 88 = .ok (.aload 6, 2) := by decide +kernel
theorem dX6_film_90 : decode cX6_film 90 = .ok (.iload 5, 2) := by decide +kernel
theorem dX6_film_92 : decode cX6_film 92 = .ok (.iload 8, 2) := by decide +kernel
theorem dX6_film_94 : decode cX6_film 94 = .ok (.iadd, 1) := by decide +kernel
theorem dX6_film_95 : decode cX6_film 95 = .ok (.aload_n 0, 1) := by decide +kernel
theorem dX6_film_96 : decode cX6_film 96 = .ok (.getfield 49, 3) := by decide +kernel
theorem dX6_film_99 : decode cX6_film 99 = .ok (.iload 8, 2) := by decide +kernel
theorem dX6_film_101 : decode cX6_film 101 = .ok (.iaload, 1) := by decide +kernel
theorem dX6_film_102 : decode cX6_film 102 = .ok (.i2l, 1) := by decide +kernel
theorem dX6_film_103 : decode cX6_film 103 = .ok (.invokevirtual 249, 3) := by decide +kernel
theorem dX6_film_106 : decode cX6_film 106 = .ok (.iinc 8 1, 3) := by decide +kernel
theorem dX6_film_109 : decode cX6_film 109 = .ok (.goto (-27), 3) := by decide +kernel
theorem dX6_film_112 : decode cX6_film 112 = .ok (.iload_n 2, 1) := by decide +kernel
theorem dX6_film_113 : decode cX6_film 113 = .ok (.ireturn, 1) := by decide +kernel
theorem dX6_sheet_0 : decode cX6_sheet 0 = .ok (.iload_n 1, 1) := by decide +kernel
theorem dX6_sheet_1 : decode cX6_sheet 1 = .ok (.invokestatic 229, 3) := by decide +kernel
theorem dX6_sheet_4 : decode cX6_sheet 4 = .ok (.ifCond .eq 16, 3) := by decide +kernel
theorem dX6_sheet_7 : decode cX6_sheet 7 = .ok (.iload_n 2, 1) := by decide +kernel
theorem dX6_sheet_8 : decode cX6_sheet 8 = .ok (.invokestatic 232, 3) := by decide +kernel
theorem dX6_sheet_11 : decode cX6_sheet 11 = .ok (.ifCond .eq 9, 3) := by decide +kernel
theorem dX6_sheet_14 : decode cX6_sheet 14 = .ok (.iload_n 3, 1) := by decide +kernel
theorem dX6_sheet_15 : decode cX6_sheet 15 = .ok (.bipush 24, 2) := by decide +kernel
theorem dX6_sheet_17 : decode cX6_sheet 17 = .ok (.if_icmp .le 5, 3) := by decide +kernel
theorem dX6_sheet_20 : decode cX6_sheet 20 = .ok (.iconst (-1), 1) := by decide +kernel
theorem dX6_sheet_21 : decode cX6_sheet 21 = .ok (.ireturn, 1) := by decide +kernel
theorem dX6_sheet_22 : decode cX6_sheet 22 = .ok (.iload_n 3, 1) := by decide +kernel
theorem dX6_sheet_23 : decode cX6_sheet 23 = .ok (.ifCond .ge 6, 3) := by decide +kernel
theorem dX6_sheet_26 : decode cX6_sheet 26 = .ok (.bipush (-14), 2) := by decide +kernel
theorem dX6_sheet_28 : decode cX6_sheet 28 = .ok (.ireturn, 1) := by decide +kernel
theorem dX6_sheet_29 : decode cX6_sheet 29 = .ok (.aload_n 0, 1) := by decide +kernel
theorem dX6_sheet_30 : decode cX6_sheet 30 = .ok (.getfield 45, 3) := by decide +kernel
theorem dX6_sheet_33 : decode cX6_sheet 33 = .ok (.iload_n 1, 1) := by decide +kernel
theorem dX6_sheet_34 : decode cX6_sheet 34 = .ok (.aaload, 1) := by decide +kernel
theorem dX6_sheet_35 : decode cX6_sheet 35 = .ok (.iload_n 2, 1) := by decide +kernel
theorem dX6_sheet_36 : decode cX6_sheet 36 = .ok (.iload_n 3, 1) := by decide +kernel
theorem dX6_sheet_37 : decode cX6_sheet 37 = .ok (.invokevirtual 253, 3) := by decide +kernel
theorem dX6_sheet_40 : decode cX6_sheet 40 = .ok (.iload_n 3, 1) := by decide +kernel
theorem dX6_sheet_41 : decode cX6_sheet 41 = .ok (.ireturn, 1) := by decide +kernel
theorem dX6_drop_0 : decode cX6_drop 0 = .ok (.iload_n 1, 1) := by decide +kernel
theorem dX6_drop_1 : decode cX6_drop 1 = .ok (.invokestatic 229, 3) := by decide +kernel
theorem dX6_drop_4 : decode cX6_drop 4 = .ok (.ifCond .ne 5, 3) := by decide +kernel
theorem dX6_drop_7 : decode cX6_drop 7 = .ok (.iconst (-1), 1) := by decide +kernel
theorem dX6_drop_8 : decode cX6_drop 8 = .ok (.ireturn, 1) := by decide +kernel
theorem dX6_drop_9 : decode cX6_drop 9 = .ok (.aload_n 0, 1) := by decide +kernel
theorem dX6_drop_10 : decode cX6_drop 10 = .ok (.getfield 45, 3) := by decide +kernel
theorem dX6_drop_13 : decode cX6_drop 13 = .ok (.iload_n 1, 1) := by decide +kernel
theorem dX6_drop_14 : decode cX6_drop 14 = .ok (.aaload, 1) := by decide +kernel
theorem dX6_drop_15 : decode cX6_drop 15 = .ok (.astore_n 2, 1) := by decide +kernel
theorem dX6_drop_16 : decode cX6_drop 16 = .ok (.aload_n 2, 1) := by decide +kernel
theorem dX6_drop_17 : decode cX6_drop 17 = .ok (.invokevirtual 256, 3) := by decide +kernel
theorem dX6_drop_20 : decode cX6_drop 20 = .ok (.ifCond .eq 6, 3) := by decide +kernel
theorem dX6_drop_23 : decode cX6_drop 23 = .ok (.bipush (-11), 2) := by decide +kernel
theorem dX6_drop_25 : decode cX6_drop 25 = .ok (.ireturn, 1) := by decide +kernel
theorem dX6_drop_26 : decode cX6_drop 26 = .ok (.aload_n 2, 1) := by decide +kernel
theorem dX6_drop_27 : decode cX6_drop 27 = .ok (.getfield 259, 3) := by decide +kernel
theorem dX6_drop_30 : decode cX6_drop 30 = .ok (.istore_n 3, 1) := by decide +kernel
theorem dX6_drop_31 : decode cX6_drop 31 = .ok (.aload_n 2, 1) := by decide +kernel
theorem dX6_drop_32 : decode cX6_drop 32 = .ok (.invokevirtual 260, 3) := by decide +kernel
theorem dX6_drop_35 : decode cX6_drop 35 = .ok (.iload_n 3, 1) := by decide +kernel
theorem dX6_drop_36 : decode cX6_drop 36 = .ok (.ireturn, 1) := by decide +kernel
theorem dX6_item_0 : decode cX6_item 0 = .ok (.iload_n 1, 1) := by decide +kernel
theorem dX6_item_1 : decode cX6_item 1 = .ok (.invokestatic 229, 3) := by decide +kernel
theorem dX6_item_4 : decode cX6_item 4 = .ok (.ifCond .eq 10, 3) := by decide +kernel
theorem dX6_item_7 : decode cX6_item 7 = .ok (.iload_n 2, 1) := by decide +kernel
theorem dX6_item_8 : decode cX6_item 8 = .ok (.invokestatic 232, 3) := by decide +kernel
theorem dX6_item_11 : decode cX6_item 11 = .ok (.ifCond .ne 5, 3) := by decide +kernel
theorem dX6_item_14 : decode cX6_item 14 = .ok (.iconst (-1), 1) := by decide +kernel
theorem dX6_item_15 : decode cX6_item 15 = .ok (.ireturn, 1) := by decide +kernel
theorem dX6_item_16 : decode cX6_item 16 = .ok (.aload_n 0, 1) := by decide +kernel
theorem dX6_item_17 : decode cX6_item 17 = .ok (.getfield 45, 3) := by decide +kernel
theorem dX6_item_20 : decode cX6_item 20 = .ok (.iload_n 1, 1) := by decide +kernel
theorem dX6_item_21 : decode cX6_item 21 = .ok (.aaload, 1) := by decide +kernel
theorem dX6_item_22 : decode cX6_item 22 = .ok (.astore 6, 2) := by decide +kernel
theorem dX6_item_24 : decode cX6_item 24 = .ok (.aload 6, 2) := by decide +kernel
theorem dX6_item_26 : decode cX6_item 26 = .ok (.iload_n 2, 1) := by decide +kernel
theorem dX6_item_27 : decode cX6_item 27 = .ok (.iload_n 3, 1) := by decide +kernel
theorem dX6_item_28 : decode cX6_item 28 = .ok (.iconst 1, 1) := by decide +kernel
theorem dX6_item_29 : decode cX6_item 29 = .ok (.invokevirtual 235, 3) := by decide +kernel
theorem dX6_item_32 : decode cX6_item 32 = .ok (.istore 7, 2) := by decide +kernel
theorem dX6_item_34 : decode cX6_item 34 = .ok (.iload 7, 2) := by decide +kernel
theorem dX6_item_36 : decode cX6_item 36 = .ok (.ifCond .eq 6, 3) := by decide +kernel
theorem dX6_item_39 : decode cX6_item 39 = .ok (.iload 7, 2) := by decide +kernel
theorem dX6_item_41 : decode cX6_item 41 = .ok (.ireturn, 1) := by decide +kernel
theorem dX6_item_42 : decode cX6_item 42 = .ok (.aload 6, 2) := by decide +kernel
theorem dX6_item_44 : decode cX6_item 44 = .ok (.iload_n 3, 1) := by decide +kernel
theorem dX6_item_45 : decode cX6_item 45 = .ok (.lload 4, 2) := by decide +kernel
theorem dX6_item_47 : decode cX6_item 47 = .ok (.invokevirtual 249, 3) := by decide +kernel
theorem dX6_item_50 : decode cX6_item 50 = .ok (.iconst 1, 1) := by decide +kernel
theorem dX6_item_51 : decode cX6_item 51 = .ok (.ireturn, 1) := by decide +kernel
theorem dX6_copy_0 : decode cX6_copy 0 = .ok (.iload_n 1, 1) := by decide +kernel
theorem dX6_copy_1 : decode cX6_copy 1 = .ok (.invokestatic 229, 3) := by decide +kernel
theorem dX6_copy_4 : decode cX6_copy 4 = .ok (.ifCond .eq 10, 3) := by decide +kernel
theorem dX6_copy_7 : decode cX6_copy 7 = .ok (.iload_n 3, 1) := by decide +kernel
theorem dX6_copy_8 : decode cX6_copy 8 = .ok (.invokestatic 229, 3) := by decide +kernel
theorem dX6_copy_11 : decode cX6_copy 11 = .ok (.ifCond .ne 5, 3) := by decide +kernel
theorem dX6_copy_14 : decode cX6_copy 14 = .ok (.iconst (-1), 1) := by decide +kernel
theorem dX6_copy_15 : decode cX6_copy 15 = .ok (.ireturn, 1) := by decide +kernel
theorem dX6_copy_16 : decode cX6_copy 16 = .ok (.aload_n 0, 1) := by decide +kernel
theorem dX6_copy_17 : decode cX6_copy 17 = .ok (.getfield 45, 3) := by decide +kernel
theorem dX6_copy_20 : decode cX6_copy 20 = .ok (.iload_n 1, 1) := by decide +kernel
theorem dX6_copy_21 : decode cX6_copy 21 = .ok (.aaload, 1) := by decide +kernel
theorem dX6_copy_22 : decode cX6_copy 22 = .ok (.astore 6, 2) := by decide +kernel
theorem dX6_copy_24 : decode cX6_copy 24 = .ok (.aload_n 0, 1) := by decide +kernel
theorem dX6_copy_25 : decode cX6_copy 25 = .ok (.getfield 45, 3) := by decide +kernel
theorem dX6_copy_28 : decode cX6_copy 28 = .ok (.iload_n 3, 1) := by decide +kernel
theorem dX6_copy_29 : decode cX6_copy 29 = .ok (.aaload, 1) := by decide +kernel
theorem dX6_copy_30 : decode cX6_copy 30 = .ok (.astore 7, 2) := by decide +kernel
theorem dX6_copy_32 : decode cX6_copy 32 = .ok (.aload 6, 2) := by decide +kernel
theorem dX6_copy_34 : decode cX6_copy 34 = .ok (.invokevirtual 256, 3) := by decide +kernel
theorem dX6_copy_37 : decode cX6_copy 37 = .ok (.ifCond .ne 11, 3) := by decide +kernel
theorem dX6_copy_40 : decode cX6_copy 40 = .ok (.aload 7, 2) := by decide +kernel
theorem dX6_copy_42 : decode cX6_copy 42 = .ok (.invokevirtual 256, 3) := by decide +kernel
theorem dX6_copy_45 : decode cX6_copy 45 = .ok (.ifCond .eq 6, 3) := by decide +kernel
theorem dX6_copy_48 : decode cX6_copy 48 = .ok (.bipush (-11), 2) := by decide +kernel
theorem dX6_copy_50 : decode cX6_copy 50 = .ok (.ireturn, 1) := by decide +kernel
theorem dX6_copy_51 : decode cX6_copy 51 = .ok (.aload 6, 2) := by decide +kernel
theorem dX6_copy_53 : decode cX6_copy 53 = .ok (.getfield 263, 3) := by decide +kernel
theorem dX6_copy_56 : decode cX6_copy 56 = .ok (.aload 7, 2) := by decide +kernel
theorem dX6_copy_58 : decode cX6_copy 58 = .ok (.getfield 263, 3) := by decide +kernel
theorem dX6_copy_61 : decode cX6_copy 61 = .ok (.if_icmp .eq 6, 3) := by decide +kernel
theorem dX6_copy_64 : decode cX6_copy 64 = .ok (.bipush (-12), 2) := by decide +kernel
theorem dX6_copy_66 : decode cX6_copy 66 = .ok (.ireturn, 1) := by decide +kernel
theorem dX6_copy_67 : decode cX6_copy 67 = .ok (.aload 6, 2) := by decide +kernel
theorem dX6_copy_69 : decode cX6_copy 69 = .ok (.iload_n 2, 1) := by decide +kernel
theorem dX6_copy_70 : decode cX6_copy 70 = .ok (.iload 5, 2) := by decide +kernel
theorem dX6_copy_72 : decode cX6_copy 72 = .ok (.invokevirtual 266, 3) := by decide +kernel
theorem dX6_copy_75 : decode cX6_copy 75 = .ok (.ifCond .eq 15, 3) := by decide +kernel
theorem dX6_copy_78 : decode cX6_copy 78 = .ok (.aload 7, 2) := by decide +kernel
theorem dX6_copy_80 : decode cX6_copy 80 = .ok (.iload 4, 2) := by decide +kernel
theorem dX6_copy_82 : decode cX6_copy 82 = .ok (.iload 5, 2) := by decide +kernel
theorem dX6_copy_84 : decode cX6_copy 84 = .ok (.invokevirtual 266, 3) := by decide +kernel
theorem dX6_copy_87 : decode cX6_copy 87 = .ok (.ifCond .ne 6, 3) := by decide +kernel
theorem dX6_copy_90 : decode cX6_copy 90 = .ok (.bipush (-13), 2) := by decide +kernel
theorem dX6_copy_92 : decode cX6_copy 92 = .ok (.ireturn, 1) := by decide +kernel
theorem dX6_copy_93 : decode cX6_copy 93 = .ok (.aload 6, 2) := by decide +kernel
theorem dX6_copy_95 : decode cX6_copy 95 = .ok (.getfield 270, 3) := by decide +kernel
theorem dX6_copy_98 : decode cX6_copy 98 = .ok (.iload_n 2, 1) := by decide +kernel
theorem dX6_copy_99 : decode cX6_copy 99 = .ok (.aload 7, 2) := by decide +kernel
theorem dX6_copy_101 : decode cX6_copy 101 = .ok (.getfield 270, 3) := by decide +kernel
theorem dX6_copy_104 : decode cX6_copy 104 = .ok (.iload 4, 2) := by decide +kernel
theorem dX6_copy_106 : decode cX6_copy 106 = .ok (.iload 5, 2) := by decide +kernel
theorem dX6_copy_108 : decode cX6_copy 108 = .ok (.invokestatic 274, 3) := by decide +kernel
theorem dX6_copy_111 : decode cX6_copy 111 = .ok (.iload 5, 2) := by decide +kernel
theorem dX6_copy_113 : decode cX6_copy 113 = .ok (.ireturn, 1) := by decide +kernel
theorem dX6_within_0 : decode cX6_within 0 = .ok (.iload_n 0, 1) := by decide +kernel
theorem dX6_within_1 : decode cX6_within 1 = .ok (.iload_n 1, 1) := by decide +kernel
theorem dX6_within_2 : decode cX6_within 2 = .ok (.if_icmp .lt 12, 3) := by decide +kernel
theorem dX6_within_5 : decode cX6_within 5 = .ok (.iload_n 0, 1) := by decide +kernel
theorem dX6_within_6 : decode cX6_within 6 = .ok (.iload_n 2, 1) := by decide +kernel
theorem dX6_within_7 : decode cX6_within 7 = .ok (.if_icmp .gt 7, 3) := by decide +kernel
theorem dX6_within_10 : decode cX6_within 10 = .ok (.iconst 1, 1) := by decide +kernel
theorem dX6_within_11 : decode cX6_within 11 = .ok (.goto 4, 3) := by decide +kernel
theorem dX6_within_14 : decode cX6_within 14 = .ok (.iconst 0, 1) := by decide +kernel
theorem dX6_within_15 : decode cX6_within 15 = .ok (.ireturn, 1) := by decide +kernel
theorem dX6_isTurn_0 : decode cX6_isTurn 0 = .ok (.iload_n 0, 1) := by decide +kernel
theorem dX6_isTurn_1 : decode cX6_isTurn 1 = .ok (.iconst 0, 1) := by decide +kernel
theorem dX6_isTurn_2 : decode cX6_isTurn 2 = .ok (.bipush 9, 2) := by decide +kernel
theorem dX6_isTurn_4 : decode cX6_isTurn 4 = .ok (.invokestatic 71, 3) := by decide +kernel
theorem dX6_isTurn_7 : decode cX6_isTurn 7 = .ok (.ireturn, 1) := by decide +kernel
theorem dX6_isOutcome_0 : decode cX6_isOutcome 0 = .ok (.iload_n 0, 1) := by decide +kernel
theorem dX6_isOutcome_1 : decode cX6_isOutcome 1 = .ok (.iconst 0, 1) := by decide +kernel
theorem dX6_isOutcome_2 : decode cX6_isOutcome 2 = .ok (.bipush 7, 2) := by decide +kernel
theorem dX6_isOutcome_4 : decode cX6_isOutcome 4 = .ok (.invokestatic 71, 3) := by decide +kernel
theorem dX6_isOutcome_7 : decode cX6_isOutcome 7 = .ok (.ireturn, 1) := by decide +kernel
theorem dX6_isSheet_0 : decode cX6_isSheet 0 = .ok (.iload_n 0, 1) := by decide +kernel
theorem dX6_isSheet_1 : decode cX6_isSheet 1 = .ok (.iconst 0, 1) := by decide +kernel
theorem dX6_isSheet_2 : decode cX6_isSheet 2 = .ok (.iconst 3, 1) := by decide +kernel
theorem dX6_isSheet_3 : decode cX6_isSheet 3 = .ok (.invokestatic 71, 3) := by decide +kernel
theorem dX6_isSheet_6 : decode cX6_isSheet 6 = .ok (.ireturn, 1) := by decide +kernel
theorem dX6_isLane_0 : decode cX6_isLane 0 = .ok (.iload_n 0, 1) := by decide +kernel
theorem dX6_isLane_1 : decode cX6_isLane 1 = .ok (.iconst 0, 1) := by decide +kernel
theorem dX6_isLane_2 : decode cX6_isLane 2 = .ok (.iconst 3, 1) := by decide +kernel
theorem dX6_isLane_3 : decode cX6_isLane 3 = .ok (.invokestatic 71, 3) := by decide +kernel
theorem dX6_isLane_6 : decode cX6_isLane 6 = .ok (.ireturn, 1) := by decide +kernel
theorem dX6_sum_0 : decode cX6_sum 0 = .ok (.iconst 0, 1) := by decide +kernel
theorem dX6_sum_1 : decode cX6_sum 1 = .ok (.istore_n 1, 1) := by decide +kernel
theorem dX6_sum_2 : decode cX6_sum 2 = .ok (.iconst 0, 1) := by decide +kernel
theorem dX6_sum_3 : decode cX6_sum 3 = .ok (.istore_n 2, 1) := by decide +kernel
theorem dX6_sum_4 : decode cX6_sum 4 = .ok (.iload_n 2, 1) := by decide +kernel
theorem dX6_sum_5 : decode cX6_sum 5 = .ok (.aload_n 0, 1) := by decide +kernel
theorem dX6_sum_6 : decode cX6_sum 6 = .ok (.arraylength, 1) := by decide +kernel
theorem dX6_sum_7 : decode cX6_sum 7 = .ok (.if_icmp .ge 15, 3) := by decide +kernel
theorem dX6_sum_10 : decode cX6_sum 10 = .ok (.iload_n 1, 1) := by decide +kernel
theorem dX6_sum_11 : decode cX6_sum 11 = .ok (.aload_n 0, 1) := by decide +kernel
theorem dX6_sum_12 : decode cX6_sum 12 = .ok (.iload_n 2, 1) := by decide +kernel
theorem dX6_sum_13 : decode cX6_sum 13 = .ok (.iaload, 1) := by decide +kernel
theorem dX6_sum_14 : decode cX6_sum 14 = .ok (.iadd, 1) := by decide +kernel
theorem dX6_sum_15 : decode cX6_sum 15 = .ok (.istore_n 1, 1) := by decide +kernel
theorem dX6_sum_16 : decode cX6_sum 16 = .ok (.iinc 2 1, 3) := by decide +kernel
theorem dX6_sum_19 : decode cX6_sum 19 = .ok (.goto (-15), 3) := by decide +kernel
theorem dX6_sum_22 : decode cX6_sum 22 = .ok (.iload_n 1, 1) := by decide +kernel
theorem dX6_sum_23 : decode cX6_sum 23 = .ok (.ireturn, 1) := by decide +kernel
theorem dX6_firstOfGreatest_0 : decode cX6_firstOfGreatest 0 = .ok (.iconst 0, 1) := by decide +kernel
theorem dX6_firstOfGreatest_1 : decode cX6_firstOfGreatest 1 = .ok (.istore_n 1, 1) := by decide +kernel
theorem dX6_firstOfGreatest_2 : decode cX6_firstOfGreatest 2 = .ok (.iconst 1, 1) := by decide +kernel
theorem dX6_firstOfGreatest_3 : decode cX6_firstOfGreatest 3 = .ok (.istore_n 2, 1) := by decide +kernel
theorem dX6_firstOfGreatest_4 : decode cX6_firstOfGreatest 4 = .ok (.iload_n 2, 1) := by decide +kernel
theorem dX6_firstOfGreatest_5 : decode cX6_firstOfGreatest 5 = .ok (.aload_n 0, 1) := by decide +kernel
theorem dX6_firstOfGreatest_6 : decode cX6_firstOfGreatest 6 = .ok (.arraylength, 1) := by decide +kernel
theorem dX6_firstOfGreatest_7 : decode cX6_firstOfGreatest 7 = .ok (.if_icmp .ge 20, 3) := by decide +kernel
theorem dX6_firstOfGreatest_10 : decode cX6_firstOfGreatest 10 = .ok (.aload_n 0, 1) := by decide +kernel
theorem dX6_firstOfGreatest_11 : decode cX6_firstOfGreatest 11 = .ok (.iload_n 2, 1) := by decide +kernel
theorem dX6_firstOfGreatest_12 : decode cX6_firstOfGreatest 12 = .ok (.iaload, 1) := by decide +kernel
theorem dX6_firstOfGreatest_13 : decode cX6_firstOfGreatest 13 = .ok (.aload_n 0, 1) := by decide +kernel
theorem dX6_firstOfGreatest_14 : decode cX6_firstOfGreatest 14 = .ok (.iload_n 1, 1) := by decide +kernel
theorem dX6_firstOfGreatest_15 : decode cX6_firstOfGreatest 15 = .ok (.iaload, 1) := by decide +kernel
theorem dX6_firstOfGreatest_16 : decode cX6_firstOfGreatest 16 = .ok (.if_icmp .le 5, 3) := by decide +kernel
theorem dX6_firstOfGreatest_19 : decode cX6_firstOfGreatest 19 = .ok (.iload_n 2, 1) := by decide +kernel
theorem dX6_firstOfGreatest_20 : decode cX6_firstOfGreatest 20 = .ok (.istore_n 1, 1) := by decide +kernel
theorem dX6_firstOfGreatest_21 : decode cX6_firstOfGreatest 21 = .ok (.iinc 2 1, 3) := by decide +kernel
theorem dX6_firstOfGreatest_24 : decode cX6_firstOfGreatest 24 = .ok (.goto (-20), 3) := by decide +kernel
theorem dX6_firstOfGreatest_27 : decode cX6_firstOfGreatest 27 = .ok (.iload_n 1, 1) := by decide +kernel
theorem dX6_firstOfGreatest_28 : decode cX6_firstOfGreatest 28 = .ok (.ireturn, 1) := by decide +kernel
theorem dX6_copyRow_0 : decode cX6_copyRow 0 = .ok (.aload_n 0, 1) := by decide +kernel
theorem dX6_copyRow_1 : decode cX6_copyRow 1 = .ok (.iconst 0, 1) := by decide +kernel
theorem dX6_copyRow_2 : decode cX6_copyRow 2 = .ok (.aload_n 1, 1) := by decide +kernel
theorem dX6_copyRow_3 : decode cX6_copyRow 3 = .ok (.iconst 0, 1) := by decide +kernel
theorem dX6_copyRow_4 : decode cX6_copyRow 4 = .ok (.aload_n 0, 1) := by decide +kernel
theorem dX6_copyRow_5 : decode cX6_copyRow 5 = .ok (.arraylength, 1) := by decide +kernel
theorem dX6_copyRow_6 : decode cX6_copyRow 6 = .ok (.aload_n 1, 1) := by decide +kernel
theorem dX6_copyRow_7 : decode cX6_copyRow 7 = .ok (.arraylength, 1) := by decide +kernel
theorem dX6_copyRow_8 : decode cX6_copyRow 8 = .ok (.invokestatic 280, 3) := by decide +kernel
theorem dX6_copyRow_11 : decode cX6_copyRow 11 = .ok (.invokestatic 274, 3) := by decide +kernel
theorem dX6_copyRow_14 : decode cX6_copyRow 14 = .ok (.return_, 1) := by decide +kernel
theorem dX7_in_0 : decode cX7_in 0 = .ok (.lload_n 0, 1) := by decide +kernel
theorem dX7_in_1 : decode cX7_in 1 = .ok (.lload_n 2, 1) := by decide +kernel
theorem dX7_in_2 : decode cX7_in 2 = .ok (.lcmp, 1) := by decide +kernel
theorem dX7_in_3 : decode cX7_in 3 = .ok (.ifCond .lt 14, 3) := by decide +kernel
theorem dX7_in_6 : decode cX7_in 6 = .ok (.lload_n 0, 1) := by decide +kernel
theorem dX7_in_7 : decode cX7_in 7 = .ok (.lload 4, 2) := by decide +kernel
theorem dX7_in_9 : decode cX7_in 9 = .ok (.lcmp, 1) := by decide +kernel
theorem dX7_in_10 : decode cX7_in 10 = .ok (.ifCond .gt 7, 3) := by decide +kernel
theorem dX7_in_13 : decode cX7_in 13 = .ok (.iconst 1, 1) := by decide +kernel
theorem dX7_in_14 : decode cX7_in 14 = .ok (.goto 4, 3) := by decide +kernel
theorem dX7_in_17 : decode cX7_in 17 = .ok (.iconst 0, 1) := by decide +kernel
theorem dX7_in_18 : decode cX7_in 18 = .ok (.ireturn, 1) := by decide +kernel
theorem dX7_init_0 : decode cX7_init 0 = .ok (.aload_n 0, 1) := by decide +kernel
theorem dX7_init_1 : decode cX7_init 1 = .ok (.invokespecial 1, 3) := by decide +kernel
theorem dX7_init_4 : decode cX7_init 4 = .ok (.aload_n 0, 1) := by decide +kernel
theorem dX7_init_5 : decode cX7_init 5 = .ok (.bipush 43, 2) := by decide +kernel
theorem dX7_init_7 : decode cX7_init 7 = .ok (.newarray .int, 2) := by decide +kernel
theorem dX7_init_9 : decode cX7_init 9 = .ok (.putfield 7, 3) := by decide +kernel
theorem dX7_init_12 : decode cX7_init 12 = .ok (.aload_n 0, 1) := by decide +kernel
theorem dX7_init_13 : decode cX7_init 13 = .ok (.bipush 10, 2) := by decide +kernel
theorem dX7_init_15 : decode cX7_init 15 = .ok (.newarray .int, 2) := by decide +kernel
theorem dX7_init_17 : decode cX7_init 17 = .ok (.putfield 13, 3) := by decide +kernel
theorem dX7_init_20 : decode cX7_init 20 = .ok (.aload_n 0, 1) := by decide +kernel
theorem dX7_init_21 : decode cX7_init 21 = .ok (.bipush 70, 2) := by decide +kernel
theorem dX7_init_23 : decode cX7_init 23 = .ok (.newarray .int, 2) := by decide +kernel
theorem dX7_init_25 : decode cX7_init 25 = .ok (.putfield 16, 3) := by decide +kernel
theorem dX7_init_28 : decode cX7_init 28 = .ok (.aload_n 0, 1) := by decide +kernel
theorem dX7_init_29 : decode cX7_init 29 = .ok (.bipush 20, 2) := by decide +kernel
theorem dX7_init_31 : decode cX7_init 31 = .ok (.newarray .int, 2) := by decide +kernel
theorem dX7_init_33 : decode cX7_init 33 = .ok (.putfield 19, 3) := by decide +kernel
theorem dX7_init_36 : decode cX7_init 36 = .ok (.aload_n 0, 1) := by decide +kernel
theorem dX7_init_37 : decode cX7_init 37 = .ok (.bipush 15, 2) := by decide +kernel
theorem dX7_init_39 : decode cX7_init 39 = .ok (.newarray .int, 2) := by decide +kernel
theorem dX7_init_41 : decode cX7_init 41 = .ok (.putfield 22, 3) := by decide +kernel
theorem dX7_init_44 : decode cX7_init 44 = .ok (.aload_n 0, 1) := by decide +kernel
theorem dX7_init_45 : decode cX7_init 45 = .ok (.sipush 344, 3) := by decide +kernel
theorem dX7_init_48 : decode cX7_init 48 = .ok (.newarray .int, 2) := by decide +kernel
theorem dX7_init_50 : decode cX7_init 50 = .ok (.putfield 25, 3) := by decide +kernel
theorem dX7_init_53 : decode cX7_init 53 = .ok (.aload_n 0, 1) := by decide +kernel
theorem dX7_init_54 : decode cX7_init 54 = .ok (.bipush 43, 2) := by decide +kernel
theorem dX7_init_56 : decode cX7_init 56 = .ok (.newarray .int, 2) := by decide +kernel
theorem dX7_init_58 : decode cX7_init 58 = .ok (.putfield 28, 3) := by decide +kernel
theorem dX7_init_61 : decode cX7_init 61 = .ok (.aload_n 0, 1) := by decide +kernel
theorem dX7_init_62 : decode cX7_init 62 = .ok (.iconst 5, 1) := by decide +kernel
theorem dX7_init_63 : decode cX7_init 63 = .ok (.newarray .int, 2) := by decide +kernel
theorem dX7_init_65 : decode cX7_init 65 = .ok (.putfield 31, 3) := by decide +kernel
theorem dX7_init_68 : decode cX7_init 68 = .ok (.aload_n 0, 1) := by decide +kernel
theorem dX7_init_69 : decode cX7_init 69 = .ok (.iconst 5, 1) := by decide +kernel
theorem dX7_init_70 : decode cX7_init 70 = .ok (.newarray .int, 2) := by decide +kernel
theorem dX7_init_72 : decode cX7_init 72 = .ok (.putfield 34, 3) := by decide +kernel
theorem dX7_init_75 : decode cX7_init 75 = .ok (.aload_n 0, 1) := by decide +kernel
theorem dX7_init_76 : decode cX7_init 76 = .ok (.iconst 5, 1) := by decide +kernel
theorem dX7_init_77 : decode cX7_init 77 = .ok (.newarray .int, 2) := by decide +kernel
theorem dX7_init_79 : decode cX7_init 79 = .ok (.putfield 37, 3) := by decide +kernel
theorem dX7_init_82 : decode cX7_init 82 = .ok (.aload_n 0, 1) := by decide +kernel
theorem dX7_init_83 : decode cX7_init 83 = .ok (.sipush 387, 3) := by decide +kernel
theorem dX7_init_86 : decode cX7_init 86 = .ok (.newarray .int, 2) := by decide +kernel
theorem dX7_init_88 : decode cX7_init 88 = .ok (.putfield 40, 3) := by decide +kernel
theorem dX7_init_91 : decode cX7_init 91 = .ok (.aload_n 0, 1) := by decide +kernel
theorem dX7_init_92 : decode cX7_init 92 = .ok (.iconst 4, 1) := by decide +kernel
theorem dX7_init_93 : decode cX7_init 93 = .ok (.newarray .int, 2) := by decide +kernel
theorem dX7_init_95 : decode cX7_init 95 = .ok (.putfield 43, 3) := by decide +kernel
theorem dX7_init_98 : decode cX7_init 98 = .ok (.aload_n 0, 1) := by decide +kernel
theorem dX7_init_99 : decode cX7_init 99 = .ok (.iconst 4, 1) := by decide +kernel
theorem dX7_init_100 : decode cX7_init 100 = .ok (.newarray .int, 2) := by decide +kernel
theorem dX7_init_102 : decode cX7_init 102 = .ok (.putfield 46, 3) := by decide +kernel
theorem dX7_init_105 : decode cX7_init 105 = .ok (.aload_n 0, 1) := by decide +kernel
theorem dX7_init_106 : decode cX7_init 106 = .ok (.bipush 96, 2) := by decide +kernel
theorem dX7_init_108 : decode cX7_init 108 = .ok (.newarray .long, 2) := by decide +kernel
theorem dX7_init_110 : decode cX7_init 110 = .ok (.putfield 49, 3) := by decide +kernel
theorem dX7_init_113 : decode cX7_init 113 = .ok (.aload_n 0, 1) := by decide +kernel
theorem dX7_init_114 : decode cX7_init 114 = .ok (.bipush 24, 2) := by decide +kernel
theorem dX7_init_116 : decode cX7_init 116 = .ok (.newarray .long, 2) := by decide +kernel
theorem dX7_init_118 : decode cX7_init 118 = .ok (.putfield 53, 3) := by decide +kernel
theorem dX7_init_121 : decode cX7_init 121 = .ok (.aload_n 0, 1) := by decide +kernel
theorem dX7_init_122 : decode cX7_init 122 = .ok (.getfield 7, 3) := by decide +kernel
theorem dX7_init_125 : decode cX7_init 125 = .ok (.iconst 2, 1) := by decide +kernel
theorem dX7_init_126 : decode cX7_init 126 = .ok (.iconst 1, 1) := by decide +kernel
theorem dX7_init_127 : decode cX7_init 127 = .ok (.iastore, 1) := by decide +kernel
theorem dX7_init_128 : decode cX7_init 128 = .ok (.iconst 0, 1) := by decide +kernel
theorem dX7_init_129 : decode cX7_init 129 = .ok (.istore_n 1, 1) := by decide +kernel
theorem dX7_init_130 : decode cX7_init 130 = .ok (.iload_n 1, 1) := by decide +kernel
theorem dX7_init_131 : decode cX7_init 131 = .ok (.bipush 10, 2) := by decide +kernel
theorem dX7_init_133 : decode cX7_init 133 = .ok (.if_icmp .ge 18, 3) := by decide +kernel
theorem dX7_init_136 : decode cX7_init 136 = .ok (.aload_n 0, 1) := by decide +kernel
theorem dX7_init_137 : decode cX7_init 137 = .ok (.getfield 7, 3) := by decide +kernel
theorem dX7_init_140 : decode cX7_init 140 = .ok (.iconst 3, 1) := by decide +kernel
theorem dX7_init_141 : decode cX7_init 141 = .ok (.iload_n 1, 1) := by decide +kernel
theorem dX7_init_142 : decode cX7_init 142 = .ok (.iadd, 1) := by decide +kernel
theorem dX7_init_143 : decode cX7_init 143 = .ok (.iconst 1, 1) := by decide +kernel
theorem dX7_init_144 : decode cX7_init 144 = .ok (.iastore, 1) := by decide +kernel
theorem dX7_init_145 : decode cX7_init 145 = .ok (.iinc 1 1, 3) := by decide +kernel
theorem dX7_init_148 : decode cX7_init 148 = .ok (.goto (-18), 3) := by decide +kernel
theorem dX7_init_151 : decode cX7_init 151 = .ok (.iconst 0, 1) := by decide +kernel
theorem dX7_init_152 : decode cX7_init 152 = .ok (.istore_n 1, 1) := by decide +kernel
theorem dX7_init_153 : decode cX7_init 153 = .ok (.iload_n 1, 1) := by decide +kernel
theorem dX7_init_154 : decode cX7_init 154 = .ok (.iconst 4, 1) := by decide +kernel
theorem dX7_init_155 : decode cX7_init 155 = .ok (.if_icmp .ge 16, 3) := by decide +kernel
theorem dX7_init_158 : decode cX7_init 158 = .ok (.aload_n 0, 1) := by decide +kernel
theorem dX7_init_159 : decode cX7_init 159 = .ok (.getfield 43, 3) := by decide +kernel
theorem dX7_init_162 : decode cX7_init 162 = .ok (.iload_n 1, 1) := by decide +kernel
theorem dX7_init_163 : decode cX7_init 163 = .ok (.iconst (-1), 1) := by decide +kernel
theorem dX7_init_164 : decode cX7_init 164 = .ok (.iastore, 1) := by decide +kernel
theorem dX7_init_165 : decode cX7_init 165 = .ok (.iinc 1 1, 3) := by decide +kernel
theorem dX7_init_168 : decode cX7_init 168 = .ok (.goto (-15), 3) := by decide +kernel
theorem dX7_init_171 : decode cX7_init 171 = .ok (.return_, 1) := by decide +kernel
theorem dX7_isRider_0 : decode cX7_isRider 0 = .ok (.iload_n 1, 1) := by decide +kernel
theorem dX7_isRider_1 : decode cX7_isRider 1 = .ok (.i2l, 1) := by decide +kernel
theorem dX7_isRider_2 : decode cX7_isRider 2 = .ok (.lconst 0, 1) := by decide +kernel
theorem dX7_isRider_3 : decode cX7_isRider 3 = .ok (.aload_n 0, 1) := by decide +kernel
theorem dX7_isRider_4 : decode cX7_isRider 4 = .ok (.getfield 7, 3) := by decide +kernel
theorem dX7_isRider_7 : decode cX7_isRider 7 = .ok (.iconst 0, 1) := by decide +kernel
theorem dX7_isRider_8 : decode cX7_isRider 8 = .ok (.iaload, 1) := by decide +kernel
theorem dX7_isRider_9 : decode cX7_isRider 9 = .ok (.iconst 1, 1) := by decide +kernel
theorem dX7_isRider_10 : decode cX7_isRider 10 = .ok (.isub, 1) := by decide +kernel
theorem dX7_isRider_11 : decode cX7_isRider 11 = .ok (.i2l, 1) := by decide +kernel
theorem dX7_isRider_12 : decode cX7_isRider 12 = .ok (.invokestatic 56, 3) := by decide +kernel
theorem dX7_isRider_15 : decode cX7_isRider 15 = .ok (.ireturn, 1) := by decide +kernel
theorem dX7_isTurn_0 : decode cX7_isTurn 0 = .ok (.iload_n 0, 1) := by decide +kernel
theorem dX7_isTurn_1 : decode cX7_isTurn 1 = .ok (.i2l, 1) := by decide +kernel
theorem dX7_isTurn_2 : decode cX7_isTurn 2 = .ok (.lconst 0, 1) := by decide +kernel
theorem dX7_isTurn_3 : decode cX7_isTurn 3 = .ok (.ldc2_w 60, 3) := by decide +kernel
theorem dX7_isTurn_6 : decode cX7_isTurn 6 = .ok (.invokestatic 56, 3) := by decide +kernel
theorem dX7_isTurn_9 : decode cX7_isTurn 9 = .ok (.ireturn, 1) := by decide +kernel
theorem dX7_told_0 : decode cX7_told 0 = .ok (.aload_n 0, 1) := by decide +kernel
theorem dX7_told_1 : decode cX7_told 1 = .ok (.getfield 7, 3) := by decide +kernel
theorem dX7_told_4 : decode cX7_told 4 = .ok (.bipush 23, 2) := by decide +kernel
theorem dX7_told_6 : decode cX7_told 6 = .ok (.iconst 4, 1) := by decide +kernel
theorem dX7_told_7 : decode cX7_told 7 = .ok (.iload_n 1, 1) := by decide +kernel
theorem dX7_told_8 : decode cX7_told 8 = .ok (.imul, 1) := by decide +kernel
theorem dX7_told_9 : decode cX7_told 9 = .ok (.iadd, 1) := by decide +kernel
theorem dX7_told_10 : decode cX7_told 10 = .ok (.iload_n 2, 1) := by decide +kernel
theorem dX7_told_11 : decode cX7_told 11 = .ok (.iadd, 1) := by decide +kernel
theorem dX7_told_12 : decode cX7_told 12 = .ok (.iaload, 1) := by decide +kernel
theorem dX7_told_13 : decode cX7_told 13 = .ok (.ireturn, 1) := by decide +kernel
theorem dX7_tells_0 : decode cX7_tells 0 = .ok (.aload_n 0, 1) := by decide +kernel
theorem dX7_tells_1 : decode cX7_tells 1 = .ok (.getfield 7, 3) := by decide +kernel
theorem dX7_tells_4 : decode cX7_tells 4 = .ok (.bipush 23, 2) := by decide +kernel
theorem dX7_tells_6 : decode cX7_tells 6 = .ok (.iconst 4, 1) := by decide +kernel
theorem dX7_tells_7 : decode cX7_tells 7 = .ok (.iload_n 1, 1) := by decide +kernel
theorem dX7_tells_8 : decode cX7_tells 8 = .ok (.imul, 1) := by decide +kernel
theorem dX7_tells_9 : decode cX7_tells 9 = .ok (.iadd, 1) := by decide +kernel
theorem dX7_tells_10 : decode cX7_tells 10 = .ok (.iload_n 2, 1) := by decide +kernel
theorem dX7_tells_11 : decode cX7_tells 11 = .ok (.iadd, 1) := by decide +kernel
theorem dX7_tells_12 : decode cX7_tells 12 = .ok (.iload_n 3, 1) := by decide +kernel
theorem dX7_tells_13 : decode cX7_tells 13 = .ok (.iastore, 1) := by decide +kernel
theorem dX7_tells_14 : decode cX7_tells 14 = .ok (.return_, 1) := by decide +kernel
theorem dX7_where_0 : decode cX7_where 0 = .ok (.aload_n 0, 1) := by decide +kernel
theorem dX7_where_1 : decode cX7_where 1 = .ok (.iload_n 1, 1) := by decide +kernel
theorem dX7_where_2 : decode cX7_where 2 = .ok (.iconst 3, 1) := by decide +kernel
theorem dX7_where_3 : decode cX7_where 3 = .ok (.invokevirtual 62, 3) := by decide +kernel
theorem dX7_where_6 : decode cX7_where 6 = .ok (.ireturn, 1) := by decide +kernel
theorem dX7_isThrough_0 : decode cX7_isThrough 0 = .ok (.aload_n 0, 1) := by decide +kernel
theorem dX7_isThrough_1 : decode cX7_isThrough 1 = .ok (.iload_n 1, 1) := by decide +kernel
theorem dX7_isThrough_2 : decode cX7_isThrough 2 = .ok (.invokevirtual 66, 3) := by decide +kernel
theorem dX7_isThrough_5 : decode cX7_isThrough 5 = .ok (.bipush 8, 2) := by decide +kernel
theorem dX7_isThrough_7 : decode cX7_isThrough 7 = .ok (.if_icmp .ge 7, 3) := by decide +kernel
theorem dX7_isThrough_10 : decode cX7_isThrough 10 = .ok (.iconst 1, 1) := by decide +kernel
theorem dX7_isThrough_11 : decode cX7_isThrough 11 = .ok (.goto 4, 3) := by decide +kernel
theorem dX7_isThrough_14 : decode cX7_isThrough 14 = .ok (.iconst 0, 1) := by decide +kernel
theorem dX7_isThrough_15 : decode cX7_isThrough 15 = .ok (.ireturn, 1) := by decide +kernel
theorem dX7_whoStuck_0 : decode cX7_whoStuck 0 = .ok (.bipush (-4), 2) := by decide +kernel
theorem dX7_whoStuck_2 : decode cX7_whoStuck 2 = .ok (.istore_n 2, 1) := by decide +kernel
theorem dX7_whoStuck_3 : decode cX7_whoStuck 3 = .ok (.iconst 0, 1) := by decide +kernel
theorem dX7_whoStuck_4 : decode cX7_whoStuck 4 = .ok (.istore_n 3, 1) := by decide +kernel
theorem dX7_whoStuck_5 : decode cX7_whoStuck 5 = .ok (.iload_n 3, 1) := by decide +kernel
theorem dX7_whoStuck_6 : decode cX7_whoStuck 6 = .ok (.aload_n 0, 1) := by decide +kernel
theorem dX7_whoStuck_7 : decode cX7_whoStuck 7 = .ok (.getfield 7, 3) := by decide +kernel
theorem dX7_whoStuck_10 : decode cX7_whoStuck 10 = .ok (.iconst 0, 1) := by decide +kernel
theorem dX7_whoStuck_11 : decode cX7_whoStuck 11 = .ok (.iaload, 1) := by decide +kernel
theorem dX7_whoStuck_12 : decode cX7_whoStuck 12 = .ok (.if_icmp .ge 27, 3) := by decide +kernel
theorem dX7_whoStuck_15 : decode cX7_whoStuck 15 = .ok (.aload_n 0, 1) := by decide +kernel
theorem dX7_whoStuck_16 : decode cX7_whoStuck 16 = .ok (.iload_n 3, 1) := by decide +kernel
theorem dX7_whoStuck_17 : decode cX7_whoStuck 17 = .ok (.invokevirtual 66, 3) := by decide +kernel
theorem dX7_whoStuck_20 : decode cX7_whoStuck 20 = .ok (.bipush 10, 2) := by decide +kernel
theorem dX7_whoStuck_22 : decode cX7_whoStuck 22 = .ok (.iload_n 1, 1) := by decide +kernel
theorem dX7_whoStuck_23 : decode cX7_whoStuck 23 = .ok (.iadd, 1) := by decide +kernel
theorem dX7_whoStuck_24 : decode cX7_whoStuck 24 = .ok (.if_icmp .ne 7, 3) := by decide +kernel
theorem dX7_whoStuck_27 : decode cX7_whoStuck 27 = .ok (.iload_n 3, 1) := by decide +kernel
theorem dX7_whoStuck_28 : decode cX7_whoStuck 28 = .ok (.goto 4, 3) := by decide +kernel
theorem dX7_whoStuck_31 : decode cX7_whoStuck 31 = .ok (.iload_n 2, 1) := by decide +kernel
theorem dX7_whoStuck_32 : decode cX7_whoStuck 32 = .ok (.istore_n 2, 1) := by decide +kernel
theorem dX7_whoStuck_33 : decode cX7_whoStuck 33 = .ok (.iinc 3 1, 3) := by decide +kernel
theorem dX7_whoStuck_36 : decode cX7_whoStuck 36 = .ok (.goto (-31), 3) := by decide +kernel
theorem dX7_whoStuck_39 : decode cX7_whoStuck 39 = .ok (.iload_n 2, 1) := by decide +kernel
theorem dX7_whoStuck_40 : decode cX7_whoStuck 40 = .ok (.ireturn, 1) := by decide +kernel
theorem dX7_gain_0 : decode cX7_gain 0 = .ok (.iconst 2, 1) := by decide +kernel
theorem dX7_gain_1 : decode cX7_gain 1 = .ok (.aload_n 0, 1) := by decide +kernel
theorem dX7_gain_2 : decode cX7_gain 2 = .ok (.iload_n 1, 1) := by decide +kernel
theorem dX7_gain_3 : decode cX7_gain 3 = .ok (.iconst 1, 1) := by decide +kernel
theorem dX7_gain_4 : decode cX7_gain 4 = .ok (.invokevirtual 62, 3) := by decide +kernel
theorem dX7_gain_7 : decode cX7_gain 7 = .ok (.iconst 5, 1) := by decide +kernel
theorem dX7_gain_8 : decode cX7_gain 8 = .ok (.idiv, 1) := by decide +kernel
theorem dX7_gain_9 : decode cX7_gain 9 = .ok (.iadd, 1) := by decide +kernel
theorem dX7_gain_10 : decode cX7_gain 10 = .ok (.istore 4, 2) := by decide +kernel
theorem dX7_gain_12 : decode cX7_gain 12 = .ok (.iload_n 3, 1) := by decide +kernel
theorem dX7_gain_13 : decode cX7_gain 13 = .ok (.bipush 6, 2) := by decide +kernel
theorem dX7_gain_15 : decode cX7_gain 15 = .ok (.if_icmp .lt 7, 3) := by decide +kernel
theorem dX7_gain_18 : decode cX7_gain 18 = .ok (.iconst 0, 1) := by decide +kernel
theorem dX7_gain_19 : decode cX7_gain 19 = .ok (.goto 4, 3) := by decide +kernel
theorem dX7_gain_22 : decode cX7_gain 22 = .ok (.iconst 2, 1) := by decide +kernel
theorem dX7_gain_23 : decode cX7_gain 23 = .ok (.istore 5, 2) := by decide +kernel
theorem dX7_gain_25 : decode cX7_gain 25 = .ok (.aload_n 0, 1) := by decide +kernel
theorem dX7_gain_26 : decode cX7_gain 26 = .ok (.iload_n 1, 1) := by decide +kernel
theorem dX7_gain_27 : decode cX7_gain 27 = .ok (.iconst 0, 1) := by decide +kernel
theorem dX7_gain_28 : decode cX7_gain 28 = .ok (.invokevirtual 62, 3) := by decide +kernel
theorem dX7_gain_31 : decode cX7_gain 31 = .ok (.tableswitch 53 0 3 #[29, 31, 34, 37], 29) := by decide +kernel
theorem dX7_gain_60 : decode cX7_gain 60 = .ok (.iconst 2, 1) := by decide +kernel
theorem dX7_gain_61 : decode cX7_gain 61 = .ok (.ireturn, 1) := by decide +kernel
theorem dX7_gain_62 : decode cX7_gain 62 = .ok (.iload 4, 2) := by decide +kernel
theorem dX7_gain_64 : decode cX7_gain 64 = .ok (.ireturn, 1) := by decide +kernel
theorem dX7_gain_65 : decode cX7_gain 65 = .ok (.iload 5, 2) := by decide +kernel
theorem dX7_gain_67 : decode cX7_gain 67 = .ok (.ireturn, 1) := by decide +kernel
theorem dX7_gain_68 : decode cX7_gain 68 = .ok (.iload_n 2, 1) := by decide +kernel
theorem dX7_gain_69 : decode cX7_gain 69 = .ok (.iconst 2, 1) := by decide +kernel
theorem dX7_gain_70 : decode cX7_gain 70 = .ok (.irem, 1) := by decide +kernel
theorem dX7_gain_71 : decode cX7_gain 71 = .ok (.ifCond .ne 8, 3) := by decide +kernel
theorem dX7_gain_74 : decode cX7_gain 74 = .ok (.iload 4, 2) := by decide +kernel
theorem dX7_gain_76 : decode cX7_gain 76 = .ok (.goto 7, 3) := by decide +kernel
theorem dX7_gain_79 : decode cX7_gain 79 = .ok (.iload 4, 2) := by decide +kernel
theorem dX7_gain_81 : decode cX7_gain 81 = .ok (.iconst 2, 1) := by decide +kernel
theorem dX7_gain_82 : decode cX7_gain 82 = .ok (.idiv, 1) := by decide +kernel
theorem dX7_gain_83 : decode cX7_gain 83 = .ok (.ireturn, 1) := by decide +kernel
theorem dX7_gain_84 : decode cX7_gain 84 = .ok (.iload 5, 2) := by decide +kernel
theorem dX7_gain_86 : decode cX7_gain 86 = .ok (.iconst 2, 1) := by decide +kernel
theorem dX7_gain_87 : decode cX7_gain 87 = .ok (.aload_n 0, 1) := by decide +kernel
theorem dX7_gain_88 : decode cX7_gain 88 = .ok (.getfield 7, 3) := by decide +kernel
theorem dX7_gain_91 : decode cX7_gain 91 = .ok (.bipush 13, 2) := by decide +kernel
theorem dX7_gain_93 : decode cX7_gain 93 = .ok (.iload_n 2, 1) := by decide +kernel
theorem dX7_gain_94 : decode cX7_gain 94 = .ok (.iadd, 1) := by decide +kernel
theorem dX7_gain_95 : decode cX7_gain 95 = .ok (.iaload, 1) := by decide +kernel
theorem dX7_gain_96 : decode cX7_gain 96 = .ok (.imul, 1) := by decide +kernel
theorem dX7_gain_97 : decode cX7_gain 97 = .ok (.iadd, 1) := by decide +kernel
theorem dX7_gain_98 : decode cX7_gain 98 = .ok (.ireturn, 1) := by decide +kernel
theorem dX7_rides_0 : decode cX7_rides 0 = .ok (.iconst 2, 1) := by decide +kernel
theorem dX7_rides_1 : decode cX7_rides 1 = .ok (.istore_n 2, 1) := by decide +kernel
theorem dX7_rides_2 : decode cX7_rides 2 = .ok (.iconst 0, 1) := by decide +kernel
theorem dX7_rides_3 : decode cX7_rides 3 = .ok (.istore_n 3, 1) := by decide +kernel
theorem dX7_rides_4 : decode cX7_rides 4 = .ok (.aload_n 0, 1) := by decide +kernel
theorem dX7_rides_5 : decode cX7_rides 5 = .ok (.iload_n 1, 1) := by decide +kernel
theorem dX7_rides_6 : decode cX7_rides 6 = .ok (.iconst 3, 1) := by decide +kernel
theorem dX7_rides_7 : decode cX7_rides 7 = .ok (.bipush 30, 2) := by decide +kernel
theorem dX7_rides_9 : decode cX7_rides 9 = .ok (.invokevirtual 70, 3) := by decide +kernel
theorem dX7_rides_12 : decode cX7_rides 12 = .ok (.iconst 0, 1) := by decide +kernel
theorem dX7_rides_13 : decode cX7_rides 13 = .ok (.istore 4, 2) := by decide +kernel
theorem dX7_rides_15 : decode cX7_rides 15 = .ok (.iload 4, 2) := by decide +kernel
theorem dX7_rides_17 : decode cX7_rides 17 = .ok (.bipush 10, 2) := by decide +kernel
theorem dX7_rides_19 : decode cX7_rides 19 = .ok (.if_icmp .ge 18, 3) := by decide +kernel
theorem dX7_rides_22 : decode cX7_rides 22 = .ok (.aload_n 0, 1) := by decide +kernel
theorem dX7_rides_23 : decode cX7_rides 23 = .ok (.getfield 13, 3) := by decide +kernel
theorem dX7_rides_26 : decode cX7_rides 26 = .ok (.iload 4, 2) := by decide +kernel
theorem dX7_rides_28 : decode cX7_rides 28 = .ok (.bipush (-4), 2) := by decide +kernel
theorem dX7_rides_30 : decode cX7_rides 30 = .ok (.iastore, 1) := by decide +kernel
theorem dX7_rides_31 : decode cX7_rides 31 = .ok (.iinc 4 1, 3) := by decide +kernel
theorem dX7_rides_34 : decode cX7_rides 34 = .ok (.goto (-19), 3) := by decide +kernel
theorem dX7_rides_37 : decode cX7_rides 37 = .ok (.iload_n 3, 1) := by decide +kernel
theorem dX7_rides_38 : decode cX7_rides 38 = .ok (.bipush 10, 2) := by decide +kernel
theorem dX7_rides_40 : decode cX7_rides 40 = .ok (.if_icmp .ge 100, 3) := by decide +kernel
theorem dX7_rides_43 : decode cX7_rides 43 = .ok (.iload_n 2, 1) := by decide +kernel
theorem dX7_rides_44 : decode cX7_rides 44 = .ok (.aload_n 0, 1) := by decide +kernel
theorem dX7_rides_45 : decode cX7_rides 45 = .ok (.iload_n 1, 1) := by decide +kernel
theorem dX7_rides_46 : decode cX7_rides 46 = .ok (.iload_n 3, 1) := by decide +kernel
theorem dX7_rides_47 : decode cX7_rides 47 = .ok (.iload_n 2, 1) := by decide +kernel
theorem dX7_rides_48 : decode cX7_rides 48 = .ok (.invokevirtual 74, 3) := by decide +kernel
theorem dX7_rides_51 : decode cX7_rides 51 = .ok (.aload_n 0, 1) := by decide +kernel
theorem dX7_rides_52 : decode cX7_rides 52 = .ok (.getfield 7, 3) := by decide +kernel
theorem dX7_rides_55 : decode cX7_rides 55 = .ok (.iconst 3, 1) := by decide +kernel
theorem dX7_rides_56 : decode cX7_rides 56 = .ok (.iload_n 3, 1) := by decide +kernel
theorem dX7_rides_57 : decode cX7_rides 57 = .ok (.iadd, 1) := by decide +kernel
theorem dX7_rides_58 : decode cX7_rides 58 = .ok (.iaload, 1) := by decide +kernel
theorem dX7_rides_59 : decode cX7_rides 59 = .ok (.isub, 1) := by decide +kernel
theorem dX7_rides_60 : decode cX7_rides 60 = .ok (.aload_n 0, 1) := by decide +kernel
theorem dX7_rides_61 : decode cX7_rides 61 = .ok (.getfield 7, 3) := by decide +kernel
theorem dX7_rides_64 : decode cX7_rides 64 = .ok (.bipush 13, 2) := by decide +kernel
theorem dX7_rides_66 : decode cX7_rides 66 = .ok (.iload_n 3, 1) := by decide +kernel
theorem dX7_rides_67 : decode cX7_rides 67 = .ok (.iadd, 1) := by decide +kernel
theorem dX7_rides_68 : decode cX7_rides 68 = .ok (.iaload, 1) := by decide +kernel
theorem dX7_rides_69 : decode cX7_rides 69 = .ok (.isub, 1) := by decide +kernel
theorem dX7_rides_70 : decode cX7_rides 70 = .ok (.iadd, 1) := by decide +kernel
theorem dX7_rides_71 : decode cX7_rides 71 = .ok (.istore_n 2, 1) := by decide +kernel
theorem dX7_rides_72 : decode cX7_rides 72 = .ok (.iload_n 2, 1) := by decide +kernel
theorem dX7_rides_73 : decode cX7_rides 73 = .ok (.bipush 30, 2) := by decide +kernel
theorem dX7_rides_75 : decode cX7_rides 75 = .ok (.if_icmp .le 8, 3) := by decide +kernel
theorem dX7_rides_78 : decode cX7_rides 78 = .ok (.bipush 30, 2) := by decide +kernel
theorem dX7_rides_80 : decode cX7_rides 80 = .ok (.goto 4, 3) := by decide +kernel
theorem dX7_rides_83 : decode cX7_rides 83 = .ok (.iload_n 2, 1) := by decide +kernel
theorem dX7_rides_84 : decode cX7_rides 84 = .ok (.istore_n 2, 1) := by decide +kernel
theorem dX7_rides_85 : decode cX7_rides 85 = .ok (.aload_n 0, 1) := by decide +kernel
theorem dX7_rides_86 : decode cX7_rides 86 = .ok (.iload_n 3, 1) := by decide +kernel
theorem dX7_rides_87 : decode cX7_rides 87 = .ok (.invokevirtual 78, 3) := by decide +kernel
theorem dX7_rides_90 : decode cX7_rides 90 = .ok (.istore 4, 2) := by decide +kernel
theorem dX7_rides_92 : decode cX7_rides 92 = .ok (.iload 4, 2) := by decide +kernel
theorem dX7_rides_94 : decode cX7_rides 94 = .ok (.bipush (-4), 2) := by decide +kernel
theorem dX7_rides_96 : decode cX7_rides 96 = .ok (.if_icmp .eq 24, 3) := by decide +kernel
theorem dX7_rides_99 : decode cX7_rides 99 = .ok (.aload_n 0, 1) := by decide +kernel
theorem dX7_rides_100 : decode cX7_rides 100 = .ok (.iload 4, 2) := by decide +kernel
theorem dX7_rides_102 : decode cX7_rides 102 = .ok (.iconst 3, 1) := by decide +kernel
theorem dX7_rides_103 : decode cX7_rides 103 = .ok (.bipush 30, 2) := by decide +kernel
theorem dX7_rides_105 : decode cX7_rides 105 = .ok (.invokevirtual 70, 3) := by decide +kernel
theorem dX7_rides_108 : decode cX7_rides 108 = .ok (.iload_n 2, 1) := by decide +kernel
theorem dX7_rides_109 : decode cX7_rides 109 = .ok (.ifCond .le 9, 3) := by decide +kernel
theorem dX7_rides_112 : decode cX7_rides 112 = .ok (.iload_n 2, 1) := by decide +kernel
theorem dX7_rides_113 : decode cX7_rides 113 = .ok (.iconst 2, 1) := by decide +kernel
theorem dX7_rides_114 : decode cX7_rides 114 = .ok (.idiv, 1) := by decide +kernel
theorem dX7_rides_115 : decode cX7_rides 115 = .ok (.goto 4, 3) := by decide +kernel
theorem dX7_rides_118 : decode cX7_rides 118 = .ok (.iload_n 2, 1) := by decide +kernel
theorem dX7_rides_119 : decode cX7_rides 119 = .ok (.istore_n 2, 1) := by decide +kernel
theorem dX7_rides_120 : decode cX7_rides 120 = .ok (.iload_n 2, 1) := by decide +kernel
theorem dX7_rides_121 : decode cX7_rides 121 = .ok (.ifCond .gt 6, 3) := by decide +kernel
theorem dX7_rides_124 : decode cX7_rides 124 = .ok (.goto 16, 3) := by decide +kernel
theorem dX7_rides_127 : decode cX7_rides 127 = .ok (.aload_n 0, 1) := by decide +kernel
theorem dX7_rides_128 : decode cX7_rides 128 = .ok (.getfield 13, 3) := by decide +kernel
theorem dX7_rides_131 : decode cX7_rides 131 = .ok (.iload_n 3, 1) := by decide +kernel
theorem dX7_rides_132 : decode cX7_rides 132 = .ok (.iload_n 2, 1) := by decide +kernel
theorem dX7_rides_133 : decode cX7_rides 133 = .ok (.iastore, 1) := by decide +kernel
theorem dX7_rides_134 : decode cX7_rides 134 = .ok (.iinc 3 1, 3) := by decide +kernel
theorem dX7_rides_137 : decode cX7_rides 137 = .ok (.goto (-100), 3) := by decide +kernel
theorem dX7_rides_140 : decode cX7_rides 140 = .ok (.aload_n 0, 1) := by decide +kernel
theorem dX7_rides_141 : decode cX7_rides 141 = .ok (.iload_n 1, 1) := by decide +kernel
theorem dX7_rides_142 : decode cX7_rides 142 = .ok (.iconst 3, 1) := by decide +kernel
theorem dX7_rides_143 : decode cX7_rides 143 = .ok (.iload_n 3, 1) := by decide +kernel
theorem dX7_rides_144 : decode cX7_rides 144 = .ok (.bipush 10, 2) := by decide +kernel
theorem dX7_rides_146 : decode cX7_rides 146 = .ok (.if_icmp .ge 10, 3) := by decide +kernel
theorem dX7_rides_149 : decode cX7_rides 149 = .ok (.bipush 10, 2) := by decide +kernel
theorem dX7_rides_151 : decode cX7_rides 151 = .ok (.iload_n 3, 1) := by decide +kernel
theorem dX7_rides_152 : decode cX7_rides 152 = .ok (.iadd, 1) := by decide +kernel
theorem dX7_rides_153 : decode cX7_rides 153 = .ok (.goto 14, 3) := by decide +kernel
theorem dX7_rides_156 : decode cX7_rides 156 = .ok (.iload_n 2, 1) := by decide +kernel
theorem dX7_rides_157 : decode cX7_rides 157 = .ok (.aload_n 0, 1) := by decide +kernel
theorem dX7_rides_158 : decode cX7_rides 158 = .ok (.iload_n 1, 1) := by decide +kernel
theorem dX7_rides_159 : decode cX7_rides 159 = .ok (.iconst 2, 1) := by decide +kernel
theorem dX7_rides_160 : decode cX7_rides 160 = .ok (.invokevirtual 62, 3) := by decide +kernel
theorem dX7_rides_163 : decode cX7_rides 163 = .ok (.iadd, 1) := by decide +kernel
theorem dX7_rides_164 : decode cX7_rides 164 = .ok (.bipush 8, 2) := by decide +kernel
theorem dX7_rides_166 : decode cX7_rides 166 = .ok (.irem, 1) := by decide +kernel
theorem dX7_rides_167 : decode cX7_rides 167 = .ok (.invokevirtual 70, 3) := by decide +kernel
theorem dX7_rides_170 : decode cX7_rides 170 = .ok (.iconst 0, 1) := by decide +kernel
theorem dX7_rides_171 : decode cX7_rides 171 = .ok (.istore 4, 2) := by decide +kernel
theorem dX7_rides_173 : decode cX7_rides 173 = .ok (.iload 4, 2) := by decide +kernel
theorem dX7_rides_175 : decode cX7_rides 175 = .ok (.iload_n 3, 1) := by decide +kernel
theorem dX7_rides_176 : decode cX7_rides 176 = .ok (.if_icmp .ge 38, 3) := by decide +kernel
theorem dX7_rides_179 : decode cX7_rides 179 = .ok (.aload_n 0, 1) := by decide +kernel
theorem dX7_rides_180 : decode cX7_rides 180 = .ok (.getfield 7, 3) := by decide +kernel
theorem dX7_rides_183 : decode cX7_rides 183 = .ok (.iconst 3, 1) := by decide +kernel
theorem dX7_rides_184 : decode cX7_rides 184 = .ok (.iload 4, 2) := by decide +kernel
theorem dX7_rides_186 : decode cX7_rides 186 = .ok (.iadd, 1) := by decide +kernel
theorem dX7_rides_187 : decode cX7_rides 187 = .ok (.dup2, 1) := by decide +kernel
theorem dX7_rides_188 : decode cX7_rides 188 = .ok (.iaload, 1) := by decide +kernel
theorem dX7_rides_189 : decode cX7_rides 189 = .ok (.aload_n 0, 1) := by decide +kernel
theorem dX7_rides_190 : decode cX7_rides 190 = .ok (.getfield 7, 3) := by decide +kernel
theorem dX7_rides_193 : decode cX7_rides 193 = .ok (.iconst 3, 1) := by decide +kernel
theorem dX7_rides_194 : decode cX7_rides 194 = .ok (.iload 4, 2) := by decide +kernel
theorem dX7_rides_196 : decode cX7_rides 196 = .ok (.iadd, 1) := by decide +kernel
theorem dX7_rides_197 : decode cX7_rides 197 = .ok (.iaload, 1) := by decide +kernel
theorem dX7_rides_198 : decode cX7_rides 198 = .ok (.ifCond .le 7, 3) := by decide +kernel
theorem dX7_rides_201 : decode cX7_rides 201 = .ok (.iconst 1, 1) := by decide +kernel
theorem dX7_rides_202 : decode cX7_rides 202 = .ok (.goto 4, 3) := by decide +kernel
theorem dX7_rides_205 : decode cX7_rides 205 = .ok (.iconst 0, 1) := by decide +kernel
theorem dX7_rides_206 : decode cX7_rides 206 = .ok (.isub, 1) := by decide +kernel
theorem dX7_rides_207 : decode cX7_rides 207 = .ok (.iastore, 1) := by decide +kernel
theorem dX7_rides_208 : decode cX7_rides 208 = .ok (.iinc 4 1, 3) := by decide +kernel
theorem dX7_rides_211 : decode cX7_rides 211 = .ok (.goto (-38), 3) := by decide +kernel
theorem dX7_rides_214 : decode cX7_rides 214 = .ok (.aload_n 0, 1) := by decide +kernel
theorem dX7_rides_215 : decode cX7_rides 215 = .ok (.getfield 7, 3) := by decide +kernel
theorem dX7_rides_218 : decode cX7_rides 218 = .ok (.iconst 1, 1) := by decide +kernel
theorem dX7_rides_219 : decode cX7_rides 219 = .ok (.dup2, 1) := by decide +kernel
theorem dX7_rides_220 : decode cX7_rides 220 = .ok (.iaload, 1) := by decide +kernel
theorem dX7_rides_221 : decode cX7_rides 221 = .ok (.iconst 1, 1) := by decide +kernel
theorem dX7_rides_222 : decode cX7_rides 222 = .ok (.iadd, 1) := by decide +kernel
theorem dX7_rides_223 : decode cX7_rides 223 = .ok (.iastore, 1) := by decide +kernel
theorem dX7_rides_224 : decode cX7_rides 224 = .ok (.aload_n 0, 1) := by decide +kernel
theorem dX7_rides_225 : decode cX7_rides 225 = .ok (.iload_n 1, 1) := by decide +kernel
theorem dX7_rides_226 : decode cX7_rides 226 = .ok (.invokevirtual 66, 3) := by decide +kernel
theorem dX7_rides_229 : decode cX7_rides 229 = .ok (.ireturn, 1) := by decide +kernel
theorem dX7_riderComes_0 : decode cX7_riderComes 0 = .ok (.aload_n 0, 1) := by decide +kernel
theorem dX7_riderComes_1 : decode cX7_riderComes 1 = .ok (.getfield 7, 3) := by decide +kernel
theorem dX7_riderComes_4 : decode cX7_riderComes 4 = .ok (.iconst 0, 1) := by decide +kernel
theorem dX7_riderComes_5 : decode cX7_riderComes 5 = .ok (.iaload, 1) := by decide +kernel
theorem dX7_riderComes_6 : decode cX7_riderComes 6 = .ok (.istore 4, 2) := by decide +kernel
theorem dX7_riderComes_8 : decode cX7_riderComes 8 = .ok (.aload_n 0, 1) := by decide +kernel
theorem dX7_riderComes_9 : decode cX7_riderComes 9 = .ok (.iload 4, 2) := by decide +kernel
theorem dX7_riderComes_11 : decode cX7_riderComes 11 = .ok (.iconst 0, 1) := by decide +kernel
theorem dX7_riderComes_12 : decode cX7_riderComes 12 = .ok (.iload_n 1, 1) := by decide +kernel
theorem dX7_riderComes_13 : decode cX7_riderComes 13 = .ok (.invokevirtual 70, 3) := by decide +kernel
theorem dX7_riderComes_16 : decode cX7_riderComes 16 = .ok (.aload_n 0, 1) := by decide +kernel
theorem dX7_riderComes_17 : decode cX7_riderComes 17 = .ok (.iload 4, 2) := by decide +kernel
theorem dX7_riderComes_19 : decode cX7_riderComes 19 = .ok (.iconst 1, 1) := by decide +kernel
theorem dX7_riderComes_20 : decode cX7_riderComes 20 = .ok (.iload_n 2, 1) := by decide +kernel
theorem dX7_riderComes_21 : decode cX7_riderComes 21 = .ok (.invokevirtual 70, 3) := by decide +kernel
theorem dX7_riderComes_24 : decode cX7_riderComes 24 = .ok (.aload_n 0, 1) := by decide +kernel
theorem dX7_riderComes_25 : decode cX7_riderComes 25 = .ok (.iload 4, 2) := by decide +kernel
theorem dX7_riderComes_27 : decode cX7_riderComes 27 = .ok (.iconst 2, 1) := by decide +kernel
theorem dX7_riderComes_28 : decode cX7_riderComes 28 = .ok (.iload_n 3, 1) := by decide +kernel
theorem dX7_riderComes_29 : decode cX7_riderComes 29 = .ok (.invokevirtual 70, 3) := by decide +kernel
theorem dX7_riderComes_32 : decode cX7_riderComes 32 = .ok (.aload_n 0, 1) := by decide +kernel
theorem dX7_riderComes_33 : decode cX7_riderComes 33 = .ok (.iload 4, 2) := by decide +kernel
theorem dX7_riderComes_35 : decode cX7_riderComes 35 = .ok (.iconst 3, 1) := by decide +kernel
theorem dX7_riderComes_36 : decode cX7_riderComes 36 = .ok (.bipush 30, 2) := by decide +kernel
theorem dX7_riderComes_38 : decode cX7_riderComes 38 = .ok (.invokevirtual 70, 3) := by decide +kernel
theorem dX7_riderComes_41 : decode cX7_riderComes 41 = .ok (.aload_n 0, 1) := by decide +kernel
theorem dX7_riderComes_42 : decode cX7_riderComes 42 = .ok (.getfield 7, 3) := by decide +kernel
theorem dX7_riderComes_45 : decode cX7_riderComes 45 = .ok (.iconst 0, 1) := by decide +kernel
theorem dX7_riderComes_46 : decode cX7_riderComes 46 = .ok (.dup2, 1) := by decide +kernel
theorem dX7_riderComes_47 : decode cX7_riderComes 47 = .ok (.iaload, 1) := by decide +kernel
theorem dX7_riderComes_48 : decode cX7_riderComes 48 = .ok (.iconst 1, 1) := by decide +kernel
theorem dX7_riderComes_49 : decode cX7_riderComes 49 = .ok (.iadd, 1) := by decide +kernel
theorem dX7_riderComes_50 : decode cX7_riderComes 50 = .ok (.iastore, 1) := by decide +kernel
theorem dX7_riderComes_51 : decode cX7_riderComes 51 = .ok (.aload_n 0, 1) := by decide +kernel
theorem dX7_riderComes_52 : decode cX7_riderComes 52 = .ok (.iconst 0, 1) := by decide +kernel
theorem dX7_riderComes_53 : decode cX7_riderComes 53 = .ok (.putfield 81, 3) := by decide +kernel
theorem dX7_riderComes_56 : decode cX7_riderComes 56 = .ok (.return_, 1) := by decide +kernel
theorem dX7_rider_0 : decode cX7_rider 0 = .ok (.iload_n 1, 1) := by decide +kernel
theorem dX7_rider_1 : decode cX7_rider 1 = .ok (.i2l, 1) := by decide +kernel
theorem dX7_rider_2 : decode cX7_rider 2 = .ok (.lconst 0, 1) := by decide +kernel
theorem dX7_rider_3 : decode cX7_rider 3 = .ok (.ldc2_w 85, 3) := by decide +kernel
theorem dX7_rider_6 : decode cX7_rider 6 = .ok (.invokestatic 56, 3) := by decide +kernel
theorem dX7_rider_9 : decode cX7_rider 9 = .ok (.ifCond .eq 27, 3) := by decide +kernel
theorem dX7_rider_12 : decode cX7_rider 12 = .ok (.iload_n 2, 1) := by decide +kernel
theorem dX7_rider_13 : decode cX7_rider 13 = .ok (.i2l, 1) := by decide +kernel
theorem dX7_rider_14 : decode cX7_rider 14 = .ok (.lconst 1, 1) := by decide +kernel
theorem dX7_rider_15 : decode cX7_rider 15 = .ok (.ldc2_w 87, 3) := by decide +kernel
theorem dX7_rider_18 : decode cX7_rider 18 = .ok (.invokestatic 56, 3) := by decide +kernel
theorem dX7_rider_21 : decode cX7_rider 21 = .ok (.ifCond .eq 15, 3) := by decide +kernel
theorem dX7_rider_24 : decode cX7_rider 24 = .ok (.iload_n 3, 1) := by decide +kernel
theorem dX7_rider_25 : decode cX7_rider 25 = .ok (.i2l, 1) := by decide +kernel
theorem dX7_rider_26 : decode cX7_rider 26 = .ok (.lconst 0, 1) := by decide +kernel
theorem dX7_rider_27 : decode cX7_rider 27 = .ok (.ldc2_w 89, 3) := by decide +kernel
theorem dX7_rider_30 : decode cX7_rider 30 = .ok (.invokestatic 56, 3) := by decide +kernel
theorem dX7_rider_33 : decode cX7_rider 33 = .ok (.ifCond .ne 5, 3) := by decide +kernel
theorem dX7_rider_36 : decode cX7_rider 36 = .ok (.iconst (-1), 1) := by decide +kernel
theorem dX7_rider_37 : decode cX7_rider 37 = .ok (.ireturn, 1) := by decide +kernel
theorem dX7_rider_38 : decode cX7_rider 38 = .ok (.aload_n 0, 1) := by decide +kernel
theorem dX7_rider_39 : decode cX7_rider 39 = .ok (.getfield 7, 3) := by decide +kernel
theorem dX7_rider_42 : decode cX7_rider 42 = .ok (.iconst 0, 1) := by decide +kernel
theorem dX7_rider_43 : decode cX7_rider 43 = .ok (.iaload, 1) := by decide +kernel
theorem dX7_rider_44 : decode cX7_rider 44 = .ok (.iconst 5, 1) := by decide +kernel
theorem dX7_rider_45 : decode cX7_rider 45 = .ok (.if_icmp .ne 6, 3) := by decide +kernel
theorem dX7_rider_48 : decode cX7_rider 48 = .ok (.bipush (-3), 2) := by decide +kernel
theorem dX7_rider_50 : decode cX7_rider 50 = .ok (.ireturn, 1) := by decide +kernel
theorem dX7_rider_51 : decode cX7_rider 51 = .ok (.aload_n 0, 1) := by decide +kernel
theorem dX7_rider_52 : decode cX7_rider 52 = .ok (.iload_n 1, 1) := by decide +kernel
theorem dX7_rider_53 : decode cX7_rider 53 = .ok (.iload_n 2, 1) := by decide +kernel
theorem dX7_rider_54 : decode cX7_rider 54 = .ok (.iload_n 3, 1) := by decide +kernel
theorem dX7_rider_55 : decode cX7_rider 55 = .ok (.invokevirtual 91, 3) := by decide +kernel
theorem dX7_rider_58 : decode cX7_rider 58 = .ok (.aload_n 0, 1) := by decide +kernel
theorem dX7_rider_59 : decode cX7_rider 59 = .ok (.getfield 7, 3) := by decide +kernel
theorem dX7_rider_62 : decode cX7_rider 62 = .ok (.iconst 0, 1) := by decide +kernel
theorem dX7_rider_63 : decode cX7_rider 63 = .ok (.iaload, 1) := by decide +kernel
theorem dX7_rider_64 : decode cX7_rider 64 = .ok (.iconst 1, 1) := by decide +kernel
theorem dX7_rider_65 : decode cX7_rider 65 = .ok (.isub, 1) := by decide +kernel
theorem dX7_rider_66 : decode cX7_rider 66 = .ok (.ireturn, 1) := by decide +kernel
theorem dX7_lean_0 : decode cX7_lean 0 = .ok (.aload_n 0, 1) := by decide +kernel
theorem dX7_lean_1 : decode cX7_lean 1 = .ok (.iload_n 1, 1) := by decide +kernel
theorem dX7_lean_2 : decode cX7_lean 2 = .ok (.invokevirtual 94, 3) := by decide +kernel
theorem dX7_lean_5 : decode cX7_lean 5 = .ok (.ifCond .eq 15, 3) := by decide +kernel
theorem dX7_lean_8 : decode cX7_lean 8 = .ok (.iload_n 2, 1) := by decide +kernel
theorem dX7_lean_9 : decode cX7_lean 9 = .ok (.i2l, 1) := by decide +kernel
theorem dX7_lean_10 : decode cX7_lean 10 = .ok (.lconst 0, 1) := by decide +kernel
theorem dX7_lean_11 : decode cX7_lean 11 = .ok (.ldc2_w 89, 3) := by decide +kernel
theorem dX7_lean_14 : decode cX7_lean 14 = .ok (.invokestatic 56, 3) := by decide +kernel
theorem dX7_lean_17 : decode cX7_lean 17 = .ok (.ifCond .ne 5, 3) := by decide +kernel
theorem dX7_lean_20 : decode cX7_lean 20 = .ok (.iconst (-1), 1) := by decide +kernel
theorem dX7_lean_21 : decode cX7_lean 21 = .ok (.ireturn, 1) := by decide +kernel
theorem dX7_lean_22 : decode cX7_lean 22 = .ok (.aload_n 0, 1) := by decide +kernel
theorem dX7_lean_23 : decode cX7_lean 23 = .ok (.iload_n 1, 1) := by decide +kernel
theorem dX7_lean_24 : decode cX7_lean 24 = .ok (.iconst 2, 1) := by decide +kernel
theorem dX7_lean_25 : decode cX7_lean 25 = .ok (.invokevirtual 62, 3) := by decide +kernel
theorem dX7_lean_28 : decode cX7_lean 28 = .ok (.istore_n 3, 1) := by decide +kernel
theorem dX7_lean_29 : decode cX7_lean 29 = .ok (.aload_n 0, 1) := by decide +kernel
theorem dX7_lean_30 : decode cX7_lean 30 = .ok (.iload_n 1, 1) := by decide +kernel
theorem dX7_lean_31 : decode cX7_lean 31 = .ok (.iconst 2, 1) := by decide +kernel
theorem dX7_lean_32 : decode cX7_lean 32 = .ok (.iload_n 2, 1) := by decide +kernel
theorem dX7_lean_33 : decode cX7_lean 33 = .ok (.invokevirtual 70, 3) := by decide +kernel
theorem dX7_lean_36 : decode cX7_lean 36 = .ok (.iload_n 3, 1) := by decide +kernel
theorem dX7_lean_37 : decode cX7_lean 37 = .ok (.ireturn, 1) := by decide +kernel
theorem dX7_of_0 : decode cX7_of 0 = .ok (.aload_n 0, 1) := by decide +kernel
theorem dX7_of_1 : decode cX7_of 1 = .ok (.iload_n 1, 1) := by decide +kernel
theorem dX7_of_2 : decode cX7_of 2 = .ok (.invokevirtual 94, 3) := by decide +kernel
theorem dX7_of_5 : decode cX7_of 5 = .ok (.ifCond .eq 24, 3) := by decide +kernel
theorem dX7_of_8 : decode cX7_of 8 = .ok (.iload_n 2, 1) := by decide +kernel
theorem dX7_of_9 : decode cX7_of 9 = .ok (.i2l, 1) := by decide +kernel
theorem dX7_of_10 : decode cX7_of 10 = .ok (.lconst 0, 1) := by decide +kernel
theorem dX7_of_11 : decode cX7_of 11 = .ok (.ldc2_w 98, 3) := by decide +kernel
theorem dX7_of_14 : decode cX7_of 14 = .ok (.invokestatic 56, 3) := by decide +kernel
theorem dX7_of_17 : decode cX7_of 17 = .ok (.ifCond .eq 12, 3) := by decide +kernel
theorem dX7_of_20 : decode cX7_of 20 = .ok (.aload_n 0, 1) := by decide +kernel
theorem dX7_of_21 : decode cX7_of 21 = .ok (.iload_n 1, 1) := by decide +kernel
theorem dX7_of_22 : decode cX7_of 22 = .ok (.iload_n 2, 1) := by decide +kernel
theorem dX7_of_23 : decode cX7_of 23 = .ok (.invokevirtual 62, 3) := by decide +kernel
theorem dX7_of_26 : decode cX7_of 26 = .ok (.goto 4, 3) := by decide +kernel
theorem dX7_of_29 : decode cX7_of 29 = .ok (.iconst (-1), 1) := by decide +kernel
theorem dX7_of_30 : decode cX7_of 30 = .ok (.ireturn, 1) := by decide +kernel
theorem dX7_at_0 : decode cX7_at 0 = .ok (.iload_n 1, 1) := by decide +kernel
theorem dX7_at_1 : decode cX7_at 1 = .ok (.invokestatic 100, 3) := by decide +kernel
theorem dX7_at_4 : decode cX7_at 4 = .ok (.ifCond .eq 15, 3) := by decide +kernel
theorem dX7_at_7 : decode cX7_at 7 = .ok (.iload_n 2, 1) := by decide +kernel
theorem dX7_at_8 : decode cX7_at 8 = .ok (.i2l, 1) := by decide +kernel
theorem dX7_at_9 : decode cX7_at 9 = .ok (.lconst 0, 1) := by decide +kernel
theorem dX7_at_10 : decode cX7_at 10 = .ok (.ldc2_w 103, 3) := by decide +kernel
theorem dX7_at_13 : decode cX7_at 13 = .ok (.invokestatic 56, 3) := by decide +kernel
theorem dX7_at_16 : decode cX7_at 16 = .ok (.ifCond .ne 5, 3) := by decide +kernel
theorem dX7_at_19 : decode cX7_at 19 = .ok (.iconst (-1), 1) := by decide +kernel
theorem dX7_at_20 : decode cX7_at 20 = .ok (.ireturn, 1) := by decide +kernel
theorem dX7_at_21 : decode cX7_at 21 = .ok (.iload_n 2, 1) := by decide +kernel
theorem dX7_at_22 : decode cX7_at 22 = .ok (.ifCond .ne 14, 3) := by decide +kernel
theorem dX7_at_25 : decode cX7_at 25 = .ok (.aload_n 0, 1) := by decide +kernel
theorem dX7_at_26 : decode cX7_at 26 = .ok (.getfield 7, 3) := by decide +kernel
theorem dX7_at_29 : decode cX7_at 29 = .ok (.iconst 3, 1) := by decide +kernel
theorem dX7_at_30 : decode cX7_at 30 = .ok (.iload_n 1, 1) := by decide +kernel
theorem dX7_at_31 : decode cX7_at 31 = .ok (.iadd, 1) := by decide +kernel
theorem dX7_at_32 : decode cX7_at 32 = .ok (.iaload, 1) := by decide +kernel
theorem dX7_at_33 : decode cX7_at 33 = .ok (.goto 25, 3) := by decide +kernel
theorem dX7_at_36 : decode cX7_at 36 = .ok (.iload_n 2, 1) := by decide +kernel
theorem dX7_at_37 : decode cX7_at 37 = .ok (.iconst 1, 1) := by decide +kernel
theorem dX7_at_38 : decode cX7_at 38 = .ok (.if_icmp .ne 15, 3) := by decide +kernel
theorem dX7_at_41 : decode cX7_at 41 = .ok (.aload_n 0, 1) := by decide +kernel
theorem dX7_at_42 : decode cX7_at 42 = .ok (.getfield 7, 3) := by decide +kernel
theorem dX7_at_45 : decode cX7_at 45 = .ok (.bipush 13, 2) := by decide +kernel
theorem dX7_at_47 : decode cX7_at 47 = .ok (.iload_n 1, 1) := by decide +kernel
theorem dX7_at_48 : decode cX7_at 48 = .ok (.iadd, 1) := by decide +kernel
theorem dX7_at_49 : decode cX7_at 49 = .ok (.iaload, 1) := by decide +kernel
theorem dX7_at_50 : decode cX7_at 50 = .ok (.goto 8, 3) := by decide +kernel
theorem dX7_at_53 : decode cX7_at 53 = .ok (.aload_n 0, 1) := by decide +kernel
theorem dX7_at_54 : decode cX7_at 54 = .ok (.iload_n 1, 1) := by decide +kernel
theorem dX7_at_55 : decode cX7_at 55 = .ok (.invokevirtual 78, 3) := by decide +kernel
theorem dX7_at_58 : decode cX7_at 58 = .ok (.ireturn, 1) := by decide +kernel
theorem dX7_gains_0 : decode cX7_gains 0 = .ok (.aload_n 0, 1) := by decide +kernel
theorem dX7_gains_1 : decode cX7_gains 1 = .ok (.iload_n 1, 1) := by decide +kernel
theorem dX7_gains_2 : decode cX7_gains 2 = .ok (.invokevirtual 94, 3) := by decide +kernel
theorem dX7_gains_5 : decode cX7_gains 5 = .ok (.ifCond .eq 32, 3) := by decide +kernel
theorem dX7_gains_8 : decode cX7_gains 8 = .ok (.iload_n 2, 1) := by decide +kernel
theorem dX7_gains_9 : decode cX7_gains 9 = .ok (.invokestatic 100, 3) := by decide +kernel
theorem dX7_gains_12 : decode cX7_gains 12 = .ok (.ifCond .eq 25, 3) := by decide +kernel
theorem dX7_gains_15 : decode cX7_gains 15 = .ok (.iload_n 3, 1) := by decide +kernel
theorem dX7_gains_16 : decode cX7_gains 16 = .ok (.i2l, 1) := by decide +kernel
theorem dX7_gains_17 : decode cX7_gains 17 = .ok (.lconst 0, 1) := by decide +kernel
theorem dX7_gains_18 : decode cX7_gains 18 = .ok (.ldc2_w 105, 3) := by decide +kernel
theorem dX7_gains_21 : decode cX7_gains 21 = .ok (.invokestatic 56, 3) := by decide +kernel
theorem dX7_gains_24 : decode cX7_gains 24 = .ok (.ifCond .eq 13, 3) := by decide +kernel
theorem dX7_gains_27 : decode cX7_gains 27 = .ok (.aload_n 0, 1) := by decide +kernel
theorem dX7_gains_28 : decode cX7_gains 28 = .ok (.iload_n 1, 1) := by decide +kernel
theorem dX7_gains_29 : decode cX7_gains 29 = .ok (.iload_n 2, 1) := by decide +kernel
theorem dX7_gains_30 : decode cX7_gains 30 = .ok (.iload_n 3, 1) := by decide +kernel
theorem dX7_gains_31 : decode cX7_gains 31 = .ok (.invokevirtual 74, 3) := by decide +kernel
theorem dX7_gains_34 : decode cX7_gains 34 = .ok (.goto 4, 3) := by decide +kernel
theorem dX7_gains_37 : decode cX7_gains 37 = .ok (.iconst (-1), 1) := by decide +kernel
theorem dX7_gains_38 : decode cX7_gains 38 = .ok (.ireturn, 1) := by decide +kernel
theorem dX7_through_0 : decode cX7_through 0 = .ok (.iconst 0, 1) := by decide +kernel
theorem dX7_through_1 : decode cX7_through 1 = .ok (.istore_n 1, 1) := by decide +kernel
theorem dX7_through_2 : decode cX7_through 2 = .ok (.iconst 0, 1) := by decide +kernel
theorem dX7_through_3 : decode cX7_through 3 = .ok (.istore_n 2, 1) := by decide +kernel
theorem dX7_through_4 : decode cX7_through 4 = .ok (.iload_n 2, 1) := by decide +kernel
theorem dX7_through_5 : decode cX7_through 5 = .ok (.aload_n 0, 1) := by decide +kernel
theorem dX7_through_6 : decode cX7_through 6 = .ok (.getfield 7, 3) := by decide +kernel
theorem dX7_through_9 : decode cX7_through 9 = .ok (.iconst 0, 1) := by decide +kernel
theorem dX7_through_10 : decode cX7_through 10 = .ok (.iaload, 1) := by decide +kernel
theorem dX7_through_11 : decode cX7_through 11 = .ok (.if_icmp .ge 27, 3) := by decide +kernel
theorem dX7_through_14 : decode cX7_through 14 = .ok (.iload_n 1, 1) := by decide +kernel
theorem dX7_through_15 : decode cX7_through 15 = .ok (.aload_n 0, 1) := by decide +kernel
theorem dX7_through_16 : decode cX7_through 16 = .ok (.iload_n 2, 1) := by decide +kernel
theorem dX7_through_17 : decode cX7_through 17 = .ok (.invokevirtual 107, 3) := by decide +kernel
theorem dX7_through_20 : decode cX7_through 20 = .ok (.ifCond .eq 9, 3) := by decide +kernel
theorem dX7_through_23 : decode cX7_through 23 = .ok (.iconst 1, 1) := by decide +kernel
theorem dX7_through_24 : decode cX7_through 24 = .ok (.iload_n 2, 1) := by decide +kernel
theorem dX7_through_25 : decode cX7_through 25 = .ok (.ishl, 1) := by decide +kernel
theorem dX7_through_26 : decode cX7_through 26 = .ok (.goto 4, 3) := by decide +kernel
theorem dX7_through_29 : decode cX7_through 29 = .ok (.iconst 0, 1) := by decide +kernel
theorem dX7_through_30 : decode cX7_through 30 = .ok (.ior, 1) := by decide +kernel
theorem dX7_through_31 : decode cX7_through 31 = .ok (.istore_n 1, 1) := by decide +kernel
theorem dX7_through_32 : decode cX7_through 32 = .ok (.iinc 2 1, 3) := by decide +kernel
theorem dX7_through_35 : decode cX7_through 35 = .ok (.goto (-31), 3) := by decide +kernel
theorem dX7_through_38 : decode cX7_through 38 = .ok (.iload_n 1, 1) := by decide +kernel
theorem dX7_through_39 : decode cX7_through 39 = .ok (.ireturn, 1) := by decide +kernel
theorem dX7_atTop_0 : decode cX7_atTop 0 = .ok (.iconst 0, 1) := by decide +kernel
theorem dX7_atTop_1 : decode cX7_atTop 1 = .ok (.istore_n 1, 1) := by decide +kernel
theorem dX7_atTop_2 : decode cX7_atTop 2 = .ok (.iconst 0, 1) := by decide +kernel
theorem dX7_atTop_3 : decode cX7_atTop 3 = .ok (.istore_n 2, 1) := by decide +kernel
theorem dX7_atTop_4 : decode cX7_atTop 4 = .ok (.iload_n 2, 1) := by decide +kernel
theorem dX7_atTop_5 : decode cX7_atTop 5 = .ok (.aload_n 0, 1) := by decide +kernel
theorem dX7_atTop_6 : decode cX7_atTop 6 = .ok (.getfield 7, 3) := by decide +kernel
theorem dX7_atTop_9 : decode cX7_atTop 9 = .ok (.iconst 0, 1) := by decide +kernel
theorem dX7_atTop_10 : decode cX7_atTop 10 = .ok (.iaload, 1) := by decide +kernel
theorem dX7_atTop_11 : decode cX7_atTop 11 = .ok (.if_icmp .ge 29, 3) := by decide +kernel
theorem dX7_atTop_14 : decode cX7_atTop 14 = .ok (.iload_n 1, 1) := by decide +kernel
theorem dX7_atTop_15 : decode cX7_atTop 15 = .ok (.aload_n 0, 1) := by decide +kernel
theorem dX7_atTop_16 : decode cX7_atTop 16 = .ok (.iload_n 2, 1) := by decide +kernel
theorem dX7_atTop_17 : decode cX7_atTop 17 = .ok (.invokevirtual 66, 3) := by decide +kernel
theorem dX7_atTop_20 : decode cX7_atTop 20 = .ok (.bipush 30, 2) := by decide +kernel
theorem dX7_atTop_22 : decode cX7_atTop 22 = .ok (.if_icmp .ne 9, 3) := by decide +kernel
theorem dX7_atTop_25 : decode cX7_atTop 25 = .ok (.iconst 1, 1) := by decide +kernel
theorem dX7_atTop_26 : decode cX7_atTop 26 = .ok (.iload_n 2, 1) := by decide +kernel
theorem dX7_atTop_27 : decode cX7_atTop 27 = .ok (.ishl, 1) := by decide +kernel
theorem dX7_atTop_28 : decode cX7_atTop 28 = .ok (.goto 4, 3) := by decide +kernel
theorem dX7_atTop_31 : decode cX7_atTop 31 = .ok (.iconst 0, 1) := by decide +kernel
theorem dX7_atTop_32 : decode cX7_atTop 32 = .ok (.ior, 1) := by decide +kernel
theorem dX7_atTop_33 : decode cX7_atTop 33 = .ok (.istore_n 1, 1) := by decide +kernel
theorem dX7_atTop_34 : decode cX7_atTop 34 = .ok (.iinc 2 1, 3) := by decide +kernel
theorem dX7_atTop_37 : decode cX7_atTop 37 = .ok (.goto (-33), 3) := by decide +kernel
theorem dX7_atTop_40 : decode cX7_atTop 40 = .ok (.iload_n 1, 1) := by decide +kernel
theorem dX7_atTop_41 : decode cX7_atTop 41 = .ok (.ireturn, 1) := by decide +kernel
theorem dX7_stuckTurns_0 : decode cX7_stuckTurns 0 = .ok (.iconst 0, 1) := by decide +kernel
theorem dX7_stuckTurns_1 : decode cX7_stuckTurns 1 = .ok (.istore_n 1, 1) := by decide +kernel
theorem dX7_stuckTurns_2 : decode cX7_stuckTurns 2 = .ok (.iconst 0, 1) := by decide +kernel
theorem dX7_stuckTurns_3 : decode cX7_stuckTurns 3 = .ok (.istore_n 2, 1) := by decide +kernel
theorem dX7_stuckTurns_4 : decode cX7_stuckTurns 4 = .ok (.iload_n 2, 1) := by decide +kernel
theorem dX7_stuckTurns_5 : decode cX7_stuckTurns 5 = .ok (.bipush 10, 2) := by decide +kernel
theorem dX7_stuckTurns_7 : decode cX7_stuckTurns 7 = .ok (.if_icmp .ge 29, 3) := by decide +kernel
theorem dX7_stuckTurns_10 : decode cX7_stuckTurns 10 = .ok (.iload_n 1, 1) := by decide +kernel
theorem dX7_stuckTurns_11 : decode cX7_stuckTurns 11 = .ok (.aload_n 0, 1) := by decide +kernel
theorem dX7_stuckTurns_12 : decode cX7_stuckTurns 12 = .ok (.iload_n 2, 1) := by decide +kernel
theorem dX7_stuckTurns_13 : decode cX7_stuckTurns 13 = .ok (.invokevirtual 78, 3) := by decide +kernel
theorem dX7_stuckTurns_16 : decode cX7_stuckTurns 16 = .ok (.bipush (-4), 2) := by decide +kernel
theorem dX7_stuckTurns_18 : decode cX7_stuckTurns 18 = .ok (.if_icmp .ne 7, 3) := by decide +kernel
theorem dX7_stuckTurns_21 : decode cX7_stuckTurns 21 = .ok (.iconst 0, 1) := by decide +kernel
theorem dX7_stuckTurns_22 : decode cX7_stuckTurns 22 = .ok (.goto 6, 3) := by decide +kernel
theorem dX7_stuckTurns_25 : decode cX7_stuckTurns 25 = .ok (.iconst 1, 1) := by decide +kernel
theorem dX7_stuckTurns_26 : decode cX7_stuckTurns 26 = .ok (.iload_n 2, 1) := by decide +kernel
theorem dX7_stuckTurns_27 : decode cX7_stuckTurns 27 = .ok (.ishl, 1) := by decide +kernel
theorem dX7_stuckTurns_28 : decode cX7_stuckTurns 28 = .ok (.ior, 1) := by decide +kernel
theorem dX7_stuckTurns_29 : decode cX7_stuckTurns 29 = .ok (.istore_n 1, 1) := by decide +kernel
theorem dX7_stuckTurns_30 : decode cX7_stuckTurns 30 = .ok (.iinc 2 1, 3) := by decide +kernel
theorem dX7_stuckTurns_33 : decode cX7_stuckTurns 33 = .ok (.goto (-29), 3) := by decide +kernel
theorem dX7_stuckTurns_36 : decode cX7_stuckTurns 36 = .ok (.iload_n 1, 1) := by decide +kernel
theorem dX7_stuckTurns_37 : decode cX7_stuckTurns 37 = .ok (.ireturn, 1) := by decide +kernel
theorem dX7_sumOf_0 : decode cX7_sumOf 0 = .ok (.iconst 0, 1) := by decide +kernel
theorem dX7_sumOf_1 : decode cX7_sumOf 1 = .ok (.istore_n 2, 1) := by decide +kernel
theorem dX7_sumOf_2 : decode cX7_sumOf 2 = .ok (.iconst 0, 1) := by decide +kernel
theorem dX7_sumOf_3 : decode cX7_sumOf 3 = .ok (.istore_n 3, 1) := by decide +kernel
theorem dX7_sumOf_4 : decode cX7_sumOf 4 = .ok (.iload_n 3, 1) := by decide +kernel
theorem dX7_sumOf_5 : decode cX7_sumOf 5 = .ok (.bipush 10, 2) := by decide +kernel
theorem dX7_sumOf_7 : decode cX7_sumOf 7 = .ok (.if_icmp .ge 20, 3) := by decide +kernel
theorem dX7_sumOf_10 : decode cX7_sumOf 10 = .ok (.iload_n 2, 1) := by decide +kernel
theorem dX7_sumOf_11 : decode cX7_sumOf 11 = .ok (.aload_n 0, 1) := by decide +kernel
theorem dX7_sumOf_12 : decode cX7_sumOf 12 = .ok (.getfield 7, 3) := by decide +kernel
theorem dX7_sumOf_15 : decode cX7_sumOf 15 = .ok (.iload_n 1, 1) := by decide +kernel
theorem dX7_sumOf_16 : decode cX7_sumOf 16 = .ok (.iload_n 3, 1) := by decide +kernel
theorem dX7_sumOf_17 : decode cX7_sumOf 17 = .ok (.iadd, 1) := by decide +kernel
theorem dX7_sumOf_18 : decode cX7_sumOf 18 = .ok (.iaload, 1) := by decide +kernel
theorem dX7_sumOf_19 : decode cX7_sumOf 19 = .ok (.iadd, 1) := by decide +kernel
theorem dX7_sumOf_20 : decode cX7_sumOf 20 = .ok (.istore_n 2, 1) := by decide +kernel
theorem dX7_sumOf_21 : decode cX7_sumOf 21 = .ok (.iinc 3 1, 3) := by decide +kernel
theorem dX7_sumOf_24 : decode cX7_sumOf 24 = .ok (.goto (-20), 3) := by decide +kernel
theorem dX7_sumOf_27 : decode cX7_sumOf 27 = .ok (.iload_n 2, 1) := by decide +kernel
theorem dX7_sumOf_28 : decode cX7_sumOf 28 = .ok (.ireturn, 1) := by decide +kernel
theorem dX7_many_0 : decode cX7_many 0 = .ok (.iconst 0, 1) := by decide +kernel
theorem dX7_many_1 : decode cX7_many 1 = .ok (.istore_n 1, 1) := by decide +kernel
theorem dX7_many_2 : decode cX7_many 2 = .ok (.iload_n 0, 1) := by decide +kernel
theorem dX7_many_3 : decode cX7_many 3 = .ok (.istore_n 2, 1) := by decide +kernel
theorem dX7_many_4 : decode cX7_many 4 = .ok (.iload_n 2, 1) := by decide +kernel
theorem dX7_many_5 : decode cX7_many 5 = .ok (.ifCond .eq 15, 3) := by decide +kernel
theorem dX7_many_8 : decode cX7_many 8 = .ok (.iinc 1 1, 3) := by decide +kernel
theorem dX7_many_11 : decode cX7_many 11 = .ok (.iload_n 2, 1) := by decide +kernel
theorem dX7_many_12 : decode cX7_many 12 = .ok (.iload_n 2, 1) := by decide +kernel
theorem dX7_many_13 : decode cX7_many 13 = .ok (.iconst 1, 1) := by decide +kernel
theorem dX7_many_14 : decode cX7_many 14 = .ok (.isub, 1) := by decide +kernel
theorem dX7_many_15 : decode cX7_many 15 = .ok (.iand, 1) := by decide +kernel
theorem dX7_many_16 : decode cX7_many 16 = .ok (.istore_n 2, 1) := by decide +kernel
theorem dX7_many_17 : decode cX7_many 17 = .ok (.goto (-13), 3) := by decide +kernel
theorem dX7_many_20 : decode cX7_many 20 = .ok (.iload_n 1, 1) := by decide +kernel
theorem dX7_many_21 : decode cX7_many 21 = .ok (.ireturn, 1) := by decide +kernel
theorem dX7_count_0 : decode cX7_count 0 = .ok (.iload_n 1, 1) := by decide +kernel
theorem dX7_count_1 : decode cX7_count 1 = .ok (.tableswitch 87 0 7 #[47, 47, 54, 59, 64, 69, 75, 82], 47) := by decide +kernel
theorem dX7_count_48 : decode cX7_count 48 = .ok (.aload_n 0, 1) := by decide +kernel
theorem dX7_count_49 : decode cX7_count 49 = .ok (.getfield 7, 3) := by decide +kernel
theorem dX7_count_52 : decode cX7_count 52 = .ok (.iload_n 1, 1) := by decide +kernel
theorem dX7_count_53 : decode cX7_count 53 = .ok (.iaload, 1) := by decide +kernel
theorem dX7_count_54 : decode cX7_count 54 = .ok (.ireturn, 1) := by decide +kernel
theorem dX7_count_55 : decode cX7_count 55 = .ok (.aload_n 0, 1) := by decide +kernel
theorem dX7_count_56 : decode cX7_count 56 = .ok (.invokevirtual 110, 3) := by decide +kernel
theorem dX7_count_59 : decode cX7_count 59 = .ok (.ireturn, 1) := by decide +kernel
theorem dX7_count_60 : decode cX7_count 60 = .ok (.aload_n 0, 1) := by decide +kernel
theorem dX7_count_61 : decode cX7_count 61 = .ok (.invokevirtual 114, 3) := by decide +kernel
theorem dX7_count_64 : decode cX7_count 64 = .ok (.ireturn, 1) := by decide +kernel
theorem dX7_count_65 : decode cX7_count 65 = .ok (.aload_n 0, 1) := by decide +kernel
theorem dX7_count_66 : decode cX7_count 66 = .ok (.invokevirtual 117, 3) := by decide +kernel
theorem dX7_count_69 : decode cX7_count 69 = .ok (.ireturn, 1) := by decide +kernel
theorem dX7_count_70 : decode cX7_count 70 = .ok (.aload_n 0, 1) := by decide +kernel
theorem dX7_count_71 : decode cX7_count 71 = .ok (.iconst 3, 1) := by decide +kernel
theorem dX7_count_72 : decode cX7_count 72 = .ok (.invokevirtual 120, 3) := by decide +kernel
theorem dX7_count_75 : decode cX7_count 75 = .ok (.ireturn, 1) := by decide +kernel
theorem dX7_count_76 : decode cX7_count 76 = .ok (.aload_n 0, 1) := by decide +kernel
theorem dX7_count_77 : decode cX7_count 77 = .ok (.bipush 13, 2) := by decide +kernel
theorem dX7_count_79 : decode cX7_count 79 = .ok (.invokevirtual 120, 3) := by decide +kernel
theorem dX7_count_82 : decode cX7_count 82 = .ok (.ireturn, 1) := by decide +kernel
theorem dX7_count_83 : decode cX7_count 83 = .ok (.aload_n 0, 1) := by decide +kernel
theorem dX7_count_84 : decode cX7_count 84 = .ok (.getfield 81, 3) := by decide +kernel
theorem dX7_count_87 : decode cX7_count 87 = .ok (.ireturn, 1) := by decide +kernel
theorem dX7_count_88 : decode cX7_count 88 = .ok (.iconst (-1), 1) := by decide +kernel
theorem dX7_count_89 : decode cX7_count 89 = .ok (.ireturn, 1) := by decide +kernel
theorem dX7_type_0 : decode cX7_type 0 = .ok (.iload_n 1, 1) := by decide +kernel
theorem dX7_type_1 : decode cX7_type 1 = .ok (.i2l, 1) := by decide +kernel
theorem dX7_type_2 : decode cX7_type 2 = .ok (.ldc2_w 123, 3) := by decide +kernel
theorem dX7_type_5 : decode cX7_type 5 = .ok (.ldc2_w 125, 3) := by decide +kernel
theorem dX7_type_8 : decode cX7_type 8 = .ok (.invokestatic 56, 3) := by decide +kernel
theorem dX7_type_11 : decode cX7_type 11 = .ok (.ifCond .ne 5, 3) := by decide +kernel
theorem dX7_type_14 : decode cX7_type 14 = .ok (.iconst (-1), 1) := by decide +kernel
theorem dX7_type_15 : decode cX7_type 15 = .ok (.ireturn, 1) := by decide +kernel
theorem dX7_type_16 : decode cX7_type 16 = .ok (.aload_n 0, 1) := by decide +kernel
theorem dX7_type_17 : decode cX7_type 17 = .ok (.getfield 127, 3) := by decide +kernel
theorem dX7_type_20 : decode cX7_type 20 = .ok (.bipush 70, 2) := by decide +kernel
theorem dX7_type_22 : decode cX7_type 22 = .ok (.if_icmp .ne 6, 3) := by decide +kernel
theorem dX7_type_25 : decode cX7_type 25 = .ok (.bipush (-3), 2) := by decide +kernel
theorem dX7_type_27 : decode cX7_type 27 = .ok (.ireturn, 1) := by decide +kernel
theorem dX7_type_28 : decode cX7_type 28 = .ok (.aload_n 0, 1) := by decide +kernel
theorem dX7_type_29 : decode cX7_type 29 = .ok (.getfield 16, 3) := by decide +kernel
theorem dX7_type_32 : decode cX7_type 32 = .ok (.aload_n 0, 1) := by decide +kernel
theorem dX7_type_33 : decode cX7_type 33 = .ok (.getfield 127, 3) := by decide +kernel
theorem dX7_type_36 : decode cX7_type 36 = .ok (.iload_n 1, 1) := by decide +kernel
theorem dX7_type_37 : decode cX7_type 37 = .ok (.iastore, 1) := by decide +kernel
theorem dX7_type_38 : decode cX7_type 38 = .ok (.aload_n 0, 1) := by decide +kernel
theorem dX7_type_39 : decode cX7_type 39 = .ok (.dup, 1) := by decide +kernel
theorem dX7_type_40 : decode cX7_type 40 = .ok (.getfield 127, 3) := by decide +kernel
theorem dX7_type_43 : decode cX7_type 43 = .ok (.iconst 1, 1) := by decide +kernel
theorem dX7_type_44 : decode cX7_type 44 = .ok (.iadd, 1) := by decide +kernel
theorem dX7_type_45 : decode cX7_type 45 = .ok (.putfield 127, 3) := by decide +kernel
theorem dX7_type_48 : decode cX7_type 48 = .ok (.aload_n 0, 1) := by decide +kernel
theorem dX7_type_49 : decode cX7_type 49 = .ok (.getfield 127, 3) := by decide +kernel
theorem dX7_type_52 : decode cX7_type 52 = .ok (.ireturn, 1) := by decide +kernel
theorem dX7_here_0 : decode cX7_here 0 = .ok (.aload_n 0, 1) := by decide +kernel
theorem dX7_here_1 : decode cX7_here 1 = .ok (.getfield 130, 3) := by decide +kernel
theorem dX7_here_4 : decode cX7_here 4 = .ok (.aload_n 0, 1) := by decide +kernel
theorem dX7_here_5 : decode cX7_here 5 = .ok (.getfield 127, 3) := by decide +kernel
theorem dX7_here_8 : decode cX7_here 8 = .ok (.if_icmp .ge 30, 3) := by decide +kernel
theorem dX7_here_11 : decode cX7_here 11 = .ok (.aload_n 0, 1) := by decide +kernel
theorem dX7_here_12 : decode cX7_here 12 = .ok (.getfield 16, 3) := by decide +kernel
theorem dX7_here_15 : decode cX7_here 15 = .ok (.aload_n 0, 1) := by decide +kernel
theorem dX7_here_16 : decode cX7_here 16 = .ok (.getfield 130, 3) := by decide +kernel
theorem dX7_here_19 : decode cX7_here 19 = .ok (.iaload, 1) := by decide +kernel
theorem dX7_here_20 : decode cX7_here 20 = .ok (.bipush 32, 2) := by decide +kernel
theorem dX7_here_22 : decode cX7_here 22 = .ok (.if_icmp .ne 16, 3) := by decide +kernel
theorem dX7_here_25 : decode cX7_here 25 = .ok (.aload_n 0, 1) := by decide +kernel
theorem dX7_here_26 : decode cX7_here 26 = .ok (.dup, 1) := by decide +kernel
theorem dX7_here_27 : decode cX7_here 27 = .ok (.getfield 130, 3) := by decide +kernel
theorem dX7_here_30 : decode cX7_here 30 = .ok (.iconst 1, 1) := by decide +kernel
theorem dX7_here_31 : decode cX7_here 31 = .ok (.iadd, 1) := by decide +kernel
theorem dX7_here_32 : decode cX7_here 32 = .ok (.putfield 130, 3) := by decide +kernel
theorem dX7_here_35 : decode cX7_here 35 = .ok (.goto (-35), 3) := by decide +kernel
theorem dX7_here_38 : decode cX7_here 38 = .ok (.aload_n 0, 1) := by decide +kernel
theorem dX7_here_39 : decode cX7_here 39 = .ok (.getfield 130, 3) := by decide +kernel
theorem dX7_here_42 : decode cX7_here 42 = .ok (.aload_n 0, 1) := by decide +kernel
theorem dX7_here_43 : decode cX7_here 43 = .ok (.getfield 127, 3) := by decide +kernel
theorem dX7_here_46 : decode cX7_here 46 = .ok (.if_icmp .ge 15, 3) := by decide +kernel
theorem dX7_here_49 : decode cX7_here 49 = .ok (.aload_n 0, 1) := by decide +kernel
theorem dX7_here_50 : decode cX7_here 50 = .ok (.getfield 16, 3) := by decide +kernel
theorem dX7_here_53 : decode cX7_here 53 = .ok (.aload_n 0, 1) := by decide +kernel
theorem dX7_here_54 : decode cX7_here 54 = .ok (.getfield 130, 3) := by decide +kernel
theorem dX7_here_57 : decode cX7_here 57 = .ok (.iaload, 1) := by decide +kernel
theorem dX7_here_58 : decode cX7_here 58 = .ok (.goto 4, 3) := by decide +kernel
theorem dX7_here_61 : decode cX7_here 61 = .ok (.iconst 0, 1) := by decide +kernel
theorem dX7_here_62 : decode cX7_here 62 = .ok (.ireturn, 1) := by decide +kernel
theorem dX7_must_0 : decode cX7_must 0 = .ok (.aload_n 0, 1) := by decide +kernel
theorem dX7_must_1 : decode cX7_must 1 = .ok (.aload_n 0, 1) := by decide +kernel
theorem dX7_must_2 : decode cX7_must 2 = .ok (.getfield 133, 3) := by decide +kernel
theorem dX7_must_5 : decode cX7_must 5 = .ok (.ifCond .ne 7, 3) := by decide +kernel
theorem dX7_must_8 : decode cX7_must 8 = .ok (.iload_n 1, 1) := by decide +kernel
theorem dX7_must_9 : decode cX7_must 9 = .ok (.ifCond .ne 7, 3) := by decide +kernel
theorem dX7_must_12 : decode cX7_must 12 = .ok (.iconst 1, 1) := by decide +kernel
theorem dX7_must_13 : decode cX7_must 13 = .ok (.goto 4, 3) := by decide +kernel
theorem dX7_must_16 : decode cX7_must 16 = .ok (.iconst 0, 1) := by decide +kernel
theorem dX7_must_17 : decode cX7_must 17 = .ok (.putfield 133, 3) := by decide +kernel
theorem dX7_must_20 : decode cX7_must 20 = .ok (.aload_n 0, 1) := by decide +kernel
theorem dX7_must_21 : decode cX7_must 21 = .ok (.dup, 1) := by decide +kernel
theorem dX7_must_22 : decode cX7_must 22 = .ok (.getfield 130, 3) := by decide +kernel
theorem dX7_must_25 : decode cX7_must 25 = .ok (.aload_n 0, 1) := by decide +kernel
theorem dX7_must_26 : decode cX7_must 26 = .ok (.getfield 133, 3) := by decide +kernel
theorem dX7_must_29 : decode cX7_must 29 = .ok (.ifCond .eq 7, 3) := by decide +kernel
theorem dX7_must_32 : decode cX7_must 32 = .ok (.iconst 0, 1) := by decide +kernel
theorem dX7_must_33 : decode cX7_must 33 = .ok (.goto 4, 3) := by decide +kernel
theorem dX7_must_36 : decode cX7_must 36 = .ok (.iconst 1, 1) := by decide +kernel
theorem dX7_must_37 : decode cX7_must 37 = .ok (.iadd, 1) := by decide +kernel
theorem dX7_must_38 : decode cX7_must 38 = .ok (.putfield 130, 3) := by decide +kernel
theorem dX7_must_41 : decode cX7_must 41 = .ok (.return_, 1) := by decide +kernel
theorem dX7_digit_0 : decode cX7_digit 0 = .ok (.aload_n 0, 1) := by decide +kernel
theorem dX7_digit_1 : decode cX7_digit 1 = .ok (.getfield 133, 3) := by decide +kernel
theorem dX7_digit_4 : decode cX7_digit 4 = .ok (.ifCond .eq 7, 3) := by decide +kernel
theorem dX7_digit_7 : decode cX7_digit 7 = .ok (.iconst (-1), 1) := by decide +kernel
theorem dX7_digit_8 : decode cX7_digit 8 = .ok (.goto 10, 3) := by decide +kernel
theorem dX7_digit_11 : decode cX7_digit 11 = .ok (.aload_n 0, 1) := by decide +kernel
theorem dX7_digit_12 : decode cX7_digit 12 = .ok (.invokevirtual 137, 3) := by decide +kernel
theorem dX7_digit_15 : decode cX7_digit 15 = .ok (.bipush 48, 2) := by decide +kernel
theorem dX7_digit_17 : decode cX7_digit 17 = .ok (.isub, 1) := by decide +kernel
theorem dX7_digit_18 : decode cX7_digit 18 = .ok (.istore_n 3, 1) := by decide +kernel
theorem dX7_digit_19 : decode cX7_digit 19 = .ok (.aload_n 0, 1) := by decide +kernel
theorem dX7_digit_20 : decode cX7_digit 20 = .ok (.iload_n 3, 1) := by decide +kernel
theorem dX7_digit_21 : decode cX7_digit 21 = .ok (.i2l, 1) := by decide +kernel
theorem dX7_digit_22 : decode cX7_digit 22 = .ok (.iload_n 1, 1) := by decide +kernel
theorem dX7_digit_23 : decode cX7_digit 23 = .ok (.i2l, 1) := by decide +kernel
theorem dX7_digit_24 : decode cX7_digit 24 = .ok (.iload_n 2, 1) := by decide +kernel
theorem dX7_digit_25 : decode cX7_digit 25 = .ok (.i2l, 1) := by decide +kernel
theorem dX7_digit_26 : decode cX7_digit 26 = .ok (.invokestatic 56, 3) := by decide +kernel
theorem dX7_digit_29 : decode cX7_digit 29 = .ok (.invokevirtual 140, 3) := by decide +kernel
theorem dX7_digit_32 : decode cX7_digit 32 = .ok (.iload_n 3, 1) := by decide +kernel
theorem dX7_digit_33 : decode cX7_digit 33 = .ok (.ireturn, 1) := by decide +kernel
theorem dX7_number_0 : decode cX7_number 0 = .ok (.aload_n 0, 1) := by decide +kernel
theorem dX7_number_1 : decode cX7_number 1 = .ok (.getfield 133, 3) := by decide +kernel
theorem dX7_number_4 : decode cX7_number 4 = .ok (.ifCond .eq 7, 3) := by decide +kernel
theorem dX7_number_7 : decode cX7_number 7 = .ok (.iconst 0, 1) := by decide +kernel
theorem dX7_number_8 : decode cX7_number 8 = .ok (.goto 7, 3) := by decide +kernel
theorem dX7_number_11 : decode cX7_number 11 = .ok (.aload_n 0, 1) := by decide +kernel
theorem dX7_number_12 : decode cX7_number 12 = .ok (.invokevirtual 137, 3) := by decide +kernel
theorem dX7_number_15 : decode cX7_number 15 = .ok (.istore_n 3, 1) := by decide +kernel
theorem dX7_number_16 : decode cX7_number 16 = .ok (.aload_n 0, 1) := by decide +kernel
theorem dX7_number_17 : decode cX7_number 17 = .ok (.getfield 130, 3) := by decide +kernel
theorem dX7_number_20 : decode cX7_number 20 = .ok (.istore 4, 2) := by decide +kernel
theorem dX7_number_22 : decode cX7_number 22 = .ok (.iconst 0, 1) := by decide +kernel
theorem dX7_number_23 : decode cX7_number 23 = .ok (.istore 5, 2) := by decide +kernel
theorem dX7_number_25 : decode cX7_number 25 = .ok (.aload_n 0, 1) := by decide +kernel
theorem dX7_number_26 : decode cX7_number 26 = .ok (.aload_n 0, 1) := by decide +kernel
theorem dX7_number_27 : decode cX7_number 27 = .ok (.getfield 133, 3) := by decide +kernel
theorem dX7_number_30 : decode cX7_number 30 = .ok (.ifCond .ne 17, 3) := by decide +kernel
theorem dX7_number_33 : decode cX7_number 33 = .ok (.iload_n 3, 1) := by decide +kernel
theorem dX7_number_34 : decode cX7_number 34 = .ok (.i2l, 1) := by decide +kernel
theorem dX7_number_35 : decode cX7_number 35 = .ok (.ldc2_w 144, 3) := by decide +kernel
theorem dX7_number_38 : decode cX7_number 38 = .ok (.ldc2_w 146, 3) := by decide +kernel
theorem dX7_number_41 : decode cX7_number 41 = .ok (.invokestatic 56, 3) := by decide +kernel
theorem dX7_number_44 : decode cX7_number 44 = .ok (.ifCond .ne 7, 3) := by decide +kernel
theorem dX7_number_47 : decode cX7_number 47 = .ok (.iconst 1, 1) := by decide +kernel
theorem dX7_number_48 : decode cX7_number 48 = .ok (.goto 4, 3) := by decide +kernel
theorem dX7_number_51 : decode cX7_number 51 = .ok (.iconst 0, 1) := by decide +kernel
theorem dX7_number_52 : decode cX7_number 52 = .ok (.putfield 133, 3) := by decide +kernel
theorem dX7_number_55 : decode cX7_number 55 = .ok (.aload_n 0, 1) := by decide +kernel
theorem dX7_number_56 : decode cX7_number 56 = .ok (.getfield 133, 3) := by decide +kernel
theorem dX7_number_59 : decode cX7_number 59 = .ok (.ifCond .ne 80, 3) := by decide +kernel
theorem dX7_number_62 : decode cX7_number 62 = .ok (.aload_n 0, 1) := by decide +kernel
theorem dX7_number_63 : decode cX7_number 63 = .ok (.getfield 130, 3) := by decide +kernel
theorem dX7_number_66 : decode cX7_number 66 = .ok (.aload_n 0, 1) := by decide +kernel
theorem dX7_number_67 : decode cX7_number 67 = .ok (.getfield 127, 3) := by decide +kernel
theorem dX7_number_70 : decode cX7_number 70 = .ok (.if_icmp .ge 69, 3) := by decide +kernel
theorem dX7_number_73 : decode cX7_number 73 = .ok (.aload_n 0, 1) := by decide +kernel
theorem dX7_number_74 : decode cX7_number 74 = .ok (.getfield 130, 3) := by decide +kernel
theorem dX7_number_77 : decode cX7_number 77 = .ok (.iload 4, 2) := by decide +kernel
theorem dX7_number_79 : decode cX7_number 79 = .ok (.isub, 1) := by decide +kernel
theorem dX7_number_80 : decode cX7_number 80 = .ok (.iconst 2, 1) := by decide +kernel
theorem dX7_number_81 : decode cX7_number 81 = .ok (.if_icmp .ge 58, 3) := by decide +kernel
theorem dX7_number_84 : decode cX7_number 84 = .ok (.aload_n 0, 1) := by decide +kernel
theorem dX7_number_85 : decode cX7_number 85 = .ok (.getfield 16, 3) := by decide +kernel
theorem dX7_number_88 : decode cX7_number 88 = .ok (.aload_n 0, 1) := by decide +kernel
theorem dX7_number_89 : decode cX7_number 89 = .ok (.getfield 130, 3) := by decide +kernel
theorem dX7_number_92 : decode cX7_number 92 = .ok (.iaload, 1) := by decide +kernel
theorem dX7_number_93 : decode cX7_number 93 = .ok (.i2l, 1) := by decide +kernel
theorem dX7_number_94 : decode cX7_number 94 = .ok (.ldc2_w 144, 3) := by decide +kernel
theorem dX7_number_97 : decode cX7_number 97 = .ok (.ldc2_w 146, 3) := by decide +kernel
theorem dX7_number_100 : decode cX7_number 100 = .ok (.invokestatic 56, 3) := by decide +kernel
theorem dX7_number_103 : decode cX7_number 103 = .ok (.ifCond .eq 36, 3) := by decide +kernel
theorem dX7_number_106 : decode cX7_number 106 = .ok (.bipush 10, 2) := by decide +kernel
theorem dX7_number_108 : decode cX7_number 108 = .ok (.iload 5, 2) := by decide +kernel
theorem dX7_number_110 : decode cX7_number 110 = .ok (.imul, 1) := by decide +kernel
theorem dX7_number_111 : decode cX7_number 111 = .ok (.aload_n 0, 1) := by decide +kernel
theorem dX7_number_112 : decode cX7_number 112 = .ok (.getfield 16, 3) := by decide +kernel
theorem dX7_number_115 : decode cX7_number 115 = .ok (.aload_n 0, 1) := by decide +kernel
theorem dX7_number_116 : decode cX7_number 116 = .ok (.getfield 130, 3) := by decide +kernel
theorem dX7_number_119 : decode cX7_number 119 = .ok (.iaload, 1) := by decide +kernel
theorem dX7_number_120 : decode cX7_number 120 = .ok (.iadd, 1) := by decide +kernel
theorem dX7_number_121 : decode cX7_number 121 = .ok (.bipush 48, 2) := by decide +kernel
theorem dX7_number_123 : decode cX7_number 123 = .ok (.isub, 1) := by decide +kernel
theorem dX7_number_124 : decode cX7_number 124 = .ok (.istore 5, 2) := by decide +kernel
theorem dX7_number_126 : decode cX7_number 126 = .ok (.aload_n 0, 1) := by decide +kernel
theorem dX7_number_127 : decode cX7_number 127 = .ok (.dup, 1) := by decide +kernel
theorem dX7_number_128 : decode cX7_number 128 = .ok (.getfield 130, 3) := by decide +kernel
theorem dX7_number_131 : decode cX7_number 131 = .ok (.iconst 1, 1) := by decide +kernel
theorem dX7_number_132 : decode cX7_number 132 = .ok (.iadd, 1) := by decide +kernel
theorem dX7_number_133 : decode cX7_number 133 = .ok (.putfield 130, 3) := by decide +kernel
theorem dX7_number_136 : decode cX7_number 136 = .ok (.goto (-81), 3) := by decide +kernel
theorem dX7_number_139 : decode cX7_number 139 = .ok (.aload_n 0, 1) := by decide +kernel
theorem dX7_number_140 : decode cX7_number 140 = .ok (.getfield 133, 3) := by decide +kernel
theorem dX7_number_143 : decode cX7_number 143 = .ok (.ifCond .ne 27, 3) := by decide +kernel
theorem dX7_number_146 : decode cX7_number 146 = .ok (.iload 5, 2) := by decide +kernel
theorem dX7_number_148 : decode cX7_number 148 = .ok (.i2l, 1) := by decide +kernel
theorem dX7_number_149 : decode cX7_number 149 = .ok (.iload_n 1, 1) := by decide +kernel
theorem dX7_number_150 : decode cX7_number 150 = .ok (.i2l, 1) := by decide +kernel
theorem dX7_number_151 : decode cX7_number 151 = .ok (.iload_n 2, 1) := by decide +kernel
theorem dX7_number_152 : decode cX7_number 152 = .ok (.i2l, 1) := by decide +kernel
theorem dX7_number_153 : decode cX7_number 153 = .ok (.invokestatic 56, 3) := by decide +kernel
theorem dX7_number_156 : decode cX7_number 156 = .ok (.ifCond .ne 14, 3) := by decide +kernel
theorem dX7_number_159 : decode cX7_number 159 = .ok (.aload_n 0, 1) := by decide +kernel
theorem dX7_number_160 : decode cX7_number 160 = .ok (.iconst 1, 1) := by decide +kernel
theorem dX7_number_161 : decode cX7_number 161 = .ok (.putfield 133, 3) := by decide +kernel
theorem dX7_number_164 : decode cX7_number 164 = .ok (.aload_n 0, 1) := by decide +kernel
theorem dX7_number_165 : decode cX7_number 165 = .ok (.iload 4, 2) := by decide +kernel
theorem dX7_number_167 : decode cX7_number 167 = .ok (.putfield 130, 3) := by decide +kernel
theorem dX7_number_170 : decode cX7_number 170 = .ok (.iload 5, 2) := by decide +kernel
theorem dX7_number_172 : decode cX7_number 172 = .ok (.ireturn, 1) := by decide +kernel
theorem dX7_turnsRead_0 : decode cX7_turnsRead 0 = .ok (.iconst 0, 1) := by decide +kernel
theorem dX7_turnsRead_1 : decode cX7_turnsRead 1 = .ok (.istore_n 1, 1) := by decide +kernel
theorem dX7_turnsRead_2 : decode cX7_turnsRead 2 = .ok (.iload_n 1, 1) := by decide +kernel
theorem dX7_turnsRead_3 : decode cX7_turnsRead 3 = .ok (.bipush 10, 2) := by decide +kernel
theorem dX7_turnsRead_5 : decode cX7_turnsRead 5 = .ok (.if_icmp .ge 74, 3) := by decide +kernel
theorem dX7_turnsRead_8 : decode cX7_turnsRead 8 = .ok (.aload_n 0, 1) := by decide +kernel
theorem dX7_turnsRead_9 : decode cX7_turnsRead 9 = .ok (.getfield 19, 3) := by decide +kernel
theorem dX7_turnsRead_12 : decode cX7_turnsRead 12 = .ok (.iload_n 1, 1) := by decide +kernel
theorem dX7_turnsRead_13 : decode cX7_turnsRead 13 = .ok (.aload_n 0, 1) := by decide +kernel
theorem dX7_turnsRead_14 : decode cX7_turnsRead 14 = .ok (.iconst 0, 1) := by decide +kernel
theorem dX7_turnsRead_15 : decode cX7_turnsRead 15 = .ok (.bipush 9, 2) := by decide +kernel
theorem dX7_turnsRead_17 : decode cX7_turnsRead 17 = .ok (.invokevirtual 148, 3) := by decide +kernel
theorem dX7_turnsRead_20 : decode cX7_turnsRead 20 = .ok (.iastore, 1) := by decide +kernel
theorem dX7_turnsRead_21 : decode cX7_turnsRead 21 = .ok (.aload_n 0, 1) := by decide +kernel
theorem dX7_turnsRead_22 : decode cX7_turnsRead 22 = .ok (.getfield 19, 3) := by decide +kernel
theorem dX7_turnsRead_25 : decode cX7_turnsRead 25 = .ok (.bipush 10, 2) := by decide +kernel
theorem dX7_turnsRead_27 : decode cX7_turnsRead 27 = .ok (.iload_n 1, 1) := by decide +kernel
theorem dX7_turnsRead_28 : decode cX7_turnsRead 28 = .ok (.iadd, 1) := by decide +kernel
theorem dX7_turnsRead_29 : decode cX7_turnsRead 29 = .ok (.iconst 0, 1) := by decide +kernel
theorem dX7_turnsRead_30 : decode cX7_turnsRead 30 = .ok (.iastore, 1) := by decide +kernel
theorem dX7_turnsRead_31 : decode cX7_turnsRead 31 = .ok (.aload_n 0, 1) := by decide +kernel
theorem dX7_turnsRead_32 : decode cX7_turnsRead 32 = .ok (.getfield 133, 3) := by decide +kernel
theorem dX7_turnsRead_35 : decode cX7_turnsRead 35 = .ok (.ifCond .ne 38, 3) := by decide +kernel
theorem dX7_turnsRead_38 : decode cX7_turnsRead 38 = .ok (.aload_n 0, 1) := by decide +kernel
theorem dX7_turnsRead_39 : decode cX7_turnsRead 39 = .ok (.invokevirtual 137, 3) := by decide +kernel
theorem dX7_turnsRead_42 : decode cX7_turnsRead 42 = .ok (.bipush 94, 2) := by decide +kernel
theorem dX7_turnsRead_44 : decode cX7_turnsRead 44 = .ok (.if_icmp .ne 29, 3) := by decide +kernel
theorem dX7_turnsRead_47 : decode cX7_turnsRead 47 = .ok (.aload_n 0, 1) := by decide +kernel
theorem dX7_turnsRead_48 : decode cX7_turnsRead 48 = .ok (.dup, 1) := by decide +kernel
theorem dX7_turnsRead_49 : decode cX7_turnsRead 49 = .ok (.getfield 130, 3) := by decide +kernel
theorem dX7_turnsRead_52 : decode cX7_turnsRead 52 = .ok (.iconst 1, 1) := by decide +kernel
theorem dX7_turnsRead_53 : decode cX7_turnsRead 53 = .ok (.iadd, 1) := by decide +kernel
theorem dX7_turnsRead_54 : decode cX7_turnsRead 54 = .ok (.putfield 130, 3) := by decide +kernel
theorem dX7_turnsRead_57 : decode cX7_turnsRead 57 = .ok (.aload_n 0, 1) := by decide +kernel
theorem dX7_turnsRead_58 : decode cX7_turnsRead 58 = .ok (.getfield 19, 3) := by decide +kernel
theorem dX7_turnsRead_61 : decode cX7_turnsRead 61 = .ok (.bipush 10, 2) := by decide +kernel
theorem dX7_turnsRead_63 : decode cX7_turnsRead 63 = .ok (.iload_n 1, 1) := by decide +kernel
theorem dX7_turnsRead_64 : decode cX7_turnsRead 64 = .ok (.iadd, 1) := by decide +kernel
theorem dX7_turnsRead_65 : decode cX7_turnsRead 65 = .ok (.aload_n 0, 1) := by decide +kernel
theorem dX7_turnsRead_66 : decode cX7_turnsRead 66 = .ok (.iconst 1, 1) := by decide +kernel
theorem dX7_turnsRead_67 : decode cX7_turnsRead 67 = .ok (.bipush 9, 2) := by decide +kernel
theorem dX7_turnsRead_69 : decode cX7_turnsRead 69 = .ok (.invokevirtual 148, 3) := by decide +kernel
theorem dX7_turnsRead_72 : decode cX7_turnsRead 72 = .ok (.iastore, 1) := by decide +kernel
theorem dX7_turnsRead_73 : decode cX7_turnsRead 73 = .ok (.iinc 1 1, 3) := by decide +kernel
theorem dX7_turnsRead_76 : decode cX7_turnsRead 76 = .ok (.goto (-74), 3) := by decide +kernel
theorem dX7_turnsRead_79 : decode cX7_turnsRead 79 = .ok (.return_, 1) := by decide +kernel
theorem dX7_ridersRead_0 : decode cX7_ridersRead 0 = .ok (.iconst 0, 1) := by decide +kernel
theorem dX7_ridersRead_1 : decode cX7_ridersRead 1 = .ok (.istore_n 1, 1) := by decide +kernel
theorem dX7_ridersRead_2 : decode cX7_ridersRead 2 = .ok (.aload_n 0, 1) := by decide +kernel
theorem dX7_ridersRead_3 : decode cX7_ridersRead 3 = .ok (.getfield 133, 3) := by decide +kernel
theorem dX7_ridersRead_6 : decode cX7_ridersRead 6 = .ok (.ifCond .ne 208, 3) := by decide +kernel
theorem dX7_ridersRead_9 : decode cX7_ridersRead 9 = .ok (.iload_n 1, 1) := by decide +kernel
theorem dX7_ridersRead_10 : decode cX7_ridersRead 10 = .ok (.ifCond .eq 12, 3) := by decide +kernel
theorem dX7_ridersRead_13 : decode cX7_ridersRead 13 = .ok (.aload_n 0, 1) := by decide +kernel
theorem dX7_ridersRead_14 : decode cX7_ridersRead 14 = .ok (.invokevirtual 137, 3) := by decide +kernel
theorem dX7_ridersRead_17 : decode cX7_ridersRead 17 = .ok (.bipush 44, 2) := by decide +kernel
theorem dX7_ridersRead_19 : decode cX7_ridersRead 19 = .ok (.if_icmp .ne 195, 3) := by decide +kernel
theorem dX7_ridersRead_22 : decode cX7_ridersRead 22 = .ok (.iload_n 1, 1) := by decide +kernel
theorem dX7_ridersRead_23 : decode cX7_ridersRead 23 = .ok (.ifCond .le 17, 3) := by decide +kernel
theorem dX7_ridersRead_26 : decode cX7_ridersRead 26 = .ok (.aload_n 0, 1) := by decide +kernel
theorem dX7_ridersRead_27 : decode cX7_ridersRead 27 = .ok (.iload_n 1, 1) := by decide +kernel
theorem dX7_ridersRead_28 : decode cX7_ridersRead 28 = .ok (.iconst 5, 1) := by decide +kernel
theorem dX7_ridersRead_29 : decode cX7_ridersRead 29 = .ok (.if_icmp .ge 7, 3) := by decide +kernel
theorem dX7_ridersRead_32 : decode cX7_ridersRead 32 = .ok (.iconst 1, 1) := by decide +kernel
theorem dX7_ridersRead_33 : decode cX7_ridersRead 33 = .ok (.goto 4, 3) := by decide +kernel
theorem dX7_ridersRead_36 : decode cX7_ridersRead 36 = .ok (.iconst 0, 1) := by decide +kernel
theorem dX7_ridersRead_37 : decode cX7_ridersRead 37 = .ok (.invokevirtual 140, 3) := by decide +kernel
theorem dX7_ridersRead_40 : decode cX7_ridersRead 40 = .ok (.aload_n 0, 1) := by decide +kernel
theorem dX7_ridersRead_41 : decode cX7_ridersRead 41 = .ok (.getfield 133, 3) := by decide +kernel
theorem dX7_ridersRead_44 : decode cX7_ridersRead 44 = .ok (.ifCond .eq 7, 3) := by decide +kernel
theorem dX7_ridersRead_47 : decode cX7_ridersRead 47 = .ok (.iconst 0, 1) := by decide +kernel
theorem dX7_ridersRead_48 : decode cX7_ridersRead 48 = .ok (.goto 7, 3) := by decide +kernel
theorem dX7_ridersRead_51 : decode cX7_ridersRead 51 = .ok (.aload_n 0, 1) := by decide +kernel
theorem dX7_ridersRead_52 : decode cX7_ridersRead 52 = .ok (.invokevirtual 137, 3) := by decide +kernel
theorem dX7_ridersRead_55 : decode cX7_ridersRead 55 = .ok (.istore_n 2, 1) := by decide +kernel
theorem dX7_ridersRead_56 : decode cX7_ridersRead 56 = .ok (.iload_n 2, 1) := by decide +kernel
theorem dX7_ridersRead_57 : decode cX7_ridersRead 57 = .ok (.bipush 112, 2) := by decide +kernel
theorem dX7_ridersRead_59 : decode cX7_ridersRead 59 = .ok (.if_icmp .ne 7, 3) := by decide +kernel
theorem dX7_ridersRead_62 : decode cX7_ridersRead 62 = .ok (.iconst 0, 1) := by decide +kernel
theorem dX7_ridersRead_63 : decode cX7_ridersRead 63 = .ok (.goto 44, 3) := by decide +kernel
theorem dX7_ridersRead_66 : decode cX7_ridersRead 66 = .ok (.iload_n 2, 1) := by decide +kernel
theorem dX7_ridersRead_67 : decode cX7_ridersRead 67 = .ok (.bipush 115, 2) := by decide +kernel
theorem dX7_ridersRead_69 : decode cX7_ridersRead 69 = .ok (.if_icmp .ne 7, 3) := by decide +kernel
theorem dX7_ridersRead_72 : decode cX7_ridersRead 72 = .ok (.iconst 1, 1) := by decide +kernel
theorem dX7_ridersRead_73 : decode cX7_ridersRead 73 = .ok (.goto 34, 3) := by decide +kernel
theorem dX7_ridersRead_76 : decode cX7_ridersRead 76 = .ok (.iload_n 2, 1) := by decide +kernel
theorem dX7_ridersRead_77 : decode cX7_ridersRead 77 = .ok (.bipush 99, 2) := by decide +kernel
theorem dX7_ridersRead_79 : decode cX7_ridersRead 79 = .ok (.if_icmp .ne 7, 3) := by decide +kernel
theorem dX7_ridersRead_82 : decode cX7_ridersRead 82 = .ok (.iconst 2, 1) := by decide +kernel
theorem dX7_ridersRead_83 : decode cX7_ridersRead 83 = .ok (.goto 24, 3) := by decide +kernel
theorem dX7_ridersRead_86 : decode cX7_ridersRead 86 = .ok (.iload_n 2, 1) := by decide +kernel
theorem dX7_ridersRead_87 : decode cX7_ridersRead 87 = .ok (.bipush 110, 2) := by decide +kernel
theorem dX7_ridersRead_89 : decode cX7_ridersRead 89 = .ok (.if_icmp .ne 7, 3) := by decide +kernel
theorem dX7_ridersRead_92 : decode cX7_ridersRead 92 = .ok (.iconst 3, 1) := by decide +kernel
theorem dX7_ridersRead_93 : decode cX7_ridersRead 93 = .ok (.goto 14, 3) := by decide +kernel
theorem dX7_ridersRead_96 : decode cX7_ridersRead 96 = .ok (.iload_n 2, 1) := by decide +kernel
theorem dX7_ridersRead_97 : decode cX7_ridersRead 97 = .ok (.bipush 107, 2) := by decide +kernel
theorem dX7_ridersRead_99 : decode cX7_ridersRead 99 = .ok (.if_icmp .ne 7, 3) := by decide +kernel
theorem dX7_ridersRead_102 : decode cX7_ridersRead 102 = .ok (.iconst 4, 1) := by decide +kernel
theorem dX7_ridersRead_103 : decode cX7_ridersRead 103 = .ok (.goto 4, 3) := by decide +kernel
theorem dX7_ridersRead_106 : decode cX7_ridersRead 106 = .ok (.iconst (-1), 1) := by decide +kernel
theorem dX7_ridersRead_107 : decode cX7_ridersRead 107 = .ok (.istore_n 3, 1) := by decide +kernel
theorem dX7_ridersRead_108 : decode cX7_ridersRead 108 = .ok (.aload_n 0, 1) := by decide +kernel
theorem dX7_ridersRead_109 : decode cX7_ridersRead 109 = .ok (.iload_n 3, 1) := by decide +kernel
theorem dX7_ridersRead_110 : decode cX7_ridersRead 110 = .ok (.ifCond .lt 7, 3) := by decide +kernel
theorem dX7_ridersRead_113 : decode cX7_ridersRead 113 = .ok (.iconst 1, 1) := by decide +kernel
theorem dX7_ridersRead_114 : decode cX7_ridersRead 114 = .ok (.goto 4, 3) := by decide +kernel
theorem dX7_ridersRead_117 : decode cX7_ridersRead 117 = .ok (.iconst 0, 1) := by decide +kernel
theorem dX7_ridersRead_118 : decode cX7_ridersRead 118 = .ok (.invokevirtual 140, 3) := by decide +kernel
theorem dX7_ridersRead_121 : decode cX7_ridersRead 121 = .ok (.aload_n 0, 1) := by decide +kernel
theorem dX7_ridersRead_122 : decode cX7_ridersRead 122 = .ok (.iconst 1, 1) := by decide +kernel
theorem dX7_ridersRead_123 : decode cX7_ridersRead 123 = .ok (.bipush 20, 2) := by decide +kernel
theorem dX7_ridersRead_125 : decode cX7_ridersRead 125 = .ok (.invokevirtual 151, 3) := by decide +kernel
theorem dX7_ridersRead_128 : decode cX7_ridersRead 128 = .ok (.istore 4, 2) := by decide +kernel
theorem dX7_ridersRead_130 : decode cX7_ridersRead 130 = .ok (.iconst 0, 1) := by decide +kernel
theorem dX7_ridersRead_131 : decode cX7_ridersRead 131 = .ok (.istore 5, 2) := by decide +kernel
theorem dX7_ridersRead_133 : decode cX7_ridersRead 133 = .ok (.aload_n 0, 1) := by decide +kernel
theorem dX7_ridersRead_134 : decode cX7_ridersRead 134 = .ok (.getfield 133, 3) := by decide +kernel
theorem dX7_ridersRead_137 : decode cX7_ridersRead 137 = .ok (.ifCond .ne 31, 3) := by decide +kernel
theorem dX7_ridersRead_140 : decode cX7_ridersRead 140 = .ok (.aload_n 0, 1) := by decide +kernel
theorem dX7_ridersRead_141 : decode cX7_ridersRead 141 = .ok (.invokevirtual 137, 3) := by decide +kernel
theorem dX7_ridersRead_144 : decode cX7_ridersRead 144 = .ok (.bipush 60, 2) := by decide +kernel
theorem dX7_ridersRead_146 : decode cX7_ridersRead 146 = .ok (.if_icmp .ne 22, 3) := by decide +kernel
theorem dX7_ridersRead_149 : decode cX7_ridersRead 149 = .ok (.aload_n 0, 1) := by decide +kernel
theorem dX7_ridersRead_150 : decode cX7_ridersRead 150 = .ok (.dup, 1) := by decide +kernel
theorem dX7_ridersRead_151 : decode cX7_ridersRead 151 = .ok (.getfield 130, 3) := by decide +kernel
theorem dX7_ridersRead_154 : decode cX7_ridersRead 154 = .ok (.iconst 1, 1) := by decide +kernel
theorem dX7_ridersRead_155 : decode cX7_ridersRead 155 = .ok (.iadd, 1) := by decide +kernel
theorem dX7_ridersRead_156 : decode cX7_ridersRead 156 = .ok (.putfield 130, 3) := by decide +kernel
theorem dX7_ridersRead_159 : decode cX7_ridersRead 159 = .ok (.aload_n 0, 1) := by decide +kernel
theorem dX7_ridersRead_160 : decode cX7_ridersRead 160 = .ok (.iconst 0, 1) := by decide +kernel
theorem dX7_ridersRead_161 : decode cX7_ridersRead 161 = .ok (.bipush 7, 2) := by decide +kernel
theorem dX7_ridersRead_163 : decode cX7_ridersRead 163 = .ok (.invokevirtual 148, 3) := by decide +kernel
theorem dX7_ridersRead_166 : decode cX7_ridersRead 166 = .ok (.istore 5, 2) := by decide +kernel
theorem dX7_ridersRead_168 : decode cX7_ridersRead 168 = .ok (.aload_n 0, 1) := by decide +kernel
theorem dX7_ridersRead_169 : decode cX7_ridersRead 169 = .ok (.getfield 133, 3) := by decide +kernel
theorem dX7_ridersRead_172 : decode cX7_ridersRead 172 = .ok (.ifCond .ne 36, 3) := by decide +kernel
theorem dX7_ridersRead_175 : decode cX7_ridersRead 175 = .ok (.aload_n 0, 1) := by decide +kernel
theorem dX7_ridersRead_176 : decode cX7_ridersRead 176 = .ok (.getfield 22, 3) := by decide +kernel
theorem dX7_ridersRead_179 : decode cX7_ridersRead 179 = .ok (.iconst 3, 1) := by decide +kernel
theorem dX7_ridersRead_180 : decode cX7_ridersRead 180 = .ok (.iload_n 1, 1) := by decide +kernel
theorem dX7_ridersRead_181 : decode cX7_ridersRead 181 = .ok (.imul, 1) := by decide +kernel
theorem dX7_ridersRead_182 : decode cX7_ridersRead 182 = .ok (.iload_n 3, 1) := by decide +kernel
theorem dX7_ridersRead_183 : decode cX7_ridersRead 183 = .ok (.iastore, 1) := by decide +kernel
theorem dX7_ridersRead_184 : decode cX7_ridersRead 184 = .ok (.aload_n 0, 1) := by decide +kernel
theorem dX7_ridersRead_185 : decode cX7_ridersRead 185 = .ok (.getfield 22, 3) := by decide +kernel
theorem dX7_ridersRead_188 : decode cX7_ridersRead 188 = .ok (.iconst 3, 1) := by decide +kernel
theorem dX7_ridersRead_189 : decode cX7_ridersRead 189 = .ok (.iload_n 1, 1) := by decide +kernel
theorem dX7_ridersRead_190 : decode cX7_ridersRead 190 = .ok (.imul, 1) := by decide +kernel
theorem dX7_ridersRead_191 : decode cX7_ridersRead 191 = .ok (.iconst 1, 1) := by decide +kernel
theorem dX7_ridersRead_192 : decode cX7_ridersRead 192 = .ok (.iadd, 1) := by decide +kernel
theorem dX7_ridersRead_193 : decode cX7_ridersRead 193 = .ok (.iload 4, 2) := by decide +kernel
theorem dX7_ridersRead_195 : decode cX7_ridersRead 195 = .ok (.iastore, 1) := by decide +kernel
theorem dX7_ridersRead_196 : decode cX7_ridersRead 196 = .ok (.aload_n 0, 1) := by decide +kernel
theorem dX7_ridersRead_197 : decode cX7_ridersRead 197 = .ok (.getfield 22, 3) := by decide +kernel
theorem dX7_ridersRead_200 : decode cX7_ridersRead 200 = .ok (.iconst 3, 1) := by decide +kernel
theorem dX7_ridersRead_201 : decode cX7_ridersRead 201 = .ok (.iload_n 1, 1) := by decide +kernel
theorem dX7_ridersRead_202 : decode cX7_ridersRead 202 = .ok (.imul, 1) := by decide +kernel
theorem dX7_ridersRead_203 : decode cX7_ridersRead 203 = .ok (.iconst 2, 1) := by decide +kernel
theorem dX7_ridersRead_204 : decode cX7_ridersRead 204 = .ok (.iadd, 1) := by decide +kernel
theorem dX7_ridersRead_205 : decode cX7_ridersRead 205 = .ok (.iload 5, 2) := by decide +kernel
theorem dX7_ridersRead_207 : decode cX7_ridersRead 207 = .ok (.iastore, 1) := by decide +kernel
theorem dX7_ridersRead_208 : decode cX7_ridersRead 208 = .ok (.iinc 1 1, 3) := by decide +kernel
theorem dX7_ridersRead_211 : decode cX7_ridersRead 211 = .ok (.goto (-209), 3) := by decide +kernel
theorem dX7_ridersRead_214 : decode cX7_ridersRead 214 = .ok (.iload_n 1, 1) := by decide +kernel
theorem dX7_ridersRead_215 : decode cX7_ridersRead 215 = .ok (.ireturn, 1) := by decide +kernel
theorem dX7_slide_0 : decode cX7_slide 0 = .ok (.aload_n 0, 1) := by decide +kernel
theorem dX7_slide_1 : decode cX7_slide 1 = .ok (.iconst 0, 1) := by decide +kernel
theorem dX7_slide_2 : decode cX7_slide 2 = .ok (.putfield 130, 3) := by decide +kernel
theorem dX7_slide_5 : decode cX7_slide 5 = .ok (.aload_n 0, 1) := by decide +kernel
theorem dX7_slide_6 : decode cX7_slide 6 = .ok (.iconst 0, 1) := by decide +kernel
theorem dX7_slide_7 : decode cX7_slide 7 = .ok (.putfield 133, 3) := by decide +kernel
theorem dX7_slide_10 : decode cX7_slide 10 = .ok (.aload_n 0, 1) := by decide +kernel
theorem dX7_slide_11 : decode cX7_slide 11 = .ok (.invokevirtual 154, 3) := by decide +kernel
theorem dX7_slide_14 : decode cX7_slide 14 = .ok (.iconst 0, 1) := by decide +kernel
theorem dX7_slide_15 : decode cX7_slide 15 = .ok (.istore_n 1, 1) := by decide +kernel
theorem dX7_slide_16 : decode cX7_slide 16 = .ok (.aload_n 0, 1) := by decide +kernel
theorem dX7_slide_17 : decode cX7_slide 17 = .ok (.getfield 133, 3) := by decide +kernel
theorem dX7_slide_20 : decode cX7_slide 20 = .ok (.ifCond .ne 27, 3) := by decide +kernel
theorem dX7_slide_23 : decode cX7_slide 23 = .ok (.aload_n 0, 1) := by decide +kernel
theorem dX7_slide_24 : decode cX7_slide 24 = .ok (.invokevirtual 137, 3) := by decide +kernel
theorem dX7_slide_27 : decode cX7_slide 27 = .ok (.bipush 59, 2) := by decide +kernel
theorem dX7_slide_29 : decode cX7_slide 29 = .ok (.if_icmp .ne 18, 3) := by decide +kernel
theorem dX7_slide_32 : decode cX7_slide 32 = .ok (.aload_n 0, 1) := by decide +kernel
theorem dX7_slide_33 : decode cX7_slide 33 = .ok (.dup, 1) := by decide +kernel
theorem dX7_slide_34 : decode cX7_slide 34 = .ok (.getfield 130, 3) := by decide +kernel
theorem dX7_slide_37 : decode cX7_slide 37 = .ok (.iconst 1, 1) := by decide +kernel
theorem dX7_slide_38 : decode cX7_slide 38 = .ok (.iadd, 1) := by decide +kernel
theorem dX7_slide_39 : decode cX7_slide 39 = .ok (.putfield 130, 3) := by decide +kernel
theorem dX7_slide_42 : decode cX7_slide 42 = .ok (.aload_n 0, 1) := by decide +kernel
theorem dX7_slide_43 : decode cX7_slide 43 = .ok (.invokevirtual 157, 3) := by decide +kernel
theorem dX7_slide_46 : decode cX7_slide 46 = .ok (.istore_n 1, 1) := by decide +kernel
theorem dX7_slide_47 : decode cX7_slide 47 = .ok (.aload_n 0, 1) := by decide +kernel
theorem dX7_slide_48 : decode cX7_slide 48 = .ok (.aload_n 0, 1) := by decide +kernel
theorem dX7_slide_49 : decode cX7_slide 49 = .ok (.getfield 133, 3) := by decide +kernel
theorem dX7_slide_52 : decode cX7_slide 52 = .ok (.ifCond .ne 10, 3) := by decide +kernel
theorem dX7_slide_55 : decode cX7_slide 55 = .ok (.aload_n 0, 1) := by decide +kernel
theorem dX7_slide_56 : decode cX7_slide 56 = .ok (.invokevirtual 137, 3) := by decide +kernel
theorem dX7_slide_59 : decode cX7_slide 59 = .ok (.ifCond .eq 7, 3) := by decide +kernel
theorem dX7_slide_62 : decode cX7_slide 62 = .ok (.iconst 1, 1) := by decide +kernel
theorem dX7_slide_63 : decode cX7_slide 63 = .ok (.goto 4, 3) := by decide +kernel
theorem dX7_slide_66 : decode cX7_slide 66 = .ok (.iconst 0, 1) := by decide +kernel
theorem dX7_slide_67 : decode cX7_slide 67 = .ok (.putfield 133, 3) := by decide +kernel
theorem dX7_slide_70 : decode cX7_slide 70 = .ok (.aload_n 0, 1) := by decide +kernel
theorem dX7_slide_71 : decode cX7_slide 71 = .ok (.iconst 0, 1) := by decide +kernel
theorem dX7_slide_72 : decode cX7_slide 72 = .ok (.putfield 127, 3) := by decide +kernel
theorem dX7_slide_75 : decode cX7_slide 75 = .ok (.aload_n 0, 1) := by decide +kernel
theorem dX7_slide_76 : decode cX7_slide 76 = .ok (.getfield 133, 3) := by decide +kernel
theorem dX7_slide_79 : decode cX7_slide 79 = .ok (.ifCond .eq 11, 3) := by decide +kernel
theorem dX7_slide_82 : decode cX7_slide 82 = .ok (.bipush (-20), 2) := by decide +kernel
theorem dX7_slide_84 : decode cX7_slide 84 = .ok (.aload_n 0, 1) := by decide +kernel
theorem dX7_slide_85 : decode cX7_slide 85 = .ok (.getfield 130, 3) := by decide +kernel
theorem dX7_slide_88 : decode cX7_slide 88 = .ok (.isub, 1) := by decide +kernel
theorem dX7_slide_89 : decode cX7_slide 89 = .ok (.ireturn, 1) := by decide +kernel
theorem dX7_slide_90 : decode cX7_slide 90 = .ok (.aload_n 0, 1) := by decide +kernel
theorem dX7_slide_91 : decode cX7_slide 91 = .ok (.getfield 7, 3) := by decide +kernel
theorem dX7_slide_94 : decode cX7_slide 94 = .ok (.iconst 0, 1) := by decide +kernel
theorem dX7_slide_95 : decode cX7_slide 95 = .ok (.iconst 0, 1) := by decide +kernel
theorem dX7_slide_96 : decode cX7_slide 96 = .ok (.iastore, 1) := by decide +kernel
theorem dX7_slide_97 : decode cX7_slide 97 = .ok (.aload_n 0, 1) := by decide +kernel
theorem dX7_slide_98 : decode cX7_slide 98 = .ok (.getfield 7, 3) := by decide +kernel
theorem dX7_slide_101 : decode cX7_slide 101 = .ok (.iconst 1, 1) := by decide +kernel
theorem dX7_slide_102 : decode cX7_slide 102 = .ok (.iconst 0, 1) := by decide +kernel
theorem dX7_slide_103 : decode cX7_slide 103 = .ok (.iastore, 1) := by decide +kernel
theorem dX7_slide_104 : decode cX7_slide 104 = .ok (.aload_n 0, 1) := by decide +kernel
theorem dX7_slide_105 : decode cX7_slide 105 = .ok (.iconst 0, 1) := by decide +kernel
theorem dX7_slide_106 : decode cX7_slide 106 = .ok (.putfield 81, 3) := by decide +kernel
theorem dX7_slide_109 : decode cX7_slide 109 = .ok (.iconst 0, 1) := by decide +kernel
theorem dX7_slide_110 : decode cX7_slide 110 = .ok (.istore_n 2, 1) := by decide +kernel
theorem dX7_slide_111 : decode cX7_slide 111 = .ok (.iload_n 2, 1) := by decide +kernel
theorem dX7_slide_112 : decode cX7_slide 112 = .ok (.bipush 10, 2) := by decide +kernel
theorem dX7_slide_114 : decode cX7_slide 114 = .ok (.if_icmp .ge 41, 3) := by decide +kernel
theorem dX7_slide_117 : decode cX7_slide 117 = .ok (.aload_n 0, 1) := by decide +kernel
theorem dX7_slide_118 : decode cX7_slide 118 = .ok (.getfield 7, 3) := by decide +kernel
theorem dX7_slide_121 : decode cX7_slide 121 = .ok (.iconst 3, 1) := by decide +kernel
theorem dX7_slide_122 : decode cX7_slide 122 = .ok (.iload_n 2, 1) := by decide +kernel
theorem dX7_slide_123 : decode cX7_slide 123 = .ok (.iadd, 1) := by decide +kernel
theorem dX7_slide_124 : decode cX7_slide 124 = .ok (.aload_n 0, 1) := by decide +kernel
theorem dX7_slide_125 : decode cX7_slide 125 = .ok (.getfield 19, 3) := by decide +kernel
theorem dX7_slide_128 : decode cX7_slide 128 = .ok (.iload_n 2, 1) := by decide +kernel
theorem dX7_slide_129 : decode cX7_slide 129 = .ok (.iaload, 1) := by decide +kernel
theorem dX7_slide_130 : decode cX7_slide 130 = .ok (.iastore, 1) := by decide +kernel
theorem dX7_slide_131 : decode cX7_slide 131 = .ok (.aload_n 0, 1) := by decide +kernel
theorem dX7_slide_132 : decode cX7_slide 132 = .ok (.getfield 7, 3) := by decide +kernel
theorem dX7_slide_135 : decode cX7_slide 135 = .ok (.bipush 13, 2) := by decide +kernel
theorem dX7_slide_137 : decode cX7_slide 137 = .ok (.iload_n 2, 1) := by decide +kernel
theorem dX7_slide_138 : decode cX7_slide 138 = .ok (.iadd, 1) := by decide +kernel
theorem dX7_slide_139 : decode cX7_slide 139 = .ok (.aload_n 0, 1) := by decide +kernel
theorem dX7_slide_140 : decode cX7_slide 140 = .ok (.getfield 19, 3) := by decide +kernel
theorem dX7_slide_143 : decode cX7_slide 143 = .ok (.bipush 10, 2) := by decide +kernel
theorem dX7_slide_145 : decode cX7_slide 145 = .ok (.iload_n 2, 1) := by decide +kernel
theorem dX7_slide_146 : decode cX7_slide 146 = .ok (.iadd, 1) := by decide +kernel
theorem dX7_slide_147 : decode cX7_slide 147 = .ok (.iaload, 1) := by decide +kernel
theorem dX7_slide_148 : decode cX7_slide 148 = .ok (.iastore, 1) := by decide +kernel
theorem dX7_slide_149 : decode cX7_slide 149 = .ok (.iinc 2 1, 3) := by decide +kernel
theorem dX7_slide_152 : decode cX7_slide 152 = .ok (.goto (-41), 3) := by decide +kernel
theorem dX7_slide_155 : decode cX7_slide 155 = .ok (.iconst 0, 1) := by decide +kernel
theorem dX7_slide_156 : decode cX7_slide 156 = .ok (.istore_n 2, 1) := by decide +kernel
theorem dX7_slide_157 : decode cX7_slide 157 = .ok (.iload_n 2, 1) := by decide +kernel
theorem dX7_slide_158 : decode cX7_slide 158 = .ok (.iload_n 1, 1) := by decide +kernel
theorem dX7_slide_159 : decode cX7_slide 159 = .ok (.if_icmp .ge 41, 3) := by decide +kernel
theorem dX7_slide_162 : decode cX7_slide 162 = .ok (.aload_n 0, 1) := by decide +kernel
theorem dX7_slide_163 : decode cX7_slide 163 = .ok (.aload_n 0, 1) := by decide +kernel
theorem dX7_slide_164 : decode cX7_slide 164 = .ok (.getfield 22, 3) := by decide +kernel
theorem dX7_slide_167 : decode cX7_slide 167 = .ok (.iconst 3, 1) := by decide +kernel
theorem dX7_slide_168 : decode cX7_slide 168 = .ok (.iload_n 2, 1) := by decide +kernel
theorem dX7_slide_169 : decode cX7_slide 169 = .ok (.imul, 1) := by decide +kernel
theorem dX7_slide_170 : decode cX7_slide 170 = .ok (.iaload, 1) := by decide +kernel
theorem dX7_slide_171 : decode cX7_slide 171 = .ok (.aload_n 0, 1) := by decide +kernel
theorem dX7_slide_172 : decode cX7_slide 172 = .ok (.getfield 22, 3) := by decide +kernel
theorem dX7_slide_175 : decode cX7_slide 175 = .ok (.iconst 3, 1) := by decide +kernel
theorem dX7_slide_176 : decode cX7_slide 176 = .ok (.iload_n 2, 1) := by decide +kernel
theorem dX7_slide_177 : decode cX7_slide 177 = .ok (.imul, 1) := by decide +kernel
theorem dX7_slide_178 : decode cX7_slide 178 = .ok (.iconst 1, 1) := by decide +kernel
theorem dX7_slide_179 : decode cX7_slide 179 = .ok (.iadd, 1) := by decide +kernel
theorem dX7_slide_180 : decode cX7_slide 180 = .ok (.iaload, 1) := by decide +kernel
theorem dX7_slide_181 : decode cX7_slide 181 = .ok (.aload_n 0, 1) := by decide +kernel
theorem dX7_slide_182 : decode cX7_slide 182 = .ok (.getfield 22, 3) := by decide +kernel
theorem dX7_slide_185 : decode cX7_slide 185 = .ok (.iconst 3, 1) := by decide +kernel
theorem dX7_slide_186 : decode cX7_slide 186 = .ok (.iload_n 2, 1) := by decide +kernel
theorem dX7_slide_187 : decode cX7_slide 187 = .ok (.imul, 1) := by decide +kernel
theorem dX7_slide_188 : decode cX7_slide 188 = .ok (.iconst 2, 1) := by decide +kernel
theorem dX7_slide_189 : decode cX7_slide 189 = .ok (.iadd, 1) := by decide +kernel
theorem dX7_slide_190 : decode cX7_slide 190 = .ok (.iaload, 1) := by decide +kernel
theorem dX7_slide_191 : decode cX7_slide 191 = .ok (.invokevirtual 91, 3) := by decide +kernel
theorem dX7_slide_194 : decode cX7_slide 194 = .ok (.iinc 2 1, 3) := by decide +kernel
theorem dX7_slide_197 : decode cX7_slide 197 = .ok (.goto (-40), 3) := by decide +kernel
theorem dX7_slide_200 : decode cX7_slide 200 = .ok (.iload_n 1, 1) := by decide +kernel
theorem dX7_slide_201 : decode cX7_slide 201 = .ok (.ireturn, 1) := by decide +kernel
theorem dX7_notes_0 : decode cX7_notes 0 = .ok (.aload_n 0, 1) := by decide +kernel
theorem dX7_notes_1 : decode cX7_notes 1 = .ok (.getfield 81, 3) := by decide +kernel
theorem dX7_notes_4 : decode cX7_notes 4 = .ok (.bipush 8, 2) := by decide +kernel
theorem dX7_notes_6 : decode cX7_notes 6 = .ok (.if_icmp .ne 40, 3) := by decide +kernel
theorem dX7_notes_9 : decode cX7_notes 9 = .ok (.bipush 43, 2) := by decide +kernel
theorem dX7_notes_11 : decode cX7_notes 11 = .ok (.istore_n 1, 1) := by decide +kernel
theorem dX7_notes_12 : decode cX7_notes 12 = .ok (.iload_n 1, 1) := by decide +kernel
theorem dX7_notes_13 : decode cX7_notes 13 = .ok (.sipush 344, 3) := by decide +kernel
theorem dX7_notes_16 : decode cX7_notes 16 = .ok (.if_icmp .ge 24, 3) := by decide +kernel
theorem dX7_notes_19 : decode cX7_notes 19 = .ok (.aload_n 0, 1) := by decide +kernel
theorem dX7_notes_20 : decode cX7_notes 20 = .ok (.getfield 25, 3) := by decide +kernel
theorem dX7_notes_23 : decode cX7_notes 23 = .ok (.iload_n 1, 1) := by decide +kernel
theorem dX7_notes_24 : decode cX7_notes 24 = .ok (.bipush 43, 2) := by decide +kernel
theorem dX7_notes_26 : decode cX7_notes 26 = .ok (.isub, 1) := by decide +kernel
theorem dX7_notes_27 : decode cX7_notes 27 = .ok (.aload_n 0, 1) := by decide +kernel
theorem dX7_notes_28 : decode cX7_notes 28 = .ok (.getfield 25, 3) := by decide +kernel
theorem dX7_notes_31 : decode cX7_notes 31 = .ok (.iload_n 1, 1) := by decide +kernel
theorem dX7_notes_32 : decode cX7_notes 32 = .ok (.iaload, 1) := by decide +kernel
theorem dX7_notes_33 : decode cX7_notes 33 = .ok (.iastore, 1) := by decide +kernel
theorem dX7_notes_34 : decode cX7_notes 34 = .ok (.iinc 1 1, 3) := by decide +kernel
theorem dX7_notes_37 : decode cX7_notes 37 = .ok (.goto (-25), 3) := by decide +kernel
theorem dX7_notes_40 : decode cX7_notes 40 = .ok (.aload_n 0, 1) := by decide +kernel
theorem dX7_notes_41 : decode cX7_notes 41 = .ok (.bipush 7, 2) := by decide +kernel
theorem dX7_notes_43 : decode cX7_notes 43 = .ok (.putfield 81, 3) := by decide +kernel
theorem dX7_notes_46 : decode cX7_notes 46 = .ok (.iconst 0, 1) := by decide +kernel
theorem dX7_notes_47 : decode cX7_notes 47 = .ok (.istore_n 1, 1) := by decide +kernel
theorem dX7_notes_48 : decode cX7_notes 48 = .ok (.iload_n 1, 1) := by decide +kernel
theorem dX7_notes_49 : decode cX7_notes 49 = .ok (.bipush 43, 2) := by decide +kernel
theorem dX7_notes_51 : decode cX7_notes 51 = .ok (.if_icmp .ge 29, 3) := by decide +kernel
theorem dX7_notes_54 : decode cX7_notes 54 = .ok (.aload_n 0, 1) := by decide +kernel
theorem dX7_notes_55 : decode cX7_notes 55 = .ok (.getfield 25, 3) := by decide +kernel
theorem dX7_notes_58 : decode cX7_notes 58 = .ok (.bipush 43, 2) := by decide +kernel
theorem dX7_notes_60 : decode cX7_notes 60 = .ok (.aload_n 0, 1) := by decide +kernel
theorem dX7_notes_61 : decode cX7_notes 61 = .ok (.getfield 81, 3) := by decide +kernel
theorem dX7_notes_64 : decode cX7_notes 64 = .ok (.imul, 1) := by decide +kernel
theorem dX7_notes_65 : decode cX7_notes 65 = .ok (.iload_n 1, 1) := by decide +kernel
theorem dX7_notes_66 : decode cX7_notes 66 = .ok (.iadd, 1) := by decide +kernel
theorem dX7_notes_67 : decode cX7_notes 67 = .ok (.aload_n 0, 1) := by decide +kernel
theorem dX7_notes_68 : decode cX7_notes 68 = .ok (.getfield 7, 3) := by decide +kernel
theorem dX7_notes_71 : decode cX7_notes 71 = .ok (.iload_n 1, 1) := by decide +kernel
theorem dX7_notes_72 : decode cX7_notes 72 = .ok (.iaload, 1) := by decide +kernel
theorem dX7_notes_73 : decode cX7_notes 73 = .ok (.iastore, 1) := by decide +kernel
theorem dX7_notes_74 : decode cX7_notes 74 = .ok (.iinc 1 1, 3) := by decide +kernel
theorem dX7_notes_77 : decode cX7_notes 77 = .ok (.goto (-29), 3) := by decide +kernel
theorem dX7_notes_80 : decode cX7_notes 80 = .ok (.aload_n 0, 1) := by decide +kernel
theorem dX7_notes_81 : decode cX7_notes 81 = .ok (.dup, 1) := by decide +kernel
theorem dX7_notes_82 : decode cX7_notes 82 = .ok (.getfield 81, 3) := by decide +kernel
theorem dX7_notes_85 : decode cX7_notes 85 = .ok (.iconst 1, 1) := by decide +kernel
theorem dX7_notes_86 : decode cX7_notes 86 = .ok (.iadd, 1) := by decide +kernel
theorem dX7_notes_87 : decode cX7_notes 87 = .ok (.putfield 81, 3) := by decide +kernel
theorem dX7_notes_90 : decode cX7_notes 90 = .ok (.return_, 1) := by decide +kernel
theorem dX7_ride_0 : decode cX7_ride 0 = .ok (.aload_n 0, 1) := by decide +kernel
theorem dX7_ride_1 : decode cX7_ride 1 = .ok (.iload_n 1, 1) := by decide +kernel
theorem dX7_ride_2 : decode cX7_ride 2 = .ok (.invokevirtual 94, 3) := by decide +kernel
theorem dX7_ride_5 : decode cX7_ride 5 = .ok (.ifCond .ne 5, 3) := by decide +kernel
theorem dX7_ride_8 : decode cX7_ride 8 = .ok (.iconst (-1), 1) := by decide +kernel
theorem dX7_ride_9 : decode cX7_ride 9 = .ok (.ireturn, 1) := by decide +kernel
theorem dX7_ride_10 : decode cX7_ride 10 = .ok (.aload_n 0, 1) := by decide +kernel
theorem dX7_ride_11 : decode cX7_ride 11 = .ok (.getfield 7, 3) := by decide +kernel
theorem dX7_ride_14 : decode cX7_ride 14 = .ok (.iconst 1, 1) := by decide +kernel
theorem dX7_ride_15 : decode cX7_ride 15 = .ok (.iaload, 1) := by decide +kernel
theorem dX7_ride_16 : decode cX7_ride 16 = .ok (.sipush 9999, 3) := by decide +kernel
theorem dX7_ride_19 : decode cX7_ride 19 = .ok (.if_icmp .lt 6, 3) := by decide +kernel
theorem dX7_ride_22 : decode cX7_ride 22 = .ok (.bipush (-3), 2) := by decide +kernel
theorem dX7_ride_24 : decode cX7_ride 24 = .ok (.ireturn, 1) := by decide +kernel
theorem dX7_ride_25 : decode cX7_ride 25 = .ok (.aload_n 0, 1) := by decide +kernel
theorem dX7_ride_26 : decode cX7_ride 26 = .ok (.iload_n 1, 1) := by decide +kernel
theorem dX7_ride_27 : decode cX7_ride 27 = .ok (.invokevirtual 66, 3) := by decide +kernel
theorem dX7_ride_30 : decode cX7_ride 30 = .ok (.bipush 30, 2) := by decide +kernel
theorem dX7_ride_32 : decode cX7_ride 32 = .ok (.if_icmp .eq 6, 3) := by decide +kernel
theorem dX7_ride_35 : decode cX7_ride 35 = .ok (.bipush (-2), 2) := by decide +kernel
theorem dX7_ride_37 : decode cX7_ride 37 = .ok (.ireturn, 1) := by decide +kernel
theorem dX7_ride_38 : decode cX7_ride 38 = .ok (.aload_n 0, 1) := by decide +kernel
theorem dX7_ride_39 : decode cX7_ride 39 = .ok (.invokevirtual 160, 3) := by decide +kernel
theorem dX7_ride_42 : decode cX7_ride 42 = .ok (.aload_n 0, 1) := by decide +kernel
theorem dX7_ride_43 : decode cX7_ride 43 = .ok (.iload_n 1, 1) := by decide +kernel
theorem dX7_ride_44 : decode cX7_ride 44 = .ok (.invokevirtual 163, 3) := by decide +kernel
theorem dX7_ride_47 : decode cX7_ride 47 = .ok (.ireturn, 1) := by decide +kernel
theorem dX7_becomes_0 : decode cX7_becomes 0 = .ok (.iload_n 2, 1) := by decide +kernel
theorem dX7_becomes_1 : decode cX7_becomes 1 = .ok (.invokestatic 100, 3) := by decide +kernel
theorem dX7_becomes_4 : decode cX7_becomes 4 = .ok (.ifCond .eq 15, 3) := by decide +kernel
theorem dX7_becomes_7 : decode cX7_becomes 7 = .ok (.iload_n 3, 1) := by decide +kernel
theorem dX7_becomes_8 : decode cX7_becomes 8 = .ok (.i2l, 1) := by decide +kernel
theorem dX7_becomes_9 : decode cX7_becomes 9 = .ok (.lconst 0, 1) := by decide +kernel
theorem dX7_becomes_10 : decode cX7_becomes 10 = .ok (.ldc2_w 60, 3) := by decide +kernel
theorem dX7_becomes_13 : decode cX7_becomes 13 = .ok (.invokestatic 56, 3) := by decide +kernel
theorem dX7_becomes_16 : decode cX7_becomes 16 = .ok (.ifCond .ne 5, 3) := by decide +kernel
theorem dX7_becomes_19 : decode cX7_becomes 19 = .ok (.iconst (-1), 1) := by decide +kernel
theorem dX7_becomes_20 : decode cX7_becomes 20 = .ok (.ireturn, 1) := by decide +kernel
theorem dX7_becomes_21 : decode cX7_becomes 21 = .ok (.aload_n 0, 1) := by decide +kernel
theorem dX7_becomes_22 : decode cX7_becomes 22 = .ok (.getfield 7, 3) := by decide +kernel
theorem dX7_becomes_25 : decode cX7_becomes 25 = .ok (.iload_n 1, 1) := by decide +kernel
theorem dX7_becomes_26 : decode cX7_becomes 26 = .ok (.iload_n 2, 1) := by decide +kernel
theorem dX7_becomes_27 : decode cX7_becomes 27 = .ok (.iadd, 1) := by decide +kernel
theorem dX7_becomes_28 : decode cX7_becomes 28 = .ok (.iaload, 1) := by decide +kernel
theorem dX7_becomes_29 : decode cX7_becomes 29 = .ok (.istore 4, 2) := by decide +kernel
theorem dX7_becomes_31 : decode cX7_becomes 31 = .ok (.iload 4, 2) := by decide +kernel
theorem dX7_becomes_33 : decode cX7_becomes 33 = .ok (.iload_n 3, 1) := by decide +kernel
theorem dX7_becomes_34 : decode cX7_becomes 34 = .ok (.if_icmp .ne 6, 3) := by decide +kernel
theorem dX7_becomes_37 : decode cX7_becomes 37 = .ok (.bipush (-2), 2) := by decide +kernel
theorem dX7_becomes_39 : decode cX7_becomes 39 = .ok (.ireturn, 1) := by decide +kernel
theorem dX7_becomes_40 : decode cX7_becomes 40 = .ok (.aload_n 0, 1) := by decide +kernel
theorem dX7_becomes_41 : decode cX7_becomes 41 = .ok (.invokevirtual 160, 3) := by decide +kernel
theorem dX7_becomes_44 : decode cX7_becomes 44 = .ok (.aload_n 0, 1) := by decide +kernel
theorem dX7_becomes_45 : decode cX7_becomes 45 = .ok (.getfield 7, 3) := by decide +kernel
theorem dX7_becomes_48 : decode cX7_becomes 48 = .ok (.iload_n 1, 1) := by decide +kernel
theorem dX7_becomes_49 : decode cX7_becomes 49 = .ok (.iload_n 2, 1) := by decide +kernel
theorem dX7_becomes_50 : decode cX7_becomes 50 = .ok (.iadd, 1) := by decide +kernel
theorem dX7_becomes_51 : decode cX7_becomes 51 = .ok (.iload_n 3, 1) := by decide +kernel
theorem dX7_becomes_52 : decode cX7_becomes 52 = .ok (.iastore, 1) := by decide +kernel
theorem dX7_becomes_53 : decode cX7_becomes 53 = .ok (.iload 4, 2) := by decide +kernel
theorem dX7_becomes_55 : decode cX7_becomes 55 = .ok (.ireturn, 1) := by decide +kernel
theorem dX7_wax_0 : decode cX7_wax 0 = .ok (.aload_n 0, 1) := by decide +kernel
theorem dX7_wax_1 : decode cX7_wax 1 = .ok (.iconst 3, 1) := by decide +kernel
theorem dX7_wax_2 : decode cX7_wax 2 = .ok (.iload_n 1, 1) := by decide +kernel
theorem dX7_wax_3 : decode cX7_wax 3 = .ok (.iload_n 2, 1) := by decide +kernel
theorem dX7_wax_4 : decode cX7_wax 4 = .ok (.invokevirtual 166, 3) := by decide +kernel
theorem dX7_wax_7 : decode cX7_wax 7 = .ok (.ireturn, 1) := by decide +kernel
theorem dX7_hammer_0 : decode cX7_hammer 0 = .ok (.aload_n 0, 1) := by decide +kernel
theorem dX7_hammer_1 : decode cX7_hammer 1 = .ok (.bipush 13, 2) := by decide +kernel
theorem dX7_hammer_3 : decode cX7_hammer 3 = .ok (.iload_n 1, 1) := by decide +kernel
theorem dX7_hammer_4 : decode cX7_hammer 4 = .ok (.iload_n 2, 1) := by decide +kernel
theorem dX7_hammer_5 : decode cX7_hammer 5 = .ok (.invokevirtual 166, 3) := by decide +kernel
theorem dX7_hammer_8 : decode cX7_hammer 8 = .ok (.ireturn, 1) := by decide +kernel
theorem dX7_up_0 : decode cX7_up 0 = .ok (.aload_n 0, 1) := by decide +kernel
theorem dX7_up_1 : decode cX7_up 1 = .ok (.iload_n 1, 1) := by decide +kernel
theorem dX7_up_2 : decode cX7_up 2 = .ok (.invokevirtual 94, 3) := by decide +kernel
theorem dX7_up_5 : decode cX7_up 5 = .ok (.ifCond .ne 5, 3) := by decide +kernel
theorem dX7_up_8 : decode cX7_up 8 = .ok (.iconst (-1), 1) := by decide +kernel
theorem dX7_up_9 : decode cX7_up 9 = .ok (.ireturn, 1) := by decide +kernel
theorem dX7_up_10 : decode cX7_up 10 = .ok (.aload_n 0, 1) := by decide +kernel
theorem dX7_up_11 : decode cX7_up 11 = .ok (.iload_n 1, 1) := by decide +kernel
theorem dX7_up_12 : decode cX7_up 12 = .ok (.invokevirtual 66, 3) := by decide +kernel
theorem dX7_up_15 : decode cX7_up 15 = .ok (.istore_n 2, 1) := by decide +kernel
theorem dX7_up_16 : decode cX7_up 16 = .ok (.iload_n 2, 1) := by decide +kernel
theorem dX7_up_17 : decode cX7_up 17 = .ok (.bipush 30, 2) := by decide +kernel
theorem dX7_up_19 : decode cX7_up 19 = .ok (.if_icmp .ne 6, 3) := by decide +kernel
theorem dX7_up_22 : decode cX7_up 22 = .ok (.bipush (-2), 2) := by decide +kernel
theorem dX7_up_24 : decode cX7_up 24 = .ok (.ireturn, 1) := by decide +kernel
theorem dX7_up_25 : decode cX7_up 25 = .ok (.aload_n 0, 1) := by decide +kernel
theorem dX7_up_26 : decode cX7_up 26 = .ok (.invokevirtual 160, 3) := by decide +kernel
theorem dX7_up_29 : decode cX7_up 29 = .ok (.aload_n 0, 1) := by decide +kernel
theorem dX7_up_30 : decode cX7_up 30 = .ok (.iload_n 1, 1) := by decide +kernel
theorem dX7_up_31 : decode cX7_up 31 = .ok (.iconst 3, 1) := by decide +kernel
theorem dX7_up_32 : decode cX7_up 32 = .ok (.bipush 30, 2) := by decide +kernel
theorem dX7_up_34 : decode cX7_up 34 = .ok (.invokevirtual 70, 3) := by decide +kernel
theorem dX7_up_37 : decode cX7_up 37 = .ok (.iload_n 2, 1) := by decide +kernel
theorem dX7_up_38 : decode cX7_up 38 = .ok (.ireturn, 1) := by decide +kernel
theorem dX7_drift_0 : decode cX7_drift 0 = .ok (.iload_n 1, 1) := by decide +kernel
theorem dX7_drift_1 : decode cX7_drift 1 = .ok (.i2l, 1) := by decide +kernel
theorem dX7_drift_2 : decode cX7_drift 2 = .ok (.lconst 1, 1) := by decide +kernel
theorem dX7_drift_3 : decode cX7_drift 3 = .ok (.ldc2_w 169, 3) := by decide +kernel
theorem dX7_drift_6 : decode cX7_drift 6 = .ok (.invokestatic 56, 3) := by decide +kernel
theorem dX7_drift_9 : decode cX7_drift 9 = .ok (.ifCond .ne 5, 3) := by decide +kernel
theorem dX7_drift_12 : decode cX7_drift 12 = .ok (.iconst (-1), 1) := by decide +kernel
theorem dX7_drift_13 : decode cX7_drift 13 = .ok (.ireturn, 1) := by decide +kernel
theorem dX7_drift_14 : decode cX7_drift 14 = .ok (.aload_n 0, 1) := by decide +kernel
theorem dX7_drift_15 : decode cX7_drift 15 = .ok (.getfield 7, 3) := by decide +kernel
theorem dX7_drift_18 : decode cX7_drift 18 = .ok (.iconst 1, 1) := by decide +kernel
theorem dX7_drift_19 : decode cX7_drift 19 = .ok (.iaload, 1) := by decide +kernel
theorem dX7_drift_20 : decode cX7_drift 20 = .ok (.iload_n 1, 1) := by decide +kernel
theorem dX7_drift_21 : decode cX7_drift 21 = .ok (.iadd, 1) := by decide +kernel
theorem dX7_drift_22 : decode cX7_drift 22 = .ok (.sipush 9999, 3) := by decide +kernel
theorem dX7_drift_25 : decode cX7_drift 25 = .ok (.if_icmp .le 6, 3) := by decide +kernel
theorem dX7_drift_28 : decode cX7_drift 28 = .ok (.bipush (-3), 2) := by decide +kernel
theorem dX7_drift_30 : decode cX7_drift 30 = .ok (.ireturn, 1) := by decide +kernel
theorem dX7_drift_31 : decode cX7_drift 31 = .ok (.iconst 0, 1) := by decide +kernel
theorem dX7_drift_32 : decode cX7_drift 32 = .ok (.istore_n 2, 1) := by decide +kernel
theorem dX7_drift_33 : decode cX7_drift 33 = .ok (.iload_n 2, 1) := by decide +kernel
theorem dX7_drift_34 : decode cX7_drift 34 = .ok (.iload_n 1, 1) := by decide +kernel
theorem dX7_drift_35 : decode cX7_drift 35 = .ok (.if_icmp .ge 133, 3) := by decide +kernel
theorem dX7_drift_38 : decode cX7_drift 38 = .ok (.aload_n 0, 1) := by decide +kernel
theorem dX7_drift_39 : decode cX7_drift 39 = .ok (.invokevirtual 160, 3) := by decide +kernel
theorem dX7_drift_42 : decode cX7_drift 42 = .ok (.aload_n 0, 1) := by decide +kernel
theorem dX7_drift_43 : decode cX7_drift 43 = .ok (.getfield 7, 3) := by decide +kernel
theorem dX7_drift_46 : decode cX7_drift 46 = .ok (.iconst 2, 1) := by decide +kernel
theorem dX7_drift_47 : decode cX7_drift 47 = .ok (.aload_n 0, 1) := by decide +kernel
theorem dX7_drift_48 : decode cX7_drift 48 = .ok (.getfield 7, 3) := by decide +kernel
theorem dX7_drift_51 : decode cX7_drift 51 = .ok (.iconst 2, 1) := by decide +kernel
theorem dX7_drift_52 : decode cX7_drift 52 = .ok (.iaload, 1) := by decide +kernel
theorem dX7_drift_53 : decode cX7_drift 53 = .ok (.i2l, 1) := by decide +kernel
theorem dX7_drift_54 : decode cX7_drift 54 = .ok (.ldc2_w 171, 3) := by decide +kernel
theorem dX7_drift_57 : decode cX7_drift 57 = .ok (.lmul, 1) := by decide +kernel
theorem dX7_drift_58 : decode cX7_drift 58 = .ok (.ldc2_w 173, 3) := by decide +kernel
theorem dX7_drift_61 : decode cX7_drift 61 = .ok (.ladd, 1) := by decide +kernel
theorem dX7_drift_62 : decode cX7_drift 62 = .ok (.ldc2_w 175, 3) := by decide +kernel
theorem dX7_drift_65 : decode cX7_drift 65 = .ok (.land, 1) := by decide +kernel
theorem dX7_drift_66 : decode cX7_drift 66 = .ok (.l2i, 1) := by decide +kernel
theorem dX7_drift_67 : decode cX7_drift 67 = .ok (.iastore, 1) := by decide +kernel
theorem dX7_drift_68 : decode cX7_drift 68 = .ok (.aload_n 0, 1) := by decide +kernel
theorem dX7_drift_69 : decode cX7_drift 69 = .ok (.getfield 7, 3) := by decide +kernel
theorem dX7_drift_72 : decode cX7_drift 72 = .ok (.iconst 0, 1) := by decide +kernel
theorem dX7_drift_73 : decode cX7_drift 73 = .ok (.iaload, 1) := by decide +kernel
theorem dX7_drift_74 : decode cX7_drift 74 = .ok (.ifCond .le 47, 3) := by decide +kernel
theorem dX7_drift_77 : decode cX7_drift 77 = .ok (.aload_n 0, 1) := by decide +kernel
theorem dX7_drift_78 : decode cX7_drift 78 = .ok (.getfield 7, 3) := by decide +kernel
theorem dX7_drift_81 : decode cX7_drift 81 = .ok (.iconst 2, 1) := by decide +kernel
theorem dX7_drift_82 : decode cX7_drift 82 = .ok (.iaload, 1) := by decide +kernel
theorem dX7_drift_83 : decode cX7_drift 83 = .ok (.ldc 177, 2) := by decide +kernel
theorem dX7_drift_85 : decode cX7_drift 85 = .ok (.idiv, 1) := by decide +kernel
theorem dX7_drift_86 : decode cX7_drift 86 = .ok (.aload_n 0, 1) := by decide +kernel
theorem dX7_drift_87 : decode cX7_drift 87 = .ok (.getfield 7, 3) := by decide +kernel
theorem dX7_drift_90 : decode cX7_drift 90 = .ok (.iconst 0, 1) := by decide +kernel
theorem dX7_drift_91 : decode cX7_drift 91 = .ok (.iaload, 1) := by decide +kernel
theorem dX7_drift_92 : decode cX7_drift 92 = .ok (.irem, 1) := by decide +kernel
theorem dX7_drift_93 : decode cX7_drift 93 = .ok (.istore_n 3, 1) := by decide +kernel
theorem dX7_drift_94 : decode cX7_drift 94 = .ok (.aload_n 0, 1) := by decide +kernel
theorem dX7_drift_95 : decode cX7_drift 95 = .ok (.iload_n 3, 1) := by decide +kernel
theorem dX7_drift_96 : decode cX7_drift 96 = .ok (.invokevirtual 66, 3) := by decide +kernel
theorem dX7_drift_99 : decode cX7_drift 99 = .ok (.bipush 30, 2) := by decide +kernel
theorem dX7_drift_101 : decode cX7_drift 101 = .ok (.if_icmp .ne 12, 3) := by decide +kernel
theorem dX7_drift_104 : decode cX7_drift 104 = .ok (.aload_n 0, 1) := by decide +kernel
theorem dX7_drift_105 : decode cX7_drift 105 = .ok (.iload_n 3, 1) := by decide +kernel
theorem dX7_drift_106 : decode cX7_drift 106 = .ok (.invokevirtual 163, 3) := by decide +kernel
theorem dX7_drift_109 : decode cX7_drift 109 = .ok (.pop, 1) := by decide +kernel
theorem dX7_drift_110 : decode cX7_drift 110 = .ok (.goto 11, 3) := by decide +kernel
theorem dX7_drift_113 : decode cX7_drift 113 = .ok (.aload_n 0, 1) := by decide +kernel
theorem dX7_drift_114 : decode cX7_drift 114 = .ok (.iload_n 3, 1) := by decide +kernel
theorem dX7_drift_115 : decode cX7_drift 115 = .ok (.iconst 3, 1) := by decide +kernel
theorem dX7_drift_116 : decode cX7_drift 116 = .ok (.bipush 30, 2) := by decide +kernel
theorem dX7_drift_118 : decode cX7_drift 118 = .ok (.invokevirtual 70, 3) := by decide +kernel
theorem dX7_drift_121 : decode cX7_drift 121 = .ok (.iconst 3, 1) := by decide +kernel
theorem dX7_drift_122 : decode cX7_drift 122 = .ok (.aload_n 0, 1) := by decide +kernel
theorem dX7_drift_123 : decode cX7_drift 123 = .ok (.getfield 7, 3) := by decide +kernel
theorem dX7_drift_126 : decode cX7_drift 126 = .ok (.iconst 2, 1) := by decide +kernel
theorem dX7_drift_127 : decode cX7_drift 127 = .ok (.iaload, 1) := by decide +kernel
theorem dX7_drift_128 : decode cX7_drift 128 = .ok (.sipush 128, 3) := by decide +kernel
theorem dX7_drift_131 : decode cX7_drift 131 = .ok (.idiv, 1) := by decide +kernel
theorem dX7_drift_132 : decode cX7_drift 132 = .ok (.bipush 10, 2) := by decide +kernel
theorem dX7_drift_134 : decode cX7_drift 134 = .ok (.irem, 1) := by decide +kernel
theorem dX7_drift_135 : decode cX7_drift 135 = .ok (.iadd, 1) := by decide +kernel
theorem dX7_drift_136 : decode cX7_drift 136 = .ok (.istore_n 3, 1) := by decide +kernel
theorem dX7_drift_137 : decode cX7_drift 137 = .ok (.aload_n 0, 1) := by decide +kernel
theorem dX7_drift_138 : decode cX7_drift 138 = .ok (.getfield 7, 3) := by decide +kernel
theorem dX7_drift_141 : decode cX7_drift 141 = .ok (.iload_n 3, 1) := by decide +kernel
theorem dX7_drift_142 : decode cX7_drift 142 = .ok (.dup2, 1) := by decide +kernel
theorem dX7_drift_143 : decode cX7_drift 143 = .ok (.iaload, 1) := by decide +kernel
theorem dX7_drift_144 : decode cX7_drift 144 = .ok (.aload_n 0, 1) := by decide +kernel
theorem dX7_drift_145 : decode cX7_drift 145 = .ok (.getfield 7, 3) := by decide +kernel
theorem dX7_drift_148 : decode cX7_drift 148 = .ok (.iload_n 3, 1) := by decide +kernel
theorem dX7_drift_149 : decode cX7_drift 149 = .ok (.iaload, 1) := by decide +kernel
theorem dX7_drift_150 : decode cX7_drift 150 = .ok (.bipush 9, 2) := by decide +kernel
theorem dX7_drift_152 : decode cX7_drift 152 = .ok (.if_icmp .ge 7, 3) := by decide +kernel
theorem dX7_drift_155 : decode cX7_drift 155 = .ok (.iconst 1, 1) := by decide +kernel
theorem dX7_drift_156 : decode cX7_drift 156 = .ok (.goto 4, 3) := by decide +kernel
theorem dX7_drift_159 : decode cX7_drift 159 = .ok (.iconst 0, 1) := by decide +kernel
theorem dX7_drift_160 : decode cX7_drift 160 = .ok (.iadd, 1) := by decide +kernel
theorem dX7_drift_161 : decode cX7_drift 161 = .ok (.iastore, 1) := by decide +kernel
theorem dX7_drift_162 : decode cX7_drift 162 = .ok (.iinc 2 1, 3) := by decide +kernel
theorem dX7_drift_165 : decode cX7_drift 165 = .ok (.goto (-132), 3) := by decide +kernel
theorem dX7_drift_168 : decode cX7_drift 168 = .ok (.aload_n 0, 1) := by decide +kernel
theorem dX7_drift_169 : decode cX7_drift 169 = .ok (.invokevirtual 114, 3) := by decide +kernel
theorem dX7_drift_172 : decode cX7_drift 172 = .ok (.ireturn, 1) := by decide +kernel
theorem dX7_undo_0 : decode cX7_undo 0 = .ok (.aload_n 0, 1) := by decide +kernel
theorem dX7_undo_1 : decode cX7_undo 1 = .ok (.getfield 81, 3) := by decide +kernel
theorem dX7_undo_4 : decode cX7_undo 4 = .ok (.ifCond .ne 6, 3) := by decide +kernel
theorem dX7_undo_7 : decode cX7_undo 7 = .ok (.bipush (-4), 2) := by decide +kernel
theorem dX7_undo_9 : decode cX7_undo 9 = .ok (.ireturn, 1) := by decide +kernel
theorem dX7_undo_10 : decode cX7_undo 10 = .ok (.aload_n 0, 1) := by decide +kernel
theorem dX7_undo_11 : decode cX7_undo 11 = .ok (.dup, 1) := by decide +kernel
theorem dX7_undo_12 : decode cX7_undo 12 = .ok (.getfield 81, 3) := by decide +kernel
theorem dX7_undo_15 : decode cX7_undo 15 = .ok (.iconst 1, 1) := by decide +kernel
theorem dX7_undo_16 : decode cX7_undo 16 = .ok (.isub, 1) := by decide +kernel
theorem dX7_undo_17 : decode cX7_undo 17 = .ok (.putfield 81, 3) := by decide +kernel
theorem dX7_undo_20 : decode cX7_undo 20 = .ok (.iconst 0, 1) := by decide +kernel
theorem dX7_undo_21 : decode cX7_undo 21 = .ok (.istore_n 1, 1) := by decide +kernel
theorem dX7_undo_22 : decode cX7_undo 22 = .ok (.iload_n 1, 1) := by decide +kernel
theorem dX7_undo_23 : decode cX7_undo 23 = .ok (.bipush 43, 2) := by decide +kernel
theorem dX7_undo_25 : decode cX7_undo 25 = .ok (.if_icmp .ge 64, 3) := by decide +kernel
theorem dX7_undo_28 : decode cX7_undo 28 = .ok (.iload_n 1, 1) := by decide +kernel
theorem dX7_undo_29 : decode cX7_undo 29 = .ok (.bipush 23, 2) := by decide +kernel
theorem dX7_undo_31 : decode cX7_undo 31 = .ok (.if_icmp .lt 17, 3) := by decide +kernel
theorem dX7_undo_34 : decode cX7_undo 34 = .ok (.iload_n 1, 1) := by decide +kernel
theorem dX7_undo_35 : decode cX7_undo 35 = .ok (.bipush 23, 2) := by decide +kernel
theorem dX7_undo_37 : decode cX7_undo 37 = .ok (.isub, 1) := by decide +kernel
theorem dX7_undo_38 : decode cX7_undo 38 = .ok (.iconst 4, 1) := by decide +kernel
theorem dX7_undo_39 : decode cX7_undo 39 = .ok (.irem, 1) := by decide +kernel
theorem dX7_undo_40 : decode cX7_undo 40 = .ok (.iconst 2, 1) := by decide +kernel
theorem dX7_undo_41 : decode cX7_undo 41 = .ok (.if_icmp .ne 7, 3) := by decide +kernel
theorem dX7_undo_44 : decode cX7_undo 44 = .ok (.iconst 1, 1) := by decide +kernel
theorem dX7_undo_45 : decode cX7_undo 45 = .ok (.goto 4, 3) := by decide +kernel
theorem dX7_undo_48 : decode cX7_undo 48 = .ok (.iconst 0, 1) := by decide +kernel
theorem dX7_undo_49 : decode cX7_undo 49 = .ok (.istore_n 2, 1) := by decide +kernel
theorem dX7_undo_50 : decode cX7_undo 50 = .ok (.aload_n 0, 1) := by decide +kernel
theorem dX7_undo_51 : decode cX7_undo 51 = .ok (.getfield 7, 3) := by decide +kernel
theorem dX7_undo_54 : decode cX7_undo 54 = .ok (.iload_n 1, 1) := by decide +kernel
theorem dX7_undo_55 : decode cX7_undo 55 = .ok (.iload_n 2, 1) := by decide +kernel
theorem dX7_undo_56 : decode cX7_undo 56 = .ok (.ifCond .eq 12, 3) := by decide +kernel
theorem dX7_undo_59 : decode cX7_undo 59 = .ok (.aload_n 0, 1) := by decide +kernel
theorem dX7_undo_60 : decode cX7_undo 60 = .ok (.getfield 7, 3) := by decide +kernel
theorem dX7_undo_63 : decode cX7_undo 63 = .ok (.iload_n 1, 1) := by decide +kernel
theorem dX7_undo_64 : decode cX7_undo 64 = .ok (.iaload, 1) := by decide +kernel
theorem dX7_undo_65 : decode cX7_undo 65 = .ok (.goto 17, 3) := by decide +kernel
theorem dX7_undo_68 : decode cX7_undo 68 = .ok (.aload_n 0, 1) := by decide +kernel
theorem dX7_undo_69 : decode cX7_undo 69 = .ok (.getfield 25, 3) := by decide +kernel
theorem dX7_undo_72 : decode cX7_undo 72 = .ok (.bipush 43, 2) := by decide +kernel
theorem dX7_undo_74 : decode cX7_undo 74 = .ok (.aload_n 0, 1) := by decide +kernel
theorem dX7_undo_75 : decode cX7_undo 75 = .ok (.getfield 81, 3) := by decide +kernel
theorem dX7_undo_78 : decode cX7_undo 78 = .ok (.imul, 1) := by decide +kernel
theorem dX7_undo_79 : decode cX7_undo 79 = .ok (.iload_n 1, 1) := by decide +kernel
theorem dX7_undo_80 : decode cX7_undo 80 = .ok (.iadd, 1) := by decide +kernel
theorem dX7_undo_81 : decode cX7_undo 81 = .ok (.iaload, 1) := by decide +kernel
theorem dX7_undo_82 : decode cX7_undo 82 = .ok (.iastore, 1) := by decide +kernel
theorem dX7_undo_83 : decode cX7_undo 83 = .ok (.iinc 1 1, 3) := by decide +kernel
theorem dX7_undo_86 : decode cX7_undo 86 = .ok (.goto (-64), 3) := by decide +kernel
theorem dX7_undo_89 : decode cX7_undo 89 = .ok (.aload_n 0, 1) := by decide +kernel
theorem dX7_undo_90 : decode cX7_undo 90 = .ok (.getfield 81, 3) := by decide +kernel
theorem dX7_undo_93 : decode cX7_undo 93 = .ok (.ireturn, 1) := by decide +kernel
theorem dX7_seed_0 : decode cX7_seed 0 = .ok (.iload_n 1, 1) := by decide +kernel
theorem dX7_seed_1 : decode cX7_seed 1 = .ok (.ifCond .ge 5, 3) := by decide +kernel
theorem dX7_seed_4 : decode cX7_seed 4 = .ok (.iconst (-1), 1) := by decide +kernel
theorem dX7_seed_5 : decode cX7_seed 5 = .ok (.ireturn, 1) := by decide +kernel
theorem dX7_seed_6 : decode cX7_seed 6 = .ok (.aload_n 0, 1) := by decide +kernel
theorem dX7_seed_7 : decode cX7_seed 7 = .ok (.getfield 7, 3) := by decide +kernel
theorem dX7_seed_10 : decode cX7_seed 10 = .ok (.iconst 2, 1) := by decide +kernel
theorem dX7_seed_11 : decode cX7_seed 11 = .ok (.iaload, 1) := by decide +kernel
theorem dX7_seed_12 : decode cX7_seed 12 = .ok (.istore_n 2, 1) := by decide +kernel
theorem dX7_seed_13 : decode cX7_seed 13 = .ok (.aload_n 0, 1) := by decide +kernel
end
section
theorem dX7_seed_14 : decode cX7_seed 14 = .ok (.getfield 7, 3) := by decide +kernel
theorem dX7_seed_17 : decode cX7_seed 17 = .ok (.iconst 2, 1) := by decide +kernel
theorem dX7_seed_18 : decode cX7_seed 18 = .ok (.iload_n 1, 1) := by decide +kernel
theorem dX7_seed_19 : decode cX7_seed 19 = .ok (.iastore, 1) := by decide +kernel
theorem dX7_seed_20 : decode cX7_seed 20 = .ok (.iload_n 2, 1) := by decide +kernel
theorem dX7_seed_21 : decode cX7_seed 21 = .ok (.ireturn, 1) := by decide +kernel
theorem dX7_asides_0 : decode cX7_asides 0 = .ok (.iconst 0, 1) := by decide +kernel
theorem dX7_asides_1 : decode cX7_asides 1 = .ok (.istore_n 1, 1) := by decide +kernel
theorem dX7_asides_2 : decode cX7_asides 2 = .ok (.iload_n 1, 1) := by decide +kernel
theorem dX7_asides_3 : decode cX7_asides 3 = .ok (.bipush 43, 2) := by decide +kernel
theorem dX7_asides_5 : decode cX7_asides 5 = .ok (.if_icmp .ge 21, 3) := by decide +kernel
theorem dX7_asides_8 : decode cX7_asides 8 = .ok (.aload_n 0, 1) := by decide +kernel
theorem dX7_asides_9 : decode cX7_asides 9 = .ok (.getfield 28, 3) := by decide +kernel
theorem dX7_asides_12 : decode cX7_asides 12 = .ok (.iload_n 1, 1) := by decide +kernel
theorem dX7_asides_13 : decode cX7_asides 13 = .ok (.aload_n 0, 1) := by decide +kernel
theorem dX7_asides_14 : decode cX7_asides 14 = .ok (.getfield 7, 3) := by decide +kernel
theorem dX7_asides_17 : decode cX7_asides 17 = .ok (.iload_n 1, 1) := by decide +kernel
theorem dX7_asides_18 : decode cX7_asides 18 = .ok (.iaload, 1) := by decide +kernel
theorem dX7_asides_19 : decode cX7_asides 19 = .ok (.iastore, 1) := by decide +kernel
theorem dX7_asides_20 : decode cX7_asides 20 = .ok (.iinc 1 1, 3) := by decide +kernel
theorem dX7_asides_23 : decode cX7_asides 23 = .ok (.goto (-21), 3) := by decide +kernel
theorem dX7_asides_26 : decode cX7_asides 26 = .ok (.return_, 1) := by decide +kernel
theorem dX7_backs_0 : decode cX7_backs 0 = .ok (.iconst 0, 1) := by decide +kernel
theorem dX7_backs_1 : decode cX7_backs 1 = .ok (.istore_n 1, 1) := by decide +kernel
theorem dX7_backs_2 : decode cX7_backs 2 = .ok (.iload_n 1, 1) := by decide +kernel
theorem dX7_backs_3 : decode cX7_backs 3 = .ok (.bipush 43, 2) := by decide +kernel
theorem dX7_backs_5 : decode cX7_backs 5 = .ok (.if_icmp .ge 21, 3) := by decide +kernel
theorem dX7_backs_8 : decode cX7_backs 8 = .ok (.aload_n 0, 1) := by decide +kernel
theorem dX7_backs_9 : decode cX7_backs 9 = .ok (.getfield 7, 3) := by decide +kernel
theorem dX7_backs_12 : decode cX7_backs 12 = .ok (.iload_n 1, 1) := by decide +kernel
theorem dX7_backs_13 : decode cX7_backs 13 = .ok (.aload_n 0, 1) := by decide +kernel
theorem dX7_backs_14 : decode cX7_backs 14 = .ok (.getfield 28, 3) := by decide +kernel
theorem dX7_backs_17 : decode cX7_backs 17 = .ok (.iload_n 1, 1) := by decide +kernel
theorem dX7_backs_18 : decode cX7_backs 18 = .ok (.iaload, 1) := by decide +kernel
theorem dX7_backs_19 : decode cX7_backs 19 = .ok (.iastore, 1) := by decide +kernel
theorem dX7_backs_20 : decode cX7_backs 20 = .ok (.iinc 1 1, 3) := by decide +kernel
theorem dX7_backs_23 : decode cX7_backs 23 = .ok (.goto (-21), 3) := by decide +kernel
theorem dX7_backs_26 : decode cX7_backs 26 = .ok (.return_, 1) := by decide +kernel
theorem dX7_would_0 : decode cX7_would 0 = .ok (.aload_n 0, 1) := by decide +kernel
theorem dX7_would_1 : decode cX7_would 1 = .ok (.iload_n 1, 1) := by decide +kernel
theorem dX7_would_2 : decode cX7_would 2 = .ok (.invokevirtual 163, 3) := by decide +kernel
theorem dX7_would_5 : decode cX7_would 5 = .ok (.istore_n 2, 1) := by decide +kernel
theorem dX7_would_6 : decode cX7_would 6 = .ok (.aload_n 0, 1) := by decide +kernel
theorem dX7_would_7 : decode cX7_would 7 = .ok (.invokevirtual 178, 3) := by decide +kernel
theorem dX7_would_10 : decode cX7_would 10 = .ok (.iload_n 2, 1) := by decide +kernel
theorem dX7_would_11 : decode cX7_would 11 = .ok (.ireturn, 1) := by decide +kernel
theorem dX7_speed_0 : decode cX7_speed 0 = .ok (.aload_n 0, 1) := by decide +kernel
theorem dX7_speed_1 : decode cX7_speed 1 = .ok (.iload_n 1, 1) := by decide +kernel
theorem dX7_speed_2 : decode cX7_speed 2 = .ok (.invokevirtual 94, 3) := by decide +kernel
theorem dX7_speed_5 : decode cX7_speed 5 = .ok (.ifCond .eq 10, 3) := by decide +kernel
theorem dX7_speed_8 : decode cX7_speed 8 = .ok (.iload_n 2, 1) := by decide +kernel
theorem dX7_speed_9 : decode cX7_speed 9 = .ok (.invokestatic 100, 3) := by decide +kernel
theorem dX7_speed_12 : decode cX7_speed 12 = .ok (.ifCond .ne 5, 3) := by decide +kernel
theorem dX7_speed_15 : decode cX7_speed 15 = .ok (.iconst (-1), 1) := by decide +kernel
theorem dX7_speed_16 : decode cX7_speed 16 = .ok (.ireturn, 1) := by decide +kernel
theorem dX7_speed_17 : decode cX7_speed 17 = .ok (.aload_n 0, 1) := by decide +kernel
theorem dX7_speed_18 : decode cX7_speed 18 = .ok (.invokevirtual 181, 3) := by decide +kernel
theorem dX7_speed_21 : decode cX7_speed 21 = .ok (.aload_n 0, 1) := by decide +kernel
theorem dX7_speed_22 : decode cX7_speed 22 = .ok (.iload_n 1, 1) := by decide +kernel
theorem dX7_speed_23 : decode cX7_speed 23 = .ok (.invokevirtual 184, 3) := by decide +kernel
theorem dX7_speed_26 : decode cX7_speed 26 = .ok (.pop, 1) := by decide +kernel
theorem dX7_speed_27 : decode cX7_speed 27 = .ok (.aload_n 0, 1) := by decide +kernel
theorem dX7_speed_28 : decode cX7_speed 28 = .ok (.getfield 13, 3) := by decide +kernel
theorem dX7_speed_31 : decode cX7_speed 31 = .ok (.iload_n 2, 1) := by decide +kernel
theorem dX7_speed_32 : decode cX7_speed 32 = .ok (.iaload, 1) := by decide +kernel
theorem dX7_speed_33 : decode cX7_speed 33 = .ok (.ireturn, 1) := by decide +kernel
theorem dX7_ends_0 : decode cX7_ends 0 = .ok (.aload_n 0, 1) := by decide +kernel
theorem dX7_ends_1 : decode cX7_ends 1 = .ok (.iload_n 1, 1) := by decide +kernel
theorem dX7_ends_2 : decode cX7_ends 2 = .ok (.invokevirtual 94, 3) := by decide +kernel
theorem dX7_ends_5 : decode cX7_ends 5 = .ok (.ifCond .ne 5, 3) := by decide +kernel
theorem dX7_ends_8 : decode cX7_ends 8 = .ok (.iconst (-1), 1) := by decide +kernel
theorem dX7_ends_9 : decode cX7_ends 9 = .ok (.ireturn, 1) := by decide +kernel
theorem dX7_ends_10 : decode cX7_ends 10 = .ok (.aload_n 0, 1) := by decide +kernel
theorem dX7_ends_11 : decode cX7_ends 11 = .ok (.invokevirtual 181, 3) := by decide +kernel
theorem dX7_ends_14 : decode cX7_ends 14 = .ok (.aload_n 0, 1) := by decide +kernel
theorem dX7_ends_15 : decode cX7_ends 15 = .ok (.iload_n 1, 1) := by decide +kernel
theorem dX7_ends_16 : decode cX7_ends 16 = .ok (.invokevirtual 184, 3) := by decide +kernel
theorem dX7_ends_19 : decode cX7_ends 19 = .ok (.ireturn, 1) := by decide +kernel
theorem dX7_fast_0 : decode cX7_fast 0 = .ok (.aload_n 0, 1) := by decide +kernel
theorem dX7_fast_1 : decode cX7_fast 1 = .ok (.iload_n 1, 1) := by decide +kernel
theorem dX7_fast_2 : decode cX7_fast 2 = .ok (.invokevirtual 94, 3) := by decide +kernel
theorem dX7_fast_5 : decode cX7_fast 5 = .ok (.ifCond .eq 13, 3) := by decide +kernel
theorem dX7_fast_8 : decode cX7_fast 8 = .ok (.iload_n 2, 1) := by decide +kernel
theorem dX7_fast_9 : decode cX7_fast 9 = .ok (.i2l, 1) := by decide +kernel
theorem dX7_fast_10 : decode cX7_fast 10 = .ok (.lconst 0, 1) := by decide +kernel
theorem dX7_fast_11 : decode cX7_fast 11 = .ok (.lconst 1, 1) := by decide +kernel
theorem dX7_fast_12 : decode cX7_fast 12 = .ok (.invokestatic 56, 3) := by decide +kernel
theorem dX7_fast_15 : decode cX7_fast 15 = .ok (.ifCond .ne 5, 3) := by decide +kernel
theorem dX7_fast_18 : decode cX7_fast 18 = .ok (.iconst (-1), 1) := by decide +kernel
theorem dX7_fast_19 : decode cX7_fast 19 = .ok (.ireturn, 1) := by decide +kernel
theorem dX7_fast_20 : decode cX7_fast 20 = .ok (.aload_n 0, 1) := by decide +kernel
theorem dX7_fast_21 : decode cX7_fast 21 = .ok (.invokevirtual 181, 3) := by decide +kernel
theorem dX7_fast_24 : decode cX7_fast 24 = .ok (.aload_n 0, 1) := by decide +kernel
theorem dX7_fast_25 : decode cX7_fast 25 = .ok (.iload_n 1, 1) := by decide +kernel
theorem dX7_fast_26 : decode cX7_fast 26 = .ok (.invokevirtual 184, 3) := by decide +kernel
theorem dX7_fast_29 : decode cX7_fast 29 = .ok (.pop, 1) := by decide +kernel
theorem dX7_fast_30 : decode cX7_fast 30 = .ok (.bipush (-4), 2) := by decide +kernel
theorem dX7_fast_32 : decode cX7_fast 32 = .ok (.istore_n 3, 1) := by decide +kernel
theorem dX7_fast_33 : decode cX7_fast 33 = .ok (.bipush (-4), 2) := by decide +kernel
theorem dX7_fast_35 : decode cX7_fast 35 = .ok (.istore 4, 2) := by decide +kernel
theorem dX7_fast_37 : decode cX7_fast 37 = .ok (.iconst 0, 1) := by decide +kernel
theorem dX7_fast_38 : decode cX7_fast 38 = .ok (.istore 5, 2) := by decide +kernel
theorem dX7_fast_40 : decode cX7_fast 40 = .ok (.iload 5, 2) := by decide +kernel
theorem dX7_fast_42 : decode cX7_fast 42 = .ok (.bipush 10, 2) := by decide +kernel
theorem dX7_fast_44 : decode cX7_fast 44 = .ok (.if_icmp .ge 54, 3) := by decide +kernel
theorem dX7_fast_47 : decode cX7_fast 47 = .ok (.aload_n 0, 1) := by decide +kernel
theorem dX7_fast_48 : decode cX7_fast 48 = .ok (.getfield 13, 3) := by decide +kernel
theorem dX7_fast_51 : decode cX7_fast 51 = .ok (.iload 5, 2) := by decide +kernel
theorem dX7_fast_53 : decode cX7_fast 53 = .ok (.iaload, 1) := by decide +kernel
theorem dX7_fast_54 : decode cX7_fast 54 = .ok (.iload 4, 2) := by decide +kernel
theorem dX7_fast_56 : decode cX7_fast 56 = .ok (.if_icmp .le 8, 3) := by decide +kernel
theorem dX7_fast_59 : decode cX7_fast 59 = .ok (.iload 5, 2) := by decide +kernel
theorem dX7_fast_61 : decode cX7_fast 61 = .ok (.goto 4, 3) := by decide +kernel
theorem dX7_fast_64 : decode cX7_fast 64 = .ok (.iload_n 3, 1) := by decide +kernel
theorem dX7_fast_65 : decode cX7_fast 65 = .ok (.istore_n 3, 1) := by decide +kernel
theorem dX7_fast_66 : decode cX7_fast 66 = .ok (.aload_n 0, 1) := by decide +kernel
theorem dX7_fast_67 : decode cX7_fast 67 = .ok (.getfield 13, 3) := by decide +kernel
theorem dX7_fast_70 : decode cX7_fast 70 = .ok (.iload 5, 2) := by decide +kernel
theorem dX7_fast_72 : decode cX7_fast 72 = .ok (.iaload, 1) := by decide +kernel
theorem dX7_fast_73 : decode cX7_fast 73 = .ok (.iload 4, 2) := by decide +kernel
theorem dX7_fast_75 : decode cX7_fast 75 = .ok (.if_icmp .le 13, 3) := by decide +kernel
theorem dX7_fast_78 : decode cX7_fast 78 = .ok (.aload_n 0, 1) := by decide +kernel
theorem dX7_fast_79 : decode cX7_fast 79 = .ok (.getfield 13, 3) := by decide +kernel
theorem dX7_fast_82 : decode cX7_fast 82 = .ok (.iload 5, 2) := by decide +kernel
theorem dX7_fast_84 : decode cX7_fast 84 = .ok (.iaload, 1) := by decide +kernel
theorem dX7_fast_85 : decode cX7_fast 85 = .ok (.goto 5, 3) := by decide +kernel
theorem dX7_fast_88 : decode cX7_fast 88 = .ok (.iload 4, 2) := by decide +kernel
theorem dX7_fast_90 : decode cX7_fast 90 = .ok (.istore 4, 2) := by decide +kernel
theorem dX7_fast_92 : decode cX7_fast 92 = .ok (.iinc 5 1, 3) := by decide +kernel
theorem dX7_fast_95 : decode cX7_fast 95 = .ok (.goto (-55), 3) := by decide +kernel
theorem dX7_fast_98 : decode cX7_fast 98 = .ok (.iload_n 2, 1) := by decide +kernel
theorem dX7_fast_99 : decode cX7_fast 99 = .ok (.ifCond .ne 7, 3) := by decide +kernel
theorem dX7_fast_102 : decode cX7_fast 102 = .ok (.iload_n 3, 1) := by decide +kernel
theorem dX7_fast_103 : decode cX7_fast 103 = .ok (.goto 5, 3) := by decide +kernel
theorem dX7_fast_106 : decode cX7_fast 106 = .ok (.iload 4, 2) := by decide +kernel
theorem dX7_fast_108 : decode cX7_fast 108 = .ok (.ireturn, 1) := by decide +kernel
theorem dX7_who_0 : decode cX7_who 0 = .ok (.iload_n 1, 1) := by decide +kernel
theorem dX7_who_1 : decode cX7_who 1 = .ok (.i2l, 1) := by decide +kernel
theorem dX7_who_2 : decode cX7_who 2 = .ok (.lconst 0, 1) := by decide +kernel
theorem dX7_who_3 : decode cX7_who 3 = .ok (.ldc2_w 89, 3) := by decide +kernel
theorem dX7_who_6 : decode cX7_who 6 = .ok (.invokestatic 56, 3) := by decide +kernel
theorem dX7_who_9 : decode cX7_who 9 = .ok (.ifCond .ne 5, 3) := by decide +kernel
theorem dX7_who_12 : decode cX7_who 12 = .ok (.iconst (-1), 1) := by decide +kernel
theorem dX7_who_13 : decode cX7_who 13 = .ok (.ireturn, 1) := by decide +kernel
theorem dX7_who_14 : decode cX7_who 14 = .ok (.iconst 0, 1) := by decide +kernel
theorem dX7_who_15 : decode cX7_who 15 = .ok (.istore_n 2, 1) := by decide +kernel
theorem dX7_who_16 : decode cX7_who 16 = .ok (.aload_n 0, 1) := by decide +kernel
theorem dX7_who_17 : decode cX7_who 17 = .ok (.invokevirtual 181, 3) := by decide +kernel
theorem dX7_who_20 : decode cX7_who 20 = .ok (.iconst 0, 1) := by decide +kernel
theorem dX7_who_21 : decode cX7_who 21 = .ok (.istore_n 3, 1) := by decide +kernel
theorem dX7_who_22 : decode cX7_who 22 = .ok (.iload_n 3, 1) := by decide +kernel
theorem dX7_who_23 : decode cX7_who 23 = .ok (.aload_n 0, 1) := by decide +kernel
theorem dX7_who_24 : decode cX7_who 24 = .ok (.getfield 7, 3) := by decide +kernel
theorem dX7_who_27 : decode cX7_who 27 = .ok (.iconst 0, 1) := by decide +kernel
theorem dX7_who_28 : decode cX7_who 28 = .ok (.iaload, 1) := by decide +kernel
theorem dX7_who_29 : decode cX7_who 29 = .ok (.if_icmp .ge 28, 3) := by decide +kernel
theorem dX7_who_32 : decode cX7_who 32 = .ok (.iload_n 2, 1) := by decide +kernel
theorem dX7_who_33 : decode cX7_who 33 = .ok (.aload_n 0, 1) := by decide +kernel
theorem dX7_who_34 : decode cX7_who 34 = .ok (.iload_n 3, 1) := by decide +kernel
theorem dX7_who_35 : decode cX7_who 35 = .ok (.invokevirtual 184, 3) := by decide +kernel
theorem dX7_who_38 : decode cX7_who 38 = .ok (.iload_n 1, 1) := by decide +kernel
theorem dX7_who_39 : decode cX7_who 39 = .ok (.if_icmp .ne 9, 3) := by decide +kernel
theorem dX7_who_42 : decode cX7_who 42 = .ok (.iconst 1, 1) := by decide +kernel
theorem dX7_who_43 : decode cX7_who 43 = .ok (.iload_n 3, 1) := by decide +kernel
theorem dX7_who_44 : decode cX7_who 44 = .ok (.ishl, 1) := by decide +kernel
theorem dX7_who_45 : decode cX7_who 45 = .ok (.goto 4, 3) := by decide +kernel
theorem dX7_who_48 : decode cX7_who 48 = .ok (.iconst 0, 1) := by decide +kernel
theorem dX7_who_49 : decode cX7_who 49 = .ok (.ior, 1) := by decide +kernel
theorem dX7_who_50 : decode cX7_who 50 = .ok (.istore_n 2, 1) := by decide +kernel
theorem dX7_who_51 : decode cX7_who 51 = .ok (.iinc 3 1, 3) := by decide +kernel
theorem dX7_who_54 : decode cX7_who 54 = .ok (.goto (-32), 3) := by decide +kernel
theorem dX7_who_57 : decode cX7_who 57 = .ok (.iload_n 2, 1) := by decide +kernel
theorem dX7_who_58 : decode cX7_who 58 = .ok (.ireturn, 1) := by decide +kernel
theorem dX7_waxes_0 : decode cX7_waxes 0 = .ok (.aload_n 0, 1) := by decide +kernel
theorem dX7_waxes_1 : decode cX7_waxes 1 = .ok (.iload_n 1, 1) := by decide +kernel
theorem dX7_waxes_2 : decode cX7_waxes 2 = .ok (.invokevirtual 94, 3) := by decide +kernel
theorem dX7_waxes_5 : decode cX7_waxes 5 = .ok (.ifCond .eq 15, 3) := by decide +kernel
theorem dX7_waxes_8 : decode cX7_waxes 8 = .ok (.iload_n 2, 1) := by decide +kernel
theorem dX7_waxes_9 : decode cX7_waxes 9 = .ok (.i2l, 1) := by decide +kernel
theorem dX7_waxes_10 : decode cX7_waxes 10 = .ok (.lconst 0, 1) := by decide +kernel
theorem dX7_waxes_11 : decode cX7_waxes 11 = .ok (.ldc2_w 89, 3) := by decide +kernel
theorem dX7_waxes_14 : decode cX7_waxes 14 = .ok (.invokestatic 56, 3) := by decide +kernel
theorem dX7_waxes_17 : decode cX7_waxes 17 = .ok (.ifCond .ne 5, 3) := by decide +kernel
theorem dX7_waxes_20 : decode cX7_waxes 20 = .ok (.iconst (-1), 1) := by decide +kernel
theorem dX7_waxes_21 : decode cX7_waxes 21 = .ok (.ireturn, 1) := by decide +kernel
theorem dX7_waxes_22 : decode cX7_waxes 22 = .ok (.aload_n 0, 1) := by decide +kernel
theorem dX7_waxes_23 : decode cX7_waxes 23 = .ok (.invokevirtual 181, 3) := by decide +kernel
theorem dX7_waxes_26 : decode cX7_waxes 26 = .ok (.aload_n 0, 1) := by decide +kernel
theorem dX7_waxes_27 : decode cX7_waxes 27 = .ok (.iload_n 1, 1) := by decide +kernel
theorem dX7_waxes_28 : decode cX7_waxes 28 = .ok (.invokevirtual 184, 3) := by decide +kernel
theorem dX7_waxes_31 : decode cX7_waxes 31 = .ok (.iload_n 2, 1) := by decide +kernel
theorem dX7_waxes_32 : decode cX7_waxes 32 = .ok (.if_icmp .ne 6, 3) := by decide +kernel
theorem dX7_waxes_35 : decode cX7_waxes 35 = .ok (.bipush 100, 2) := by decide +kernel
theorem dX7_waxes_37 : decode cX7_waxes 37 = .ok (.ireturn, 1) := by decide +kernel
theorem dX7_waxes_38 : decode cX7_waxes 38 = .ok (.bipush (-4), 2) := by decide +kernel
theorem dX7_waxes_40 : decode cX7_waxes 40 = .ok (.istore_n 3, 1) := by decide +kernel
theorem dX7_waxes_41 : decode cX7_waxes 41 = .ok (.bipush 99, 2) := by decide +kernel
theorem dX7_waxes_43 : decode cX7_waxes 43 = .ok (.istore 4, 2) := by decide +kernel
theorem dX7_waxes_45 : decode cX7_waxes 45 = .ok (.iload 4, 2) := by decide +kernel
theorem dX7_waxes_47 : decode cX7_waxes 47 = .ok (.ifCond .lt 42, 3) := by decide +kernel
theorem dX7_waxes_50 : decode cX7_waxes 50 = .ok (.aload_n 0, 1) := by decide +kernel
theorem dX7_waxes_51 : decode cX7_waxes 51 = .ok (.getfield 7, 3) := by decide +kernel
theorem dX7_waxes_54 : decode cX7_waxes 54 = .ok (.iconst 3, 1) := by decide +kernel
theorem dX7_waxes_55 : decode cX7_waxes 55 = .ok (.iload 4, 2) := by decide +kernel
theorem dX7_waxes_57 : decode cX7_waxes 57 = .ok (.bipush 10, 2) := by decide +kernel
theorem dX7_waxes_59 : decode cX7_waxes 59 = .ok (.idiv, 1) := by decide +kernel
theorem dX7_waxes_60 : decode cX7_waxes 60 = .ok (.iadd, 1) := by decide +kernel
theorem dX7_waxes_61 : decode cX7_waxes 61 = .ok (.iload 4, 2) := by decide +kernel
theorem dX7_waxes_63 : decode cX7_waxes 63 = .ok (.bipush 10, 2) := by decide +kernel
theorem dX7_waxes_65 : decode cX7_waxes 65 = .ok (.irem, 1) := by decide +kernel
theorem dX7_waxes_66 : decode cX7_waxes 66 = .ok (.iastore, 1) := by decide +kernel
theorem dX7_waxes_67 : decode cX7_waxes 67 = .ok (.aload_n 0, 1) := by decide +kernel
theorem dX7_waxes_68 : decode cX7_waxes 68 = .ok (.iload_n 1, 1) := by decide +kernel
theorem dX7_waxes_69 : decode cX7_waxes 69 = .ok (.invokevirtual 184, 3) := by decide +kernel
theorem dX7_waxes_72 : decode cX7_waxes 72 = .ok (.iload_n 2, 1) := by decide +kernel
theorem dX7_waxes_73 : decode cX7_waxes 73 = .ok (.if_icmp .ne 8, 3) := by decide +kernel
theorem dX7_waxes_76 : decode cX7_waxes 76 = .ok (.iload 4, 2) := by decide +kernel
theorem dX7_waxes_78 : decode cX7_waxes 78 = .ok (.goto 4, 3) := by decide +kernel
theorem dX7_waxes_81 : decode cX7_waxes 81 = .ok (.iload_n 3, 1) := by decide +kernel
theorem dX7_waxes_82 : decode cX7_waxes 82 = .ok (.istore_n 3, 1) := by decide +kernel
theorem dX7_waxes_83 : decode cX7_waxes 83 = .ok (.iinc 4 (-1), 3) := by decide +kernel
theorem dX7_waxes_86 : decode cX7_waxes 86 = .ok (.goto (-41), 3) := by decide +kernel
theorem dX7_waxes_89 : decode cX7_waxes 89 = .ok (.iload_n 3, 1) := by decide +kernel
theorem dX7_waxes_90 : decode cX7_waxes 90 = .ok (.ireturn, 1) := by decide +kernel
theorem dX7_may_0 : decode cX7_may 0 = .ok (.aload_n 0, 1) := by decide +kernel
theorem dX7_may_1 : decode cX7_may 1 = .ok (.iload_n 1, 1) := by decide +kernel
theorem dX7_may_2 : decode cX7_may 2 = .ok (.invokevirtual 94, 3) := by decide +kernel
theorem dX7_may_5 : decode cX7_may 5 = .ok (.ifCond .eq 10, 3) := by decide +kernel
theorem dX7_may_8 : decode cX7_may 8 = .ok (.iload_n 2, 1) := by decide +kernel
theorem dX7_may_9 : decode cX7_may 9 = .ok (.invokestatic 100, 3) := by decide +kernel
theorem dX7_may_12 : decode cX7_may 12 = .ok (.ifCond .ne 5, 3) := by decide +kernel
theorem dX7_may_15 : decode cX7_may 15 = .ok (.iconst (-1), 1) := by decide +kernel
theorem dX7_may_16 : decode cX7_may 16 = .ok (.ireturn, 1) := by decide +kernel
theorem dX7_may_17 : decode cX7_may 17 = .ok (.iconst 0, 1) := by decide +kernel
theorem dX7_may_18 : decode cX7_may 18 = .ok (.istore_n 3, 1) := by decide +kernel
theorem dX7_may_19 : decode cX7_may 19 = .ok (.aload_n 0, 1) := by decide +kernel
theorem dX7_may_20 : decode cX7_may 20 = .ok (.invokevirtual 181, 3) := by decide +kernel
theorem dX7_may_23 : decode cX7_may 23 = .ok (.iconst 0, 1) := by decide +kernel
theorem dX7_may_24 : decode cX7_may 24 = .ok (.istore 4, 2) := by decide +kernel
theorem dX7_may_26 : decode cX7_may 26 = .ok (.iload 4, 2) := by decide +kernel
theorem dX7_may_28 : decode cX7_may 28 = .ok (.bipush 10, 2) := by decide +kernel
theorem dX7_may_30 : decode cX7_may 30 = .ok (.if_icmp .ge 44, 3) := by decide +kernel
theorem dX7_may_33 : decode cX7_may 33 = .ok (.aload_n 0, 1) := by decide +kernel
theorem dX7_may_34 : decode cX7_may 34 = .ok (.getfield 7, 3) := by decide +kernel
theorem dX7_may_37 : decode cX7_may 37 = .ok (.iconst 3, 1) := by decide +kernel
theorem dX7_may_38 : decode cX7_may 38 = .ok (.iload_n 2, 1) := by decide +kernel
theorem dX7_may_39 : decode cX7_may 39 = .ok (.iadd, 1) := by decide +kernel
theorem dX7_may_40 : decode cX7_may 40 = .ok (.iload 4, 2) := by decide +kernel
theorem dX7_may_42 : decode cX7_may 42 = .ok (.iastore, 1) := by decide +kernel
theorem dX7_may_43 : decode cX7_may 43 = .ok (.aload_n 0, 1) := by decide +kernel
theorem dX7_may_44 : decode cX7_may 44 = .ok (.iload_n 1, 1) := by decide +kernel
theorem dX7_may_45 : decode cX7_may 45 = .ok (.invokevirtual 184, 3) := by decide +kernel
theorem dX7_may_48 : decode cX7_may 48 = .ok (.istore 5, 2) := by decide +kernel
theorem dX7_may_50 : decode cX7_may 50 = .ok (.iload_n 3, 1) := by decide +kernel
theorem dX7_may_51 : decode cX7_may 51 = .ok (.iload 5, 2) := by decide +kernel
theorem dX7_may_53 : decode cX7_may 53 = .ok (.bipush 8, 2) := by decide +kernel
theorem dX7_may_55 : decode cX7_may 55 = .ok (.if_icmp .ge 10, 3) := by decide +kernel
theorem dX7_may_58 : decode cX7_may 58 = .ok (.iconst 1, 1) := by decide +kernel
theorem dX7_may_59 : decode cX7_may 59 = .ok (.iload 5, 2) := by decide +kernel
theorem dX7_may_61 : decode cX7_may 61 = .ok (.ishl, 1) := by decide +kernel
theorem dX7_may_62 : decode cX7_may 62 = .ok (.goto 4, 3) := by decide +kernel
theorem dX7_may_65 : decode cX7_may 65 = .ok (.iconst 0, 1) := by decide +kernel
theorem dX7_may_66 : decode cX7_may 66 = .ok (.ior, 1) := by decide +kernel
theorem dX7_may_67 : decode cX7_may 67 = .ok (.istore_n 3, 1) := by decide +kernel
theorem dX7_may_68 : decode cX7_may 68 = .ok (.iinc 4 1, 3) := by decide +kernel
theorem dX7_may_71 : decode cX7_may 71 = .ok (.goto (-45), 3) := by decide +kernel
theorem dX7_may_74 : decode cX7_may 74 = .ok (.iload_n 3, 1) := by decide +kernel
theorem dX7_may_75 : decode cX7_may 75 = .ok (.ireturn, 1) := by decide +kernel
theorem dX7_weight_0 : decode cX7_weight 0 = .ok (.aload_n 0, 1) := by decide +kernel
theorem dX7_weight_1 : decode cX7_weight 1 = .ok (.iload_n 1, 1) := by decide +kernel
theorem dX7_weight_2 : decode cX7_weight 2 = .ok (.invokevirtual 94, 3) := by decide +kernel
theorem dX7_weight_5 : decode cX7_weight 5 = .ok (.ifCond .ne 5, 3) := by decide +kernel
theorem dX7_weight_8 : decode cX7_weight 8 = .ok (.iconst (-1), 1) := by decide +kernel
theorem dX7_weight_9 : decode cX7_weight 9 = .ok (.ireturn, 1) := by decide +kernel
theorem dX7_weight_10 : decode cX7_weight 10 = .ok (.bipush (-4), 2) := by decide +kernel
theorem dX7_weight_12 : decode cX7_weight 12 = .ok (.istore_n 2, 1) := by decide +kernel
theorem dX7_weight_13 : decode cX7_weight 13 = .ok (.aload_n 0, 1) := by decide +kernel
theorem dX7_weight_14 : decode cX7_weight 14 = .ok (.invokevirtual 181, 3) := by decide +kernel
theorem dX7_weight_17 : decode cX7_weight 17 = .ok (.bipush 20, 2) := by decide +kernel
theorem dX7_weight_19 : decode cX7_weight 19 = .ok (.istore_n 3, 1) := by decide +kernel
theorem dX7_weight_20 : decode cX7_weight 20 = .ok (.iload_n 3, 1) := by decide +kernel
theorem dX7_weight_21 : decode cX7_weight 21 = .ok (.ifCond .le 32, 3) := by decide +kernel
theorem dX7_weight_24 : decode cX7_weight 24 = .ok (.aload_n 0, 1) := by decide +kernel
theorem dX7_weight_25 : decode cX7_weight 25 = .ok (.iload_n 1, 1) := by decide +kernel
theorem dX7_weight_26 : decode cX7_weight 26 = .ok (.iconst 1, 1) := by decide +kernel
theorem dX7_weight_27 : decode cX7_weight 27 = .ok (.iload_n 3, 1) := by decide +kernel
theorem dX7_weight_28 : decode cX7_weight 28 = .ok (.invokevirtual 70, 3) := by decide +kernel
theorem dX7_weight_31 : decode cX7_weight 31 = .ok (.aload_n 0, 1) := by decide +kernel
theorem dX7_weight_32 : decode cX7_weight 32 = .ok (.iload_n 1, 1) := by decide +kernel
theorem dX7_weight_33 : decode cX7_weight 33 = .ok (.invokevirtual 184, 3) := by decide +kernel
theorem dX7_weight_36 : decode cX7_weight 36 = .ok (.bipush 8, 2) := by decide +kernel
theorem dX7_weight_38 : decode cX7_weight 38 = .ok (.if_icmp .ge 7, 3) := by decide +kernel
theorem dX7_weight_41 : decode cX7_weight 41 = .ok (.iload_n 3, 1) := by decide +kernel
theorem dX7_weight_42 : decode cX7_weight 42 = .ok (.goto 4, 3) := by decide +kernel
theorem dX7_weight_45 : decode cX7_weight 45 = .ok (.iload_n 2, 1) := by decide +kernel
theorem dX7_weight_46 : decode cX7_weight 46 = .ok (.istore_n 2, 1) := by decide +kernel
theorem dX7_weight_47 : decode cX7_weight 47 = .ok (.iinc 3 (-1), 3) := by decide +kernel
theorem dX7_weight_50 : decode cX7_weight 50 = .ok (.goto (-30), 3) := by decide +kernel
theorem dX7_weight_53 : decode cX7_weight 53 = .ok (.iload_n 2, 1) := by decide +kernel
theorem dX7_weight_54 : decode cX7_weight 54 = .ok (.ireturn, 1) := by decide +kernel
theorem dX7_bump_0 : decode cX7_bump 0 = .ok (.iload_n 1, 1) := by decide +kernel
theorem dX7_bump_1 : decode cX7_bump 1 = .ok (.i2l, 1) := by decide +kernel
theorem dX7_bump_2 : decode cX7_bump 2 = .ok (.lconst 0, 1) := by decide +kernel
theorem dX7_bump_3 : decode cX7_bump 3 = .ok (.lconst 1, 1) := by decide +kernel
theorem dX7_bump_4 : decode cX7_bump 4 = .ok (.invokestatic 56, 3) := by decide +kernel
theorem dX7_bump_7 : decode cX7_bump 7 = .ok (.ifCond .ne 5, 3) := by decide +kernel
theorem dX7_bump_10 : decode cX7_bump 10 = .ok (.iconst (-1), 1) := by decide +kernel
theorem dX7_bump_11 : decode cX7_bump 11 = .ok (.ireturn, 1) := by decide +kernel
theorem dX7_bump_12 : decode cX7_bump 12 = .ok (.iconst 0, 1) := by decide +kernel
theorem dX7_bump_13 : decode cX7_bump 13 = .ok (.istore_n 2, 1) := by decide +kernel
theorem dX7_bump_14 : decode cX7_bump 14 = .ok (.iconst (-1), 1) := by decide +kernel
theorem dX7_bump_15 : decode cX7_bump 15 = .ok (.istore_n 3, 1) := by decide +kernel
theorem dX7_bump_16 : decode cX7_bump 16 = .ok (.aload_n 0, 1) := by decide +kernel
theorem dX7_bump_17 : decode cX7_bump 17 = .ok (.invokevirtual 181, 3) := by decide +kernel
theorem dX7_bump_20 : decode cX7_bump 20 = .ok (.iconst 0, 1) := by decide +kernel
theorem dX7_bump_21 : decode cX7_bump 21 = .ok (.istore 4, 2) := by decide +kernel
theorem dX7_bump_23 : decode cX7_bump 23 = .ok (.iload 4, 2) := by decide +kernel
theorem dX7_bump_25 : decode cX7_bump 25 = .ok (.bipush 10, 2) := by decide +kernel
theorem dX7_bump_27 : decode cX7_bump 27 = .ok (.if_icmp .ge 90, 3) := by decide +kernel
theorem dX7_bump_30 : decode cX7_bump 30 = .ok (.iconst 0, 1) := by decide +kernel
theorem dX7_bump_31 : decode cX7_bump 31 = .ok (.istore 5, 2) := by decide +kernel
theorem dX7_bump_33 : decode cX7_bump 33 = .ok (.iconst 0, 1) := by decide +kernel
theorem dX7_bump_34 : decode cX7_bump 34 = .ok (.istore 6, 2) := by decide +kernel
theorem dX7_bump_36 : decode cX7_bump 36 = .ok (.iload 6, 2) := by decide +kernel
theorem dX7_bump_38 : decode cX7_bump 38 = .ok (.aload_n 0, 1) := by decide +kernel
theorem dX7_bump_39 : decode cX7_bump 39 = .ok (.getfield 7, 3) := by decide +kernel
theorem dX7_bump_42 : decode cX7_bump 42 = .ok (.iconst 0, 1) := by decide +kernel
theorem dX7_bump_43 : decode cX7_bump 43 = .ok (.iaload, 1) := by decide +kernel
theorem dX7_bump_44 : decode cX7_bump 44 = .ok (.if_icmp .ge 41, 3) := by decide +kernel
theorem dX7_bump_47 : decode cX7_bump 47 = .ok (.aload_n 0, 1) := by decide +kernel
theorem dX7_bump_48 : decode cX7_bump 48 = .ok (.getfield 7, 3) := by decide +kernel
theorem dX7_bump_51 : decode cX7_bump 51 = .ok (.bipush 13, 2) := by decide +kernel
theorem dX7_bump_53 : decode cX7_bump 53 = .ok (.iload 4, 2) := by decide +kernel
theorem dX7_bump_55 : decode cX7_bump 55 = .ok (.iadd, 1) := by decide +kernel
theorem dX7_bump_56 : decode cX7_bump 56 = .ok (.iconst 0, 1) := by decide +kernel
theorem dX7_bump_57 : decode cX7_bump 57 = .ok (.iastore, 1) := by decide +kernel
theorem dX7_bump_58 : decode cX7_bump 58 = .ok (.iload 5, 2) := by decide +kernel
theorem dX7_bump_60 : decode cX7_bump 60 = .ok (.aload_n 0, 1) := by decide +kernel
theorem dX7_bump_61 : decode cX7_bump 61 = .ok (.iload 6, 2) := by decide +kernel
theorem dX7_bump_63 : decode cX7_bump 63 = .ok (.invokevirtual 184, 3) := by decide +kernel
theorem dX7_bump_66 : decode cX7_bump 66 = .ok (.bipush 8, 2) := by decide +kernel
theorem dX7_bump_68 : decode cX7_bump 68 = .ok (.if_icmp .ge 7, 3) := by decide +kernel
theorem dX7_bump_71 : decode cX7_bump 71 = .ok (.iconst 1, 1) := by decide +kernel
theorem dX7_bump_72 : decode cX7_bump 72 = .ok (.goto 4, 3) := by decide +kernel
theorem dX7_bump_75 : decode cX7_bump 75 = .ok (.iconst 0, 1) := by decide +kernel
theorem dX7_bump_76 : decode cX7_bump 76 = .ok (.iadd, 1) := by decide +kernel
theorem dX7_bump_77 : decode cX7_bump 77 = .ok (.istore 5, 2) := by decide +kernel
theorem dX7_bump_79 : decode cX7_bump 79 = .ok (.iinc 6 1, 3) := by decide +kernel
theorem dX7_bump_82 : decode cX7_bump 82 = .ok (.goto (-46), 3) := by decide +kernel
theorem dX7_bump_85 : decode cX7_bump 85 = .ok (.iload 5, 2) := by decide +kernel
theorem dX7_bump_87 : decode cX7_bump 87 = .ok (.iload_n 3, 1) := by decide +kernel
theorem dX7_bump_88 : decode cX7_bump 88 = .ok (.if_icmp .le 8, 3) := by decide +kernel
theorem dX7_bump_91 : decode cX7_bump 91 = .ok (.iload 4, 2) := by decide +kernel
theorem dX7_bump_93 : decode cX7_bump 93 = .ok (.goto 4, 3) := by decide +kernel
theorem dX7_bump_96 : decode cX7_bump 96 = .ok (.iload_n 2, 1) := by decide +kernel
theorem dX7_bump_97 : decode cX7_bump 97 = .ok (.istore_n 2, 1) := by decide +kernel
theorem dX7_bump_98 : decode cX7_bump 98 = .ok (.iload 5, 2) := by decide +kernel
theorem dX7_bump_100 : decode cX7_bump 100 = .ok (.iload_n 3, 1) := by decide +kernel
theorem dX7_bump_101 : decode cX7_bump 101 = .ok (.if_icmp .le 8, 3) := by decide +kernel
theorem dX7_bump_104 : decode cX7_bump 104 = .ok (.iload 5, 2) := by decide +kernel
theorem dX7_bump_106 : decode cX7_bump 106 = .ok (.goto 4, 3) := by decide +kernel
theorem dX7_bump_109 : decode cX7_bump 109 = .ok (.iload_n 3, 1) := by decide +kernel
theorem dX7_bump_110 : decode cX7_bump 110 = .ok (.istore_n 3, 1) := by decide +kernel
theorem dX7_bump_111 : decode cX7_bump 111 = .ok (.iinc 4 1, 3) := by decide +kernel
theorem dX7_bump_114 : decode cX7_bump 114 = .ok (.goto (-91), 3) := by decide +kernel
theorem dX7_bump_117 : decode cX7_bump 117 = .ok (.iload_n 1, 1) := by decide +kernel
theorem dX7_bump_118 : decode cX7_bump 118 = .ok (.ifCond .ne 7, 3) := by decide +kernel
theorem dX7_bump_121 : decode cX7_bump 121 = .ok (.iload_n 2, 1) := by decide +kernel
theorem dX7_bump_122 : decode cX7_bump 122 = .ok (.goto 4, 3) := by decide +kernel
theorem dX7_bump_125 : decode cX7_bump 125 = .ok (.iload_n 3, 1) := by decide +kernel
theorem dX7_bump_126 : decode cX7_bump 126 = .ok (.ireturn, 1) := by decide +kernel
theorem dX7_isOrder_0 : decode cX7_isOrder 0 = .ok (.iload_n 1, 1) := by decide +kernel
theorem dX7_isOrder_1 : decode cX7_isOrder 1 = .ok (.istore_n 3, 1) := by decide +kernel
theorem dX7_isOrder_2 : decode cX7_isOrder 2 = .ok (.iconst 0, 1) := by decide +kernel
theorem dX7_isOrder_3 : decode cX7_isOrder 3 = .ok (.istore 4, 2) := by decide +kernel
theorem dX7_isOrder_5 : decode cX7_isOrder 5 = .ok (.iload_n 2, 1) := by decide +kernel
theorem dX7_isOrder_6 : decode cX7_isOrder 6 = .ok (.iconst 1, 1) := by decide +kernel
theorem dX7_isOrder_7 : decode cX7_isOrder 7 = .ok (.isub, 1) := by decide +kernel
theorem dX7_isOrder_8 : decode cX7_isOrder 8 = .ok (.istore 5, 2) := by decide +kernel
theorem dX7_isOrder_10 : decode cX7_isOrder 10 = .ok (.iload 5, 2) := by decide +kernel
theorem dX7_isOrder_12 : decode cX7_isOrder 12 = .ok (.ifCond .lt 38, 3) := by decide +kernel
theorem dX7_isOrder_15 : decode cX7_isOrder 15 = .ok (.aload_n 0, 1) := by decide +kernel
theorem dX7_isOrder_16 : decode cX7_isOrder 16 = .ok (.getfield 34, 3) := by decide +kernel
theorem dX7_isOrder_19 : decode cX7_isOrder 19 = .ok (.iload 5, 2) := by decide +kernel
theorem dX7_isOrder_21 : decode cX7_isOrder 21 = .ok (.aload_n 0, 1) := by decide +kernel
theorem dX7_isOrder_22 : decode cX7_isOrder 22 = .ok (.getfield 31, 3) := by decide +kernel
theorem dX7_isOrder_25 : decode cX7_isOrder 25 = .ok (.iload_n 3, 1) := by decide +kernel
theorem dX7_isOrder_26 : decode cX7_isOrder 26 = .ok (.iload_n 2, 1) := by decide +kernel
theorem dX7_isOrder_27 : decode cX7_isOrder 27 = .ok (.irem, 1) := by decide +kernel
theorem dX7_isOrder_28 : decode cX7_isOrder 28 = .ok (.iaload, 1) := by decide +kernel
theorem dX7_isOrder_29 : decode cX7_isOrder 29 = .ok (.iastore, 1) := by decide +kernel
theorem dX7_isOrder_30 : decode cX7_isOrder 30 = .ok (.iload 4, 2) := by decide +kernel
theorem dX7_isOrder_32 : decode cX7_isOrder 32 = .ok (.iconst 1, 1) := by decide +kernel
theorem dX7_isOrder_33 : decode cX7_isOrder 33 = .ok (.iload_n 3, 1) := by decide +kernel
theorem dX7_isOrder_34 : decode cX7_isOrder 34 = .ok (.iload_n 2, 1) := by decide +kernel
theorem dX7_isOrder_35 : decode cX7_isOrder 35 = .ok (.irem, 1) := by decide +kernel
theorem dX7_isOrder_36 : decode cX7_isOrder 36 = .ok (.ishl, 1) := by decide +kernel
theorem dX7_isOrder_37 : decode cX7_isOrder 37 = .ok (.ior, 1) := by decide +kernel
theorem dX7_isOrder_38 : decode cX7_isOrder 38 = .ok (.istore 4, 2) := by decide +kernel
theorem dX7_isOrder_40 : decode cX7_isOrder 40 = .ok (.iload_n 3, 1) := by decide +kernel
theorem dX7_isOrder_41 : decode cX7_isOrder 41 = .ok (.iload_n 2, 1) := by decide +kernel
theorem dX7_isOrder_42 : decode cX7_isOrder 42 = .ok (.idiv, 1) := by decide +kernel
theorem dX7_isOrder_43 : decode cX7_isOrder 43 = .ok (.istore_n 3, 1) := by decide +kernel
theorem dX7_isOrder_44 : decode cX7_isOrder 44 = .ok (.iinc 5 (-1), 3) := by decide +kernel
theorem dX7_isOrder_47 : decode cX7_isOrder 47 = .ok (.goto (-37), 3) := by decide +kernel
theorem dX7_isOrder_50 : decode cX7_isOrder 50 = .ok (.iload 4, 2) := by decide +kernel
theorem dX7_isOrder_52 : decode cX7_isOrder 52 = .ok (.iconst 1, 1) := by decide +kernel
theorem dX7_isOrder_53 : decode cX7_isOrder 53 = .ok (.iload_n 2, 1) := by decide +kernel
theorem dX7_isOrder_54 : decode cX7_isOrder 54 = .ok (.ishl, 1) := by decide +kernel
theorem dX7_isOrder_55 : decode cX7_isOrder 55 = .ok (.iconst 1, 1) := by decide +kernel
theorem dX7_isOrder_56 : decode cX7_isOrder 56 = .ok (.isub, 1) := by decide +kernel
theorem dX7_isOrder_57 : decode cX7_isOrder 57 = .ok (.if_icmp .ne 7, 3) := by decide +kernel
theorem dX7_isOrder_60 : decode cX7_isOrder 60 = .ok (.iconst 1, 1) := by decide +kernel
theorem dX7_isOrder_61 : decode cX7_isOrder 61 = .ok (.goto 4, 3) := by decide +kernel
theorem dX7_isOrder_64 : decode cX7_isOrder 64 = .ok (.iconst 0, 1) := by decide +kernel
theorem dX7_isOrder_65 : decode cX7_isOrder 65 = .ok (.ireturn, 1) := by decide +kernel
theorem dX7_order_0 : decode cX7_order 0 = .ok (.iload_n 1, 1) := by decide +kernel
theorem dX7_order_1 : decode cX7_order 1 = .ok (.iconst (-1), 1) := by decide +kernel
theorem dX7_order_2 : decode cX7_order 2 = .ok (.if_icmp .ge 5, 3) := by decide +kernel
theorem dX7_order_5 : decode cX7_order 5 = .ok (.iconst (-1), 1) := by decide +kernel
theorem dX7_order_6 : decode cX7_order 6 = .ok (.ireturn, 1) := by decide +kernel
theorem dX7_order_7 : decode cX7_order 7 = .ok (.iconst 0, 1) := by decide +kernel
theorem dX7_order_8 : decode cX7_order 8 = .ok (.istore_n 2, 1) := by decide +kernel
theorem dX7_order_9 : decode cX7_order 9 = .ok (.iconst 1, 1) := by decide +kernel
theorem dX7_order_10 : decode cX7_order 10 = .ok (.istore_n 3, 1) := by decide +kernel
theorem dX7_order_11 : decode cX7_order 11 = .ok (.iconst 0, 1) := by decide +kernel
theorem dX7_order_12 : decode cX7_order 12 = .ok (.istore 4, 2) := by decide +kernel
theorem dX7_order_14 : decode cX7_order 14 = .ok (.iload 4, 2) := by decide +kernel
theorem dX7_order_16 : decode cX7_order 16 = .ok (.aload_n 0, 1) := by decide +kernel
theorem dX7_order_17 : decode cX7_order 17 = .ok (.getfield 7, 3) := by decide +kernel
theorem dX7_order_20 : decode cX7_order 20 = .ok (.iconst 0, 1) := by decide +kernel
theorem dX7_order_21 : decode cX7_order 21 = .ok (.iaload, 1) := by decide +kernel
theorem dX7_order_22 : decode cX7_order 22 = .ok (.if_icmp .ge 31, 3) := by decide +kernel
theorem dX7_order_25 : decode cX7_order 25 = .ok (.aload_n 0, 1) := by decide +kernel
theorem dX7_order_26 : decode cX7_order 26 = .ok (.iload 4, 2) := by decide +kernel
theorem dX7_order_28 : decode cX7_order 28 = .ok (.invokevirtual 66, 3) := by decide +kernel
theorem dX7_order_31 : decode cX7_order 31 = .ok (.bipush 30, 2) := by decide +kernel
theorem dX7_order_33 : decode cX7_order 33 = .ok (.if_icmp .ne 14, 3) := by decide +kernel
theorem dX7_order_36 : decode cX7_order 36 = .ok (.aload_n 0, 1) := by decide +kernel
theorem dX7_order_37 : decode cX7_order 37 = .ok (.getfield 31, 3) := by decide +kernel
theorem dX7_order_40 : decode cX7_order 40 = .ok (.iload_n 2, 1) := by decide +kernel
theorem dX7_order_41 : decode cX7_order 41 = .ok (.iload 4, 2) := by decide +kernel
theorem dX7_order_43 : decode cX7_order 43 = .ok (.iastore, 1) := by decide +kernel
theorem dX7_order_44 : decode cX7_order 44 = .ok (.iinc 2 1, 3) := by decide +kernel
theorem dX7_order_47 : decode cX7_order 47 = .ok (.iinc 4 1, 3) := by decide +kernel
theorem dX7_order_50 : decode cX7_order 50 = .ok (.goto (-36), 3) := by decide +kernel
theorem dX7_order_53 : decode cX7_order 53 = .ok (.iconst 0, 1) := by decide +kernel
theorem dX7_order_54 : decode cX7_order 54 = .ok (.istore 4, 2) := by decide +kernel
theorem dX7_order_56 : decode cX7_order 56 = .ok (.iload 4, 2) := by decide +kernel
theorem dX7_order_58 : decode cX7_order 58 = .ok (.iload_n 2, 1) := by decide +kernel
theorem dX7_order_59 : decode cX7_order 59 = .ok (.if_icmp .ge 13, 3) := by decide +kernel
theorem dX7_order_62 : decode cX7_order 62 = .ok (.iload_n 3, 1) := by decide +kernel
theorem dX7_order_63 : decode cX7_order 63 = .ok (.iload_n 2, 1) := by decide +kernel
theorem dX7_order_64 : decode cX7_order 64 = .ok (.imul, 1) := by decide +kernel
theorem dX7_order_65 : decode cX7_order 65 = .ok (.istore_n 3, 1) := by decide +kernel
theorem dX7_order_66 : decode cX7_order 66 = .ok (.iinc 4 1, 3) := by decide +kernel
theorem dX7_order_69 : decode cX7_order 69 = .ok (.goto (-13), 3) := by decide +kernel
theorem dX7_order_72 : decode cX7_order 72 = .ok (.iconst (-1), 1) := by decide +kernel
theorem dX7_order_73 : decode cX7_order 73 = .ok (.istore 4, 2) := by decide +kernel
theorem dX7_order_75 : decode cX7_order 75 = .ok (.aload_n 0, 1) := by decide +kernel
theorem dX7_order_76 : decode cX7_order 76 = .ok (.invokevirtual 181, 3) := by decide +kernel
theorem dX7_order_79 : decode cX7_order 79 = .ok (.iconst 0, 1) := by decide +kernel
theorem dX7_order_80 : decode cX7_order 80 = .ok (.istore 5, 2) := by decide +kernel
theorem dX7_order_82 : decode cX7_order 82 = .ok (.iload 5, 2) := by decide +kernel
theorem dX7_order_84 : decode cX7_order 84 = .ok (.iload_n 3, 1) := by decide +kernel
theorem dX7_order_85 : decode cX7_order 85 = .ok (.if_icmp .ge 111, 3) := by decide +kernel
theorem dX7_order_88 : decode cX7_order 88 = .ok (.aload_n 0, 1) := by decide +kernel
theorem dX7_order_89 : decode cX7_order 89 = .ok (.iload 5, 2) := by decide +kernel
theorem dX7_order_91 : decode cX7_order 91 = .ok (.iload_n 2, 1) := by decide +kernel
theorem dX7_order_92 : decode cX7_order 92 = .ok (.invokevirtual 187, 3) := by decide +kernel
theorem dX7_order_95 : decode cX7_order 95 = .ok (.ifCond .eq 95, 3) := by decide +kernel
theorem dX7_order_98 : decode cX7_order 98 = .ok (.iconst 0, 1) := by decide +kernel
theorem dX7_order_99 : decode cX7_order 99 = .ok (.istore 6, 2) := by decide +kernel
theorem dX7_order_101 : decode cX7_order 101 = .ok (.iload 6, 2) := by decide +kernel
theorem dX7_order_103 : decode cX7_order 103 = .ok (.iload_n 2, 1) := by decide +kernel
theorem dX7_order_104 : decode cX7_order 104 = .ok (.if_icmp .ge 21, 3) := by decide +kernel
theorem dX7_order_107 : decode cX7_order 107 = .ok (.aload_n 0, 1) := by decide +kernel
theorem dX7_order_108 : decode cX7_order 108 = .ok (.aload_n 0, 1) := by decide +kernel
theorem dX7_order_109 : decode cX7_order 109 = .ok (.getfield 34, 3) := by decide +kernel
theorem dX7_order_112 : decode cX7_order 112 = .ok (.iload 6, 2) := by decide +kernel
theorem dX7_order_114 : decode cX7_order 114 = .ok (.iaload, 1) := by decide +kernel
theorem dX7_order_115 : decode cX7_order 115 = .ok (.invokevirtual 163, 3) := by decide +kernel
theorem dX7_order_118 : decode cX7_order 118 = .ok (.pop, 1) := by decide +kernel
theorem dX7_order_119 : decode cX7_order 119 = .ok (.iinc 6 1, 3) := by decide +kernel
theorem dX7_order_122 : decode cX7_order 122 = .ok (.goto (-21), 3) := by decide +kernel
theorem dX7_order_125 : decode cX7_order 125 = .ok (.aload_n 0, 1) := by decide +kernel
theorem dX7_order_126 : decode cX7_order 126 = .ok (.invokevirtual 114, 3) := by decide +kernel
theorem dX7_order_129 : decode cX7_order 129 = .ok (.invokestatic 191, 3) := by decide +kernel
theorem dX7_order_132 : decode cX7_order 132 = .ok (.istore 6, 2) := by decide +kernel
theorem dX7_order_134 : decode cX7_order 134 = .ok (.aload_n 0, 1) := by decide +kernel
theorem dX7_order_135 : decode cX7_order 135 = .ok (.invokevirtual 178, 3) := by decide +kernel
theorem dX7_order_138 : decode cX7_order 138 = .ok (.iconst 0, 1) := by decide +kernel
theorem dX7_order_139 : decode cX7_order 139 = .ok (.istore 7, 2) := by decide +kernel
theorem dX7_order_141 : decode cX7_order 141 = .ok (.iload 7, 2) := by decide +kernel
theorem dX7_order_143 : decode cX7_order 143 = .ok (.iload_n 2, 1) := by decide +kernel
theorem dX7_order_144 : decode cX7_order 144 = .ok (.if_icmp .ge 30, 3) := by decide +kernel
theorem dX7_order_147 : decode cX7_order 147 = .ok (.iload 6, 2) := by decide +kernel
theorem dX7_order_149 : decode cX7_order 149 = .ok (.iload 4, 2) := by decide +kernel
theorem dX7_order_151 : decode cX7_order 151 = .ok (.if_icmp .le 23, 3) := by decide +kernel
theorem dX7_order_154 : decode cX7_order 154 = .ok (.aload_n 0, 1) := by decide +kernel
theorem dX7_order_155 : decode cX7_order 155 = .ok (.getfield 37, 3) := by decide +kernel
theorem dX7_order_158 : decode cX7_order 158 = .ok (.iload 7, 2) := by decide +kernel
theorem dX7_order_160 : decode cX7_order 160 = .ok (.aload_n 0, 1) := by decide +kernel
theorem dX7_order_161 : decode cX7_order 161 = .ok (.getfield 34, 3) := by decide +kernel
theorem dX7_order_164 : decode cX7_order 164 = .ok (.iload 7, 2) := by decide +kernel
theorem dX7_order_166 : decode cX7_order 166 = .ok (.iaload, 1) := by decide +kernel
theorem dX7_order_167 : decode cX7_order 167 = .ok (.iastore, 1) := by decide +kernel
theorem dX7_order_168 : decode cX7_order 168 = .ok (.iinc 7 1, 3) := by decide +kernel
theorem dX7_order_171 : decode cX7_order 171 = .ok (.goto (-30), 3) := by decide +kernel
theorem dX7_order_174 : decode cX7_order 174 = .ok (.iload 6, 2) := by decide +kernel
theorem dX7_order_176 : decode cX7_order 176 = .ok (.iload 4, 2) := by decide +kernel
theorem dX7_order_178 : decode cX7_order 178 = .ok (.if_icmp .le 8, 3) := by decide +kernel
theorem dX7_order_181 : decode cX7_order 181 = .ok (.iload 6, 2) := by decide +kernel
theorem dX7_order_183 : decode cX7_order 183 = .ok (.goto 5, 3) := by decide +kernel
theorem dX7_order_186 : decode cX7_order 186 = .ok (.iload 4, 2) := by decide +kernel
theorem dX7_order_188 : decode cX7_order 188 = .ok (.istore 4, 2) := by decide +kernel
theorem dX7_order_190 : decode cX7_order 190 = .ok (.iinc 5 1, 3) := by decide +kernel
theorem dX7_order_193 : decode cX7_order 193 = .ok (.goto (-111), 3) := by decide +kernel
theorem dX7_order_196 : decode cX7_order 196 = .ok (.iload_n 1, 1) := by decide +kernel
theorem dX7_order_197 : decode cX7_order 197 = .ok (.ifCond .ge 8, 3) := by decide +kernel
theorem dX7_order_200 : decode cX7_order 200 = .ok (.iload 4, 2) := by decide +kernel
theorem dX7_order_202 : decode cX7_order 202 = .ok (.goto 19, 3) := by decide +kernel
theorem dX7_order_205 : decode cX7_order 205 = .ok (.iload_n 1, 1) := by decide +kernel
theorem dX7_order_206 : decode cX7_order 206 = .ok (.iload_n 2, 1) := by decide +kernel
theorem dX7_order_207 : decode cX7_order 207 = .ok (.if_icmp .ge 12, 3) := by decide +kernel
theorem dX7_order_210 : decode cX7_order 210 = .ok (.aload_n 0, 1) := by decide +kernel
theorem dX7_order_211 : decode cX7_order 211 = .ok (.getfield 37, 3) := by decide +kernel
theorem dX7_order_214 : decode cX7_order 214 = .ok (.iload_n 1, 1) := by decide +kernel
theorem dX7_order_215 : decode cX7_order 215 = .ok (.iaload, 1) := by decide +kernel
theorem dX7_order_216 : decode cX7_order 216 = .ok (.goto 5, 3) := by decide +kernel
theorem dX7_order_219 : decode cX7_order 219 = .ok (.bipush (-4), 2) := by decide +kernel
theorem dX7_order_221 : decode cX7_order 221 = .ok (.ireturn, 1) := by decide +kernel
theorem dX7_rain_0 : decode cX7_rain 0 = .ok (.aload_n 0, 1) := by decide +kernel
theorem dX7_rain_1 : decode cX7_rain 1 = .ok (.iload_n 1, 1) := by decide +kernel
theorem dX7_rain_2 : decode cX7_rain 2 = .ok (.invokevirtual 94, 3) := by decide +kernel
theorem dX7_rain_5 : decode cX7_rain 5 = .ok (.ifCond .eq 25, 3) := by decide +kernel
theorem dX7_rain_8 : decode cX7_rain 8 = .ok (.iload_n 2, 1) := by decide +kernel
theorem dX7_rain_9 : decode cX7_rain 9 = .ok (.i2l, 1) := by decide +kernel
theorem dX7_rain_10 : decode cX7_rain 10 = .ok (.lconst 0, 1) := by decide +kernel
theorem dX7_rain_11 : decode cX7_rain 11 = .ok (.ldc2_w 194, 3) := by decide +kernel
theorem dX7_rain_14 : decode cX7_rain 14 = .ok (.invokestatic 56, 3) := by decide +kernel
theorem dX7_rain_17 : decode cX7_rain 17 = .ok (.ifCond .eq 13, 3) := by decide +kernel
theorem dX7_rain_20 : decode cX7_rain 20 = .ok (.iload_n 3, 1) := by decide +kernel
theorem dX7_rain_21 : decode cX7_rain 21 = .ok (.i2l, 1) := by decide +kernel
theorem dX7_rain_22 : decode cX7_rain 22 = .ok (.lconst 0, 1) := by decide +kernel
theorem dX7_rain_23 : decode cX7_rain 23 = .ok (.lconst 1, 1) := by decide +kernel
theorem dX7_rain_24 : decode cX7_rain 24 = .ok (.invokestatic 56, 3) := by decide +kernel
theorem dX7_rain_27 : decode cX7_rain 27 = .ok (.ifCond .ne 7, 3) := by decide +kernel
theorem dX7_rain_30 : decode cX7_rain 30 = .ok (.ldc2_w 196, 3) := by decide +kernel
theorem dX7_rain_33 : decode cX7_rain 33 = .ok (.lreturn, 1) := by decide +kernel
theorem dX7_rain_34 : decode cX7_rain 34 = .ok (.lconst 0, 1) := by decide +kernel
theorem dX7_rain_35 : decode cX7_rain 35 = .ok (.lstore 4, 2) := by decide +kernel
theorem dX7_rain_37 : decode cX7_rain 37 = .ok (.lconst 0, 1) := by decide +kernel
theorem dX7_rain_38 : decode cX7_rain 38 = .ok (.lstore 6, 2) := by decide +kernel
theorem dX7_rain_40 : decode cX7_rain 40 = .ok (.aload_n 0, 1) := by decide +kernel
theorem dX7_rain_41 : decode cX7_rain 41 = .ok (.invokevirtual 181, 3) := by decide +kernel
theorem dX7_rain_44 : decode cX7_rain 44 = .ok (.iconst 0, 1) := by decide +kernel
theorem dX7_rain_45 : decode cX7_rain 45 = .ok (.istore 8, 2) := by decide +kernel
theorem dX7_rain_47 : decode cX7_rain 47 = .ok (.iload 8, 2) := by decide +kernel
theorem dX7_rain_49 : decode cX7_rain 49 = .ok (.sipush 1024, 3) := by decide +kernel
theorem dX7_rain_52 : decode cX7_rain 52 = .ok (.if_icmp .ge 139, 3) := by decide +kernel
theorem dX7_rain_55 : decode cX7_rain 55 = .ok (.lconst 1, 1) := by decide +kernel
theorem dX7_rain_56 : decode cX7_rain 56 = .ok (.lstore 9, 2) := by decide +kernel
theorem dX7_rain_58 : decode cX7_rain 58 = .ok (.iconst 0, 1) := by decide +kernel
theorem dX7_rain_59 : decode cX7_rain 59 = .ok (.istore 11, 2) := by decide +kernel
theorem dX7_rain_61 : decode cX7_rain 61 = .ok (.iload 11, 2) := by decide +kernel
theorem dX7_rain_63 : decode cX7_rain 63 = .ok (.bipush 10, 2) := by decide +kernel
theorem dX7_rain_65 : decode cX7_rain 65 = .ok (.if_icmp .ge 92, 3) := by decide +kernel
theorem dX7_rain_68 : decode cX7_rain 68 = .ok (.iload 8, 2) := by decide +kernel
theorem dX7_rain_70 : decode cX7_rain 70 = .ok (.iload 11, 2) := by decide +kernel
theorem dX7_rain_72 : decode cX7_rain 72 = .ok (.ishr, 1) := by decide +kernel
theorem dX7_rain_73 : decode cX7_rain 73 = .ok (.iconst 1, 1) := by decide +kernel
theorem dX7_rain_74 : decode cX7_rain 74 = .ok (.iand, 1) := by decide +kernel
theorem dX7_rain_75 : decode cX7_rain 75 = .ok (.iconst 1, 1) := by decide +kernel
theorem dX7_rain_76 : decode cX7_rain 76 = .ok (.if_icmp .ne 7, 3) := by decide +kernel
theorem dX7_rain_79 : decode cX7_rain 79 = .ok (.iconst 1, 1) := by decide +kernel
theorem dX7_rain_80 : decode cX7_rain 80 = .ok (.goto 4, 3) := by decide +kernel
theorem dX7_rain_83 : decode cX7_rain 83 = .ok (.iconst 0, 1) := by decide +kernel
theorem dX7_rain_84 : decode cX7_rain 84 = .ok (.istore 12, 2) := by decide +kernel
theorem dX7_rain_86 : decode cX7_rain 86 = .ok (.aload_n 0, 1) := by decide +kernel
theorem dX7_rain_87 : decode cX7_rain 87 = .ok (.getfield 7, 3) := by decide +kernel
theorem dX7_rain_90 : decode cX7_rain 90 = .ok (.iconst 3, 1) := by decide +kernel
theorem dX7_rain_91 : decode cX7_rain 91 = .ok (.iload 11, 2) := by decide +kernel
theorem dX7_rain_93 : decode cX7_rain 93 = .ok (.iadd, 1) := by decide +kernel
theorem dX7_rain_94 : decode cX7_rain 94 = .ok (.iaload, 1) := by decide +kernel
theorem dX7_rain_95 : decode cX7_rain 95 = .ok (.iload 12, 2) := by decide +kernel
theorem dX7_rain_97 : decode cX7_rain 97 = .ok (.ifCond .eq 7, 3) := by decide +kernel
theorem dX7_rain_100 : decode cX7_rain 100 = .ok (.iconst 2, 1) := by decide +kernel
theorem dX7_rain_101 : decode cX7_rain 101 = .ok (.goto 4, 3) := by decide +kernel
theorem dX7_rain_104 : decode cX7_rain 104 = .ok (.iconst 0, 1) := by decide +kernel
theorem dX7_rain_105 : decode cX7_rain 105 = .ok (.iadd, 1) := by decide +kernel
theorem dX7_rain_106 : decode cX7_rain 106 = .ok (.istore 13, 2) := by decide +kernel
theorem dX7_rain_108 : decode cX7_rain 108 = .ok (.lload 9, 2) := by decide +kernel
theorem dX7_rain_110 : decode cX7_rain 110 = .ok (.iload 12, 2) := by decide +kernel
theorem dX7_rain_112 : decode cX7_rain 112 = .ok (.ifCond .eq 8, 3) := by decide +kernel
theorem dX7_rain_115 : decode cX7_rain 115 = .ok (.iload_n 2, 1) := by decide +kernel
theorem dX7_rain_116 : decode cX7_rain 116 = .ok (.i2l, 1) := by decide +kernel
theorem dX7_rain_117 : decode cX7_rain 117 = .ok (.goto 8, 3) := by decide +kernel
theorem dX7_rain_120 : decode cX7_rain 120 = .ok (.bipush 10, 2) := by decide +kernel
theorem dX7_rain_122 : decode cX7_rain 122 = .ok (.iload_n 2, 1) := by decide +kernel
theorem dX7_rain_123 : decode cX7_rain 123 = .ok (.isub, 1) := by decide +kernel
theorem dX7_rain_124 : decode cX7_rain 124 = .ok (.i2l, 1) := by decide +kernel
theorem dX7_rain_125 : decode cX7_rain 125 = .ok (.lmul, 1) := by decide +kernel
theorem dX7_rain_126 : decode cX7_rain 126 = .ok (.lstore 9, 2) := by decide +kernel
theorem dX7_rain_128 : decode cX7_rain 128 = .ok (.aload_n 0, 1) := by decide +kernel
theorem dX7_rain_129 : decode cX7_rain 129 = .ok (.getfield 7, 3) := by decide +kernel
theorem dX7_rain_132 : decode cX7_rain 132 = .ok (.iconst 3, 1) := by decide +kernel
theorem dX7_rain_133 : decode cX7_rain 133 = .ok (.iload 11, 2) := by decide +kernel
theorem dX7_rain_135 : decode cX7_rain 135 = .ok (.iadd, 1) := by decide +kernel
theorem dX7_rain_136 : decode cX7_rain 136 = .ok (.iload 13, 2) := by decide +kernel
theorem dX7_rain_138 : decode cX7_rain 138 = .ok (.bipush 9, 2) := by decide +kernel
theorem dX7_rain_140 : decode cX7_rain 140 = .ok (.if_icmp .le 8, 3) := by decide +kernel
theorem dX7_rain_143 : decode cX7_rain 143 = .ok (.bipush 9, 2) := by decide +kernel
theorem dX7_rain_145 : decode cX7_rain 145 = .ok (.goto 5, 3) := by decide +kernel
theorem dX7_rain_148 : decode cX7_rain 148 = .ok (.iload 13, 2) := by decide +kernel
theorem dX7_rain_150 : decode cX7_rain 150 = .ok (.iastore, 1) := by decide +kernel
theorem dX7_rain_151 : decode cX7_rain 151 = .ok (.iinc 11 1, 3) := by decide +kernel
theorem dX7_rain_154 : decode cX7_rain 154 = .ok (.goto (-93), 3) := by decide +kernel
theorem dX7_rain_157 : decode cX7_rain 157 = .ok (.lload 6, 2) := by decide +kernel
theorem dX7_rain_159 : decode cX7_rain 159 = .ok (.lload 9, 2) := by decide +kernel
theorem dX7_rain_161 : decode cX7_rain 161 = .ok (.ladd, 1) := by decide +kernel
theorem dX7_rain_162 : decode cX7_rain 162 = .ok (.lstore 6, 2) := by decide +kernel
theorem dX7_rain_164 : decode cX7_rain 164 = .ok (.lload 4, 2) := by decide +kernel
theorem dX7_rain_166 : decode cX7_rain 166 = .ok (.aload_n 0, 1) := by decide +kernel
theorem dX7_rain_167 : decode cX7_rain 167 = .ok (.iload_n 1, 1) := by decide +kernel
theorem dX7_rain_168 : decode cX7_rain 168 = .ok (.invokevirtual 184, 3) := by decide +kernel
theorem dX7_rain_171 : decode cX7_rain 171 = .ok (.bipush 8, 2) := by decide +kernel
theorem dX7_rain_173 : decode cX7_rain 173 = .ok (.if_icmp .ge 8, 3) := by decide +kernel
theorem dX7_rain_176 : decode cX7_rain 176 = .ok (.lload 9, 2) := by decide +kernel
theorem dX7_rain_178 : decode cX7_rain 178 = .ok (.goto 4, 3) := by decide +kernel
theorem dX7_rain_181 : decode cX7_rain 181 = .ok (.lconst 0, 1) := by decide +kernel
theorem dX7_rain_182 : decode cX7_rain 182 = .ok (.ladd, 1) := by decide +kernel
theorem dX7_rain_183 : decode cX7_rain 183 = .ok (.lstore 4, 2) := by decide +kernel
theorem dX7_rain_185 : decode cX7_rain 185 = .ok (.iinc 8 1, 3) := by decide +kernel
theorem dX7_rain_188 : decode cX7_rain 188 = .ok (.goto (-141), 3) := by decide +kernel
theorem dX7_rain_191 : decode cX7_rain 191 = .ok (.lload 4, 2) := by decide +kernel
theorem dX7_rain_193 : decode cX7_rain 193 = .ok (.lstore 8, 2) := by decide +kernel
theorem dX7_rain_195 : decode cX7_rain 195 = .ok (.lload 6, 2) := by decide +kernel
theorem dX7_rain_197 : decode cX7_rain 197 = .ok (.lstore 10, 2) := by decide +kernel
theorem dX7_rain_199 : decode cX7_rain 199 = .ok (.lload 10, 2) := by decide +kernel
theorem dX7_rain_201 : decode cX7_rain 201 = .ok (.lconst 0, 1) := by decide +kernel
theorem dX7_rain_202 : decode cX7_rain 202 = .ok (.lcmp, 1) := by decide +kernel
theorem dX7_rain_203 : decode cX7_rain 203 = .ok (.ifCond .eq 21, 3) := by decide +kernel
theorem dX7_rain_206 : decode cX7_rain 206 = .ok (.lload 8, 2) := by decide +kernel
theorem dX7_rain_208 : decode cX7_rain 208 = .ok (.lload 10, 2) := by decide +kernel
theorem dX7_rain_210 : decode cX7_rain 210 = .ok (.lrem, 1) := by decide +kernel
theorem dX7_rain_211 : decode cX7_rain 211 = .ok (.lstore 12, 2) := by decide +kernel
theorem dX7_rain_213 : decode cX7_rain 213 = .ok (.lload 10, 2) := by decide +kernel
theorem dX7_rain_215 : decode cX7_rain 215 = .ok (.lstore 8, 2) := by decide +kernel
theorem dX7_rain_217 : decode cX7_rain 217 = .ok (.lload 12, 2) := by decide +kernel
theorem dX7_rain_219 : decode cX7_rain 219 = .ok (.lstore 10, 2) := by decide +kernel
theorem dX7_rain_221 : decode cX7_rain 221 = .ok (.goto (-22), 3) := by decide +kernel
theorem dX7_rain_224 : decode cX7_rain 224 = .ok (.iload_n 3, 1) := by decide +kernel
theorem dX7_rain_225 : decode cX7_rain 225 = .ok (.ifCond .ne 11, 3) := by decide +kernel
theorem dX7_rain_228 : decode cX7_rain 228 = .ok (.lload 4, 2) := by decide +kernel
theorem dX7_rain_230 : decode cX7_rain 230 = .ok (.lload 8, 2) := by decide +kernel
theorem dX7_rain_232 : decode cX7_rain 232 = .ok (.ldiv, 1) := by decide +kernel
theorem dX7_rain_233 : decode cX7_rain 233 = .ok (.goto 8, 3) := by decide +kernel
theorem dX7_rain_236 : decode cX7_rain 236 = .ok (.lload 6, 2) := by decide +kernel
theorem dX7_rain_238 : decode cX7_rain 238 = .ok (.lload 8, 2) := by decide +kernel
theorem dX7_rain_240 : decode cX7_rain 240 = .ok (.ldiv, 1) := by decide +kernel
theorem dX7_rain_241 : decode cX7_rain 241 = .ok (.lreturn, 1) := by decide +kernel
theorem dX7_image_0 : decode cX7_image 0 = .ok (.iconst 0, 1) := by decide +kernel
theorem dX7_image_1 : decode cX7_image 1 = .ok (.istore_n 1, 1) := by decide +kernel
theorem dX7_image_2 : decode cX7_image 2 = .ok (.iload_n 1, 1) := by decide +kernel
theorem dX7_image_3 : decode cX7_image 3 = .ok (.bipush 43, 2) := by decide +kernel
theorem dX7_image_5 : decode cX7_image 5 = .ok (.if_icmp .ge 21, 3) := by decide +kernel
theorem dX7_image_8 : decode cX7_image 8 = .ok (.aload_n 0, 1) := by decide +kernel
theorem dX7_image_9 : decode cX7_image 9 = .ok (.getfield 40, 3) := by decide +kernel
theorem dX7_image_12 : decode cX7_image 12 = .ok (.iload_n 1, 1) := by decide +kernel
theorem dX7_image_13 : decode cX7_image 13 = .ok (.aload_n 0, 1) := by decide +kernel
theorem dX7_image_14 : decode cX7_image 14 = .ok (.getfield 7, 3) := by decide +kernel
theorem dX7_image_17 : decode cX7_image 17 = .ok (.iload_n 1, 1) := by decide +kernel
theorem dX7_image_18 : decode cX7_image 18 = .ok (.iaload, 1) := by decide +kernel
theorem dX7_image_19 : decode cX7_image 19 = .ok (.iastore, 1) := by decide +kernel
theorem dX7_image_20 : decode cX7_image 20 = .ok (.iinc 1 1, 3) := by decide +kernel
theorem dX7_image_23 : decode cX7_image 23 = .ok (.goto (-21), 3) := by decide +kernel
theorem dX7_image_26 : decode cX7_image 26 = .ok (.iconst 0, 1) := by decide +kernel
theorem dX7_image_27 : decode cX7_image 27 = .ok (.istore_n 1, 1) := by decide +kernel
theorem dX7_image_28 : decode cX7_image 28 = .ok (.iload_n 1, 1) := by decide +kernel
theorem dX7_image_29 : decode cX7_image 29 = .ok (.sipush 344, 3) := by decide +kernel
theorem dX7_image_32 : decode cX7_image 32 = .ok (.if_icmp .ge 24, 3) := by decide +kernel
theorem dX7_image_35 : decode cX7_image 35 = .ok (.aload_n 0, 1) := by decide +kernel
theorem dX7_image_36 : decode cX7_image 36 = .ok (.getfield 40, 3) := by decide +kernel
theorem dX7_image_39 : decode cX7_image 39 = .ok (.bipush 43, 2) := by decide +kernel
theorem dX7_image_41 : decode cX7_image 41 = .ok (.iload_n 1, 1) := by decide +kernel
theorem dX7_image_42 : decode cX7_image 42 = .ok (.iadd, 1) := by decide +kernel
theorem dX7_image_43 : decode cX7_image 43 = .ok (.aload_n 0, 1) := by decide +kernel
theorem dX7_image_44 : decode cX7_image 44 = .ok (.getfield 25, 3) := by decide +kernel
theorem dX7_image_47 : decode cX7_image 47 = .ok (.iload_n 1, 1) := by decide +kernel
theorem dX7_image_48 : decode cX7_image 48 = .ok (.iaload, 1) := by decide +kernel
theorem dX7_image_49 : decode cX7_image 49 = .ok (.iastore, 1) := by decide +kernel
theorem dX7_image_50 : decode cX7_image 50 = .ok (.iinc 1 1, 3) := by decide +kernel
theorem dX7_image_53 : decode cX7_image 53 = .ok (.goto (-25), 3) := by decide +kernel
theorem dX7_image_56 : decode cX7_image 56 = .ok (.aload_n 0, 1) := by decide +kernel
theorem dX7_image_57 : decode cX7_image 57 = .ok (.aload_n 0, 1) := by decide +kernel
theorem dX7_image_58 : decode cX7_image 58 = .ok (.getfield 81, 3) := by decide +kernel
theorem dX7_image_61 : decode cX7_image 61 = .ok (.putfield 198, 3) := by decide +kernel
theorem dX7_image_64 : decode cX7_image 64 = .ok (.aload_n 0, 1) := by decide +kernel
theorem dX7_image_65 : decode cX7_image 65 = .ok (.iconst 1, 1) := by decide +kernel
theorem dX7_image_66 : decode cX7_image 66 = .ok (.putfield 201, 3) := by decide +kernel
theorem dX7_image_69 : decode cX7_image 69 = .ok (.iconst 1, 1) := by decide +kernel
theorem dX7_image_70 : decode cX7_image 70 = .ok (.ireturn, 1) := by decide +kernel
theorem dX7_restore_0 : decode cX7_restore 0 = .ok (.aload_n 0, 1) := by decide +kernel
theorem dX7_restore_1 : decode cX7_restore 1 = .ok (.getfield 201, 3) := by decide +kernel
theorem dX7_restore_4 : decode cX7_restore 4 = .ok (.ifCond .ne 6, 3) := by decide +kernel
theorem dX7_restore_7 : decode cX7_restore 7 = .ok (.bipush (-4), 2) := by decide +kernel
theorem dX7_restore_9 : decode cX7_restore 9 = .ok (.ireturn, 1) := by decide +kernel
theorem dX7_restore_10 : decode cX7_restore 10 = .ok (.iconst 0, 1) := by decide +kernel
theorem dX7_restore_11 : decode cX7_restore 11 = .ok (.istore_n 1, 1) := by decide +kernel
theorem dX7_restore_12 : decode cX7_restore 12 = .ok (.iload_n 1, 1) := by decide +kernel
theorem dX7_restore_13 : decode cX7_restore 13 = .ok (.bipush 43, 2) := by decide +kernel
theorem dX7_restore_15 : decode cX7_restore 15 = .ok (.if_icmp .ge 21, 3) := by decide +kernel
theorem dX7_restore_18 : decode cX7_restore 18 = .ok (.aload_n 0, 1) := by decide +kernel
theorem dX7_restore_19 : decode cX7_restore 19 = .ok (.getfield 7, 3) := by decide +kernel
theorem dX7_restore_22 : decode cX7_restore 22 = .ok (.iload_n 1, 1) := by decide +kernel
theorem dX7_restore_23 : decode cX7_restore 23 = .ok (.aload_n 0, 1) := by decide +kernel
theorem dX7_restore_24 : decode cX7_restore 24 = .ok (.getfield 40, 3) := by decide +kernel
theorem dX7_restore_27 : decode cX7_restore 27 = .ok (.iload_n 1, 1) := by decide +kernel
theorem dX7_restore_28 : decode cX7_restore 28 = .ok (.iaload, 1) := by decide +kernel
theorem dX7_restore_29 : decode cX7_restore 29 = .ok (.iastore, 1) := by decide +kernel
theorem dX7_restore_30 : decode cX7_restore 30 = .ok (.iinc 1 1, 3) := by decide +kernel
theorem dX7_restore_33 : decode cX7_restore 33 = .ok (.goto (-21), 3) := by decide +kernel
theorem dX7_restore_36 : decode cX7_restore 36 = .ok (.iconst 0, 1) := by decide +kernel
theorem dX7_restore_37 : decode cX7_restore 37 = .ok (.istore_n 1, 1) := by decide +kernel
theorem dX7_restore_38 : decode cX7_restore 38 = .ok (.iload_n 1, 1) := by decide +kernel
theorem dX7_restore_39 : decode cX7_restore 39 = .ok (.sipush 344, 3) := by decide +kernel
theorem dX7_restore_42 : decode cX7_restore 42 = .ok (.if_icmp .ge 24, 3) := by decide +kernel
theorem dX7_restore_45 : decode cX7_restore 45 = .ok (.aload_n 0, 1) := by decide +kernel
theorem dX7_restore_46 : decode cX7_restore 46 = .ok (.getfield 25, 3) := by decide +kernel
theorem dX7_restore_49 : decode cX7_restore 49 = .ok (.iload_n 1, 1) := by decide +kernel
theorem dX7_restore_50 : decode cX7_restore 50 = .ok (.aload_n 0, 1) := by decide +kernel
theorem dX7_restore_51 : decode cX7_restore 51 = .ok (.getfield 40, 3) := by decide +kernel
theorem dX7_restore_54 : decode cX7_restore 54 = .ok (.bipush 43, 2) := by decide +kernel
theorem dX7_restore_56 : decode cX7_restore 56 = .ok (.iload_n 1, 1) := by decide +kernel
theorem dX7_restore_57 : decode cX7_restore 57 = .ok (.iadd, 1) := by decide +kernel
theorem dX7_restore_58 : decode cX7_restore 58 = .ok (.iaload, 1) := by decide +kernel
theorem dX7_restore_59 : decode cX7_restore 59 = .ok (.iastore, 1) := by decide +kernel
theorem dX7_restore_60 : decode cX7_restore 60 = .ok (.iinc 1 1, 3) := by decide +kernel
theorem dX7_restore_63 : decode cX7_restore 63 = .ok (.goto (-25), 3) := by decide +kernel
theorem dX7_restore_66 : decode cX7_restore 66 = .ok (.aload_n 0, 1) := by decide +kernel
theorem dX7_restore_67 : decode cX7_restore 67 = .ok (.aload_n 0, 1) := by decide +kernel
theorem dX7_restore_68 : decode cX7_restore 68 = .ok (.getfield 198, 3) := by decide +kernel
theorem dX7_restore_71 : decode cX7_restore 71 = .ok (.putfield 81, 3) := by decide +kernel
theorem dX7_restore_74 : decode cX7_restore 74 = .ok (.iconst 1, 1) := by decide +kernel
theorem dX7_restore_75 : decode cX7_restore 75 = .ok (.ireturn, 1) := by decide +kernel
theorem dX7_isSheet_0 : decode cX7_isSheet 0 = .ok (.iload_n 0, 1) := by decide +kernel
theorem dX7_isSheet_1 : decode cX7_isSheet 1 = .ok (.i2l, 1) := by decide +kernel
theorem dX7_isSheet_2 : decode cX7_isSheet 2 = .ok (.lconst 0, 1) := by decide +kernel
theorem dX7_isSheet_3 : decode cX7_isSheet 3 = .ok (.ldc2_w 98, 3) := by decide +kernel
theorem dX7_isSheet_6 : decode cX7_isSheet 6 = .ok (.invokestatic 56, 3) := by decide +kernel
theorem dX7_isSheet_9 : decode cX7_isSheet 9 = .ok (.ireturn, 1) := by decide +kernel
theorem dX7_isLane_0 : decode cX7_isLane 0 = .ok (.iload_n 0, 1) := by decide +kernel
theorem dX7_isLane_1 : decode cX7_isLane 1 = .ok (.i2l, 1) := by decide +kernel
theorem dX7_isLane_2 : decode cX7_isLane 2 = .ok (.lconst 0, 1) := by decide +kernel
theorem dX7_isLane_3 : decode cX7_isLane 3 = .ok (.ldc2_w 98, 3) := by decide +kernel
theorem dX7_isLane_6 : decode cX7_isLane 6 = .ok (.invokestatic 56, 3) := by decide +kernel
theorem dX7_isLane_9 : decode cX7_isLane 9 = .ok (.ireturn, 1) := by decide +kernel
theorem dX7_why_0 : decode cX7_why 0 = .ok (.aload_n 0, 1) := by decide +kernel
theorem dX7_why_1 : decode cX7_why 1 = .ok (.getfield 43, 3) := by decide +kernel
theorem dX7_why_4 : decode cX7_why 4 = .ok (.iload_n 1, 1) := by decide +kernel
theorem dX7_why_5 : decode cX7_why 5 = .ok (.iaload, 1) := by decide +kernel
theorem dX7_why_6 : decode cX7_why 6 = .ok (.ifCond .ge 6, 3) := by decide +kernel
theorem dX7_why_9 : decode cX7_why 9 = .ok (.bipush (-11), 2) := by decide +kernel
theorem dX7_why_11 : decode cX7_why 11 = .ok (.ireturn, 1) := by decide +kernel
theorem dX7_why_12 : decode cX7_why 12 = .ok (.aload_n 0, 1) := by decide +kernel
theorem dX7_why_13 : decode cX7_why 13 = .ok (.getfield 43, 3) := by decide +kernel
theorem dX7_why_16 : decode cX7_why 16 = .ok (.iload_n 1, 1) := by decide +kernel
theorem dX7_why_17 : decode cX7_why 17 = .ok (.iaload, 1) := by decide +kernel
theorem dX7_why_18 : decode cX7_why 18 = .ok (.iload_n 2, 1) := by decide +kernel
theorem dX7_why_19 : decode cX7_why 19 = .ok (.if_icmp .eq 6, 3) := by decide +kernel
theorem dX7_why_22 : decode cX7_why 22 = .ok (.bipush (-12), 2) := by decide +kernel
theorem dX7_why_24 : decode cX7_why 24 = .ok (.ireturn, 1) := by decide +kernel
theorem dX7_why_25 : decode cX7_why 25 = .ok (.iload_n 3, 1) := by decide +kernel
theorem dX7_why_26 : decode cX7_why 26 = .ok (.ifCond .lt 25, 3) := by decide +kernel
theorem dX7_why_29 : decode cX7_why 29 = .ok (.iload 4, 2) := by decide +kernel
theorem dX7_why_31 : decode cX7_why 31 = .ok (.ifCond .lt 20, 3) := by decide +kernel
theorem dX7_why_34 : decode cX7_why 34 = .ok (.iload_n 3, 1) := by decide +kernel
theorem dX7_why_35 : decode cX7_why 35 = .ok (.i2l, 1) := by decide +kernel
theorem dX7_why_36 : decode cX7_why 36 = .ok (.iload 4, 2) := by decide +kernel
theorem dX7_why_38 : decode cX7_why 38 = .ok (.i2l, 1) := by decide +kernel
theorem dX7_why_39 : decode cX7_why 39 = .ok (.ladd, 1) := by decide +kernel
theorem dX7_why_40 : decode cX7_why 40 = .ok (.aload_n 0, 1) := by decide +kernel
theorem dX7_why_41 : decode cX7_why 41 = .ok (.getfield 46, 3) := by decide +kernel
theorem dX7_why_44 : decode cX7_why 44 = .ok (.iload_n 1, 1) := by decide +kernel
theorem dX7_why_45 : decode cX7_why 45 = .ok (.iaload, 1) := by decide +kernel
theorem dX7_why_46 : decode cX7_why 46 = .ok (.i2l, 1) := by decide +kernel
theorem dX7_why_47 : decode cX7_why 47 = .ok (.lcmp, 1) := by decide +kernel
theorem dX7_why_48 : decode cX7_why 48 = .ok (.ifCond .le 8, 3) := by decide +kernel
theorem dX7_why_51 : decode cX7_why 51 = .ok (.bipush (-13), 2) := by decide +kernel
theorem dX7_why_53 : decode cX7_why 53 = .ok (.goto 4, 3) := by decide +kernel
theorem dX7_why_56 : decode cX7_why 56 = .ok (.iconst 0, 1) := by decide +kernel
theorem dX7_why_57 : decode cX7_why 57 = .ok (.ireturn, 1) := by decide +kernel
theorem dX7_isSo_0 : decode cX7_isSo 0 = .ok (.iconst 1, 1) := by decide +kernel
theorem dX7_isSo_1 : decode cX7_isSo 1 = .ok (.istore 5, 2) := by decide +kernel
theorem dX7_isSo_3 : decode cX7_isSo 3 = .ok (.aload_n 0, 1) := by decide +kernel
theorem dX7_isSo_4 : decode cX7_isSo 4 = .ok (.iload_n 1, 1) := by decide +kernel
theorem dX7_isSo_5 : decode cX7_isSo 5 = .ok (.invokevirtual 184, 3) := by decide +kernel
theorem dX7_isSo_8 : decode cX7_isSo 8 = .ok (.pop, 1) := by decide +kernel
theorem dX7_isSo_9 : decode cX7_isSo 9 = .ok (.iconst 0, 1) := by decide +kernel
theorem dX7_isSo_10 : decode cX7_isSo 10 = .ok (.istore 6, 2) := by decide +kernel
theorem dX7_isSo_12 : decode cX7_isSo 12 = .ok (.iload 6, 2) := by decide +kernel
theorem dX7_isSo_14 : decode cX7_isSo 14 = .ok (.iload 4, 2) := by decide +kernel
theorem dX7_isSo_16 : decode cX7_isSo 16 = .ok (.if_icmp .ge 44, 3) := by decide +kernel
theorem dX7_isSo_19 : decode cX7_isSo 19 = .ok (.iload 5, 2) := by decide +kernel
theorem dX7_isSo_21 : decode cX7_isSo 21 = .ok (.ifCond .eq 30, 3) := by decide +kernel
theorem dX7_isSo_24 : decode cX7_isSo 24 = .ok (.aload_n 0, 1) := by decide +kernel
theorem dX7_isSo_25 : decode cX7_isSo 25 = .ok (.getfield 13, 3) := by decide +kernel
theorem dX7_isSo_28 : decode cX7_isSo 28 = .ok (.iload_n 2, 1) := by decide +kernel
theorem dX7_isSo_29 : decode cX7_isSo 29 = .ok (.iload 6, 2) := by decide +kernel
theorem dX7_isSo_31 : decode cX7_isSo 31 = .ok (.iadd, 1) := by decide +kernel
theorem dX7_isSo_32 : decode cX7_isSo 32 = .ok (.iaload, 1) := by decide +kernel
theorem dX7_isSo_33 : decode cX7_isSo 33 = .ok (.i2l, 1) := by decide +kernel
theorem dX7_isSo_34 : decode cX7_isSo 34 = .ok (.aload_n 0, 1) := by decide +kernel
theorem dX7_isSo_35 : decode cX7_isSo 35 = .ok (.getfield 49, 3) := by decide +kernel
theorem dX7_isSo_38 : decode cX7_isSo 38 = .ok (.iload_n 3, 1) := by decide +kernel
theorem dX7_isSo_39 : decode cX7_isSo 39 = .ok (.iload 6, 2) := by decide +kernel
theorem dX7_isSo_41 : decode cX7_isSo 41 = .ok (.iadd, 1) := by decide +kernel
theorem dX7_isSo_42 : decode cX7_isSo 42 = .ok (.laload, 1) := by decide +kernel
theorem dX7_isSo_43 : decode cX7_isSo 43 = .ok (.lcmp, 1) := by decide +kernel
theorem dX7_isSo_44 : decode cX7_isSo 44 = .ok (.ifCond .ne 7, 3) := by decide +kernel
theorem dX7_isSo_47 : decode cX7_isSo 47 = .ok (.iconst 1, 1) := by decide +kernel
theorem dX7_isSo_48 : decode cX7_isSo 48 = .ok (.goto 4, 3) := by decide +kernel
theorem dX7_isSo_51 : decode cX7_isSo 51 = .ok (.iconst 0, 1) := by decide +kernel
theorem dX7_isSo_52 : decode cX7_isSo 52 = .ok (.istore 5, 2) := by decide +kernel
theorem dX7_isSo_54 : decode cX7_isSo 54 = .ok (.iinc 6 1, 3) := by decide +kernel
theorem dX7_isSo_57 : decode cX7_isSo 57 = .ok (.goto (-45), 3) := by decide +kernel
theorem dX7_isSo_60 : decode cX7_isSo 60 = .ok (.iload 5, 2) := by decide +kernel
theorem dX7_isSo_62 : decode cX7_isSo 62 = .ok (.ireturn, 1) := by decide +kernel
theorem dX7_clocked_0 : decode cX7_clocked 0 = .ok (.aload_n 0, 1) := by decide +kernel
theorem dX7_clocked_1 : decode cX7_clocked 1 = .ok (.iload_n 1, 1) := by decide +kernel
theorem dX7_clocked_2 : decode cX7_clocked 2 = .ok (.invokevirtual 94, 3) := by decide +kernel
theorem dX7_clocked_5 : decode cX7_clocked 5 = .ok (.ifCond .eq 51, 3) := by decide +kernel
theorem dX7_clocked_8 : decode cX7_clocked 8 = .ok (.iload_n 2, 1) := by decide +kernel
theorem dX7_clocked_9 : decode cX7_clocked 9 = .ok (.invokestatic 100, 3) := by decide +kernel
theorem dX7_clocked_12 : decode cX7_clocked 12 = .ok (.ifCond .eq 44, 3) := by decide +kernel
theorem dX7_clocked_15 : decode cX7_clocked 15 = .ok (.iload_n 3, 1) := by decide +kernel
theorem dX7_clocked_16 : decode cX7_clocked 16 = .ok (.invokestatic 204, 3) := by decide +kernel
theorem dX7_clocked_19 : decode cX7_clocked 19 = .ok (.ifCond .eq 37, 3) := by decide +kernel
theorem dX7_clocked_22 : decode cX7_clocked 22 = .ok (.iload 4, 2) := by decide +kernel
theorem dX7_clocked_24 : decode cX7_clocked 24 = .ok (.invokestatic 207, 3) := by decide +kernel
theorem dX7_clocked_27 : decode cX7_clocked 27 = .ok (.ifCond .eq 29, 3) := by decide +kernel
theorem dX7_clocked_30 : decode cX7_clocked 30 = .ok (.iload 6, 2) := by decide +kernel
theorem dX7_clocked_32 : decode cX7_clocked 32 = .ok (.i2l, 1) := by decide +kernel
theorem dX7_clocked_33 : decode cX7_clocked 33 = .ok (.lconst 1, 1) := by decide +kernel
theorem dX7_clocked_34 : decode cX7_clocked 34 = .ok (.bipush 10, 2) := by decide +kernel
theorem dX7_clocked_36 : decode cX7_clocked 36 = .ok (.iload_n 2, 1) := by decide +kernel
theorem dX7_clocked_37 : decode cX7_clocked 37 = .ok (.isub, 1) := by decide +kernel
theorem dX7_clocked_38 : decode cX7_clocked 38 = .ok (.i2l, 1) := by decide +kernel
theorem dX7_clocked_39 : decode cX7_clocked 39 = .ok (.invokestatic 56, 3) := by decide +kernel
theorem dX7_clocked_42 : decode cX7_clocked 42 = .ok (.ifCond .eq 14, 3) := by decide +kernel
theorem dX7_clocked_45 : decode cX7_clocked 45 = .ok (.iload 7, 2) := by decide +kernel
theorem dX7_clocked_47 : decode cX7_clocked 47 = .ok (.i2l, 1) := by decide +kernel
theorem dX7_clocked_48 : decode cX7_clocked 48 = .ok (.lconst 0, 1) := by decide +kernel
theorem dX7_clocked_49 : decode cX7_clocked 49 = .ok (.lconst 1, 1) := by decide +kernel
theorem dX7_clocked_50 : decode cX7_clocked 50 = .ok (.invokestatic 56, 3) := by decide +kernel
theorem dX7_clocked_53 : decode cX7_clocked 53 = .ok (.ifCond .ne 5, 3) := by decide +kernel
theorem dX7_clocked_56 : decode cX7_clocked 56 = .ok (.iconst (-1), 1) := by decide +kernel
theorem dX7_clocked_57 : decode cX7_clocked 57 = .ok (.ireturn, 1) := by decide +kernel
theorem dX7_clocked_58 : decode cX7_clocked 58 = .ok (.aload_n 0, 1) := by decide +kernel
theorem dX7_clocked_59 : decode cX7_clocked 59 = .ok (.iload_n 3, 1) := by decide +kernel
theorem dX7_clocked_60 : decode cX7_clocked 60 = .ok (.iload 4, 2) := by decide +kernel
theorem dX7_clocked_62 : decode cX7_clocked 62 = .ok (.iload 5, 2) := by decide +kernel
theorem dX7_clocked_64 : decode cX7_clocked 64 = .ok (.iload 6, 2) := by decide +kernel
theorem dX7_clocked_66 : decode cX7_clocked 66 = .ok (.invokevirtual 210, 3) := by decide +kernel
theorem dX7_clocked_69 : decode cX7_clocked 69 = .ok (.istore 8, 2) := by decide +kernel
theorem dX7_clocked_71 : decode cX7_clocked 71 = .ok (.iload 8, 2) := by decide +kernel
theorem dX7_clocked_73 : decode cX7_clocked 73 = .ok (.ifCond .ge 6, 3) := by decide +kernel
theorem dX7_clocked_76 : decode cX7_clocked 76 = .ok (.iload 8, 2) := by decide +kernel
theorem dX7_clocked_78 : decode cX7_clocked 78 = .ok (.ireturn, 1) := by decide +kernel
theorem dX7_clocked_79 : decode cX7_clocked 79 = .ok (.iconst 0, 1) := by decide +kernel
theorem dX7_clocked_80 : decode cX7_clocked 80 = .ok (.istore 9, 2) := by decide +kernel
theorem dX7_clocked_82 : decode cX7_clocked 82 = .ok (.aload_n 0, 1) := by decide +kernel
theorem dX7_clocked_83 : decode cX7_clocked 83 = .ok (.invokevirtual 181, 3) := by decide +kernel
theorem dX7_clocked_86 : decode cX7_clocked 86 = .ok (.iload 7, 2) := by decide +kernel
theorem dX7_clocked_88 : decode cX7_clocked 88 = .ok (.istore 10, 2) := by decide +kernel
theorem dX7_clocked_90 : decode cX7_clocked 90 = .ok (.iload 10, 2) := by decide +kernel
theorem dX7_clocked_92 : decode cX7_clocked 92 = .ok (.iload 7, 2) := by decide +kernel
theorem dX7_clocked_94 : decode cX7_clocked 94 = .ok (.ifCond .ne 7, 3) := by decide +kernel
theorem dX7_clocked_97 : decode cX7_clocked 97 = .ok (.iconst 5, 1) := by decide +kernel
theorem dX7_clocked_98 : decode cX7_clocked 98 = .ok (.goto 5, 3) := by decide +kernel
theorem dX7_clocked_101 : decode cX7_clocked 101 = .ok (.bipush 21, 2) := by decide +kernel
theorem dX7_clocked_103 : decode cX7_clocked 103 = .ok (.if_icmp .ge 49, 3) := by decide +kernel
theorem dX7_clocked_106 : decode cX7_clocked 106 = .ok (.aload_n 0, 1) := by decide +kernel
theorem dX7_clocked_107 : decode cX7_clocked 107 = .ok (.iload_n 1, 1) := by decide +kernel
theorem dX7_clocked_108 : decode cX7_clocked 108 = .ok (.iload 7, 2) := by decide +kernel
theorem dX7_clocked_110 : decode cX7_clocked 110 = .ok (.iload 10, 2) := by decide +kernel
theorem dX7_clocked_112 : decode cX7_clocked 112 = .ok (.invokevirtual 70, 3) := by decide +kernel
theorem dX7_clocked_115 : decode cX7_clocked 115 = .ok (.iload 9, 2) := by decide +kernel
theorem dX7_clocked_117 : decode cX7_clocked 117 = .ok (.aload_n 0, 1) := by decide +kernel
theorem dX7_clocked_118 : decode cX7_clocked 118 = .ok (.iload_n 1, 1) := by decide +kernel
theorem dX7_clocked_119 : decode cX7_clocked 119 = .ok (.iload_n 2, 1) := by decide +kernel
theorem dX7_clocked_120 : decode cX7_clocked 120 = .ok (.bipush 24, 2) := by decide +kernel
theorem dX7_clocked_122 : decode cX7_clocked 122 = .ok (.iload_n 3, 1) := by decide +kernel
theorem dX7_clocked_123 : decode cX7_clocked 123 = .ok (.imul, 1) := by decide +kernel
theorem dX7_clocked_124 : decode cX7_clocked 124 = .ok (.iload 5, 2) := by decide +kernel
theorem dX7_clocked_126 : decode cX7_clocked 126 = .ok (.iadd, 1) := by decide +kernel
theorem dX7_clocked_127 : decode cX7_clocked 127 = .ok (.iload 6, 2) := by decide +kernel
theorem dX7_clocked_129 : decode cX7_clocked 129 = .ok (.invokevirtual 214, 3) := by decide +kernel
theorem dX7_clocked_132 : decode cX7_clocked 132 = .ok (.ifCond .eq 10, 3) := by decide +kernel
theorem dX7_clocked_135 : decode cX7_clocked 135 = .ok (.iconst 1, 1) := by decide +kernel
theorem dX7_clocked_136 : decode cX7_clocked 136 = .ok (.iload 10, 2) := by decide +kernel
theorem dX7_clocked_138 : decode cX7_clocked 138 = .ok (.ishl, 1) := by decide +kernel
theorem dX7_clocked_139 : decode cX7_clocked 139 = .ok (.goto 4, 3) := by decide +kernel
theorem dX7_clocked_142 : decode cX7_clocked 142 = .ok (.iconst 0, 1) := by decide +kernel
theorem dX7_clocked_143 : decode cX7_clocked 143 = .ok (.ior, 1) := by decide +kernel
theorem dX7_clocked_144 : decode cX7_clocked 144 = .ok (.istore 9, 2) := by decide +kernel
theorem dX7_clocked_146 : decode cX7_clocked 146 = .ok (.iinc 10 1, 3) := by decide +kernel
theorem dX7_clocked_149 : decode cX7_clocked 149 = .ok (.goto (-59), 3) := by decide +kernel
theorem dX7_clocked_152 : decode cX7_clocked 152 = .ok (.iload 9, 2) := by decide +kernel
theorem dX7_clocked_154 : decode cX7_clocked 154 = .ok (.ireturn, 1) := by decide +kernel
theorem dX7_film_0 : decode cX7_film 0 = .ok (.aload_n 0, 1) := by decide +kernel
theorem dX7_film_1 : decode cX7_film 1 = .ok (.iload_n 1, 1) := by decide +kernel
theorem dX7_film_2 : decode cX7_film 2 = .ok (.invokevirtual 94, 3) := by decide +kernel
theorem dX7_film_5 : decode cX7_film 5 = .ok (.ifCond .eq 30, 3) := by decide +kernel
theorem dX7_film_8 : decode cX7_film 8 = .ok (.iload_n 2, 1) := by decide +kernel
theorem dX7_film_9 : decode cX7_film 9 = .ok (.i2l, 1) := by decide +kernel
theorem dX7_film_10 : decode cX7_film 10 = .ok (.lconst 1, 1) := by decide +kernel
theorem dX7_film_11 : decode cX7_film 11 = .ok (.ldc2_w 194, 3) := by decide +kernel
theorem dX7_film_14 : decode cX7_film 14 = .ok (.invokestatic 56, 3) := by decide +kernel
theorem dX7_film_17 : decode cX7_film 17 = .ok (.ifCond .eq 18, 3) := by decide +kernel
theorem dX7_film_20 : decode cX7_film 20 = .ok (.iload_n 3, 1) := by decide +kernel
theorem dX7_film_21 : decode cX7_film 21 = .ok (.invokestatic 204, 3) := by decide +kernel
theorem dX7_film_24 : decode cX7_film 24 = .ok (.ifCond .eq 11, 3) := by decide +kernel
theorem dX7_film_27 : decode cX7_film 27 = .ok (.iload 4, 2) := by decide +kernel
theorem dX7_film_29 : decode cX7_film 29 = .ok (.invokestatic 207, 3) := by decide +kernel
theorem dX7_film_32 : decode cX7_film 32 = .ok (.ifCond .ne 5, 3) := by decide +kernel
theorem dX7_film_35 : decode cX7_film 35 = .ok (.iconst (-1), 1) := by decide +kernel
theorem dX7_film_36 : decode cX7_film 36 = .ok (.ireturn, 1) := by decide +kernel
theorem dX7_film_37 : decode cX7_film 37 = .ok (.aload_n 0, 1) := by decide +kernel
theorem dX7_film_38 : decode cX7_film 38 = .ok (.iload_n 3, 1) := by decide +kernel
theorem dX7_film_39 : decode cX7_film 39 = .ok (.iload 4, 2) := by decide +kernel
theorem dX7_film_41 : decode cX7_film 41 = .ok (.iload 5, 2) := by decide +kernel
theorem dX7_film_43 : decode cX7_film 43 = .ok (.iload_n 2, 1) := by decide +kernel
theorem dX7_film_44 : decode cX7_film 44 = .ok (.invokevirtual 210, 3) := by decide +kernel
theorem dX7_film_47 : decode cX7_film 47 = .ok (.istore 6, 2) := by decide +kernel
theorem dX7_film_49 : decode cX7_film 49 = .ok (.iload 6, 2) := by decide +kernel
theorem dX7_film_51 : decode cX7_film 51 = .ok (.ifCond .ge 6, 3) := by decide +kernel
theorem dX7_film_54 : decode cX7_film 54 = .ok (.iload 6, 2) := by decide +kernel
theorem dX7_film_56 : decode cX7_film 56 = .ok (.ireturn, 1) := by decide +kernel
theorem dX7_film_57 : decode cX7_film 57 = .ok (.aload_n 0, 1) := by decide +kernel
theorem dX7_film_58 : decode cX7_film 58 = .ok (.invokevirtual 181, 3) := by decide +kernel
theorem dX7_film_61 : decode cX7_film 61 = .ok (.aload_n 0, 1) := by decide +kernel
theorem dX7_film_62 : decode cX7_film 62 = .ok (.iload_n 1, 1) := by decide +kernel
theorem dX7_film_63 : decode cX7_film 63 = .ok (.invokevirtual 184, 3) := by decide +kernel
theorem dX7_film_66 : decode cX7_film 66 = .ok (.pop, 1) := by decide +kernel
theorem dX7_film_67 : decode cX7_film 67 = .ok (.iconst 0, 1) := by decide +kernel
theorem dX7_film_68 : decode cX7_film 68 = .ok (.istore 7, 2) := by decide +kernel
theorem dX7_film_70 : decode cX7_film 70 = .ok (.iload 7, 2) := by decide +kernel
theorem dX7_film_72 : decode cX7_film 72 = .ok (.iload_n 2, 1) := by decide +kernel
theorem dX7_film_73 : decode cX7_film 73 = .ok (.if_icmp .ge 32, 3) := by decide +kernel
theorem dX7_film_76 : decode cX7_film 76 = .ok (.aload_n 0, 1) := by decide +kernel
theorem dX7_film_77 : decode cX7_film 77 = .ok (.getfield 49, 3) := by decide +kernel
theorem dX7_film_80 : decode cX7_film 80 = .ok (.bipush 24, 2) := by decide +kernel
theorem dX7_film_82 : decode cX7_film 82 = .ok (.iload_n 3, 1) := by decide +kernel
theorem dX7_film_83 : decode cX7_film 83 = .ok (.imul, 1) := by decide +kernel
theorem dX7_film_84 : decode cX7_film 84 = .ok (.iload 5, 2) := by decide +kernel
theorem dX7_film_86 : decode cX7_film 86 = .ok (.iadd, 1) := by decide +kernel
theorem dX7_film_87 : decode cX7_film 87 = .ok (.iload 7, 2) := by decide +kernel
theorem dX7_film_89 : decode cX7_film 89 = .ok (.iadd, 1) := by decide +kernel
theorem dX7_film_90 : decode cX7_film 90 = .ok (.aload_n 0, 1) := by decide +kernel
theorem dX7_film_91 : decode cX7_film 91 = .ok (.getfield 13, 3) := by decide +kernel
theorem dX7_film_94 : decode cX7_film 94 = .ok (.iload 7, 2) := by decide +kernel
theorem dX7_film_96 : decode cX7_film 96 = .ok (.iaload, 1) := by decide +kernel
theorem dX7_film_97 : decode cX7_film 97 = .ok (.i2l, 1) := by decide +kernel
theorem dX7_film_98 : decode cX7_film 98 = .ok (.lastore, 1) := by decide +kernel
theorem dX7_film_99 : decode cX7_film 99 = .ok (.iinc 7 1, 3) := by decide +kernel
theorem dX7_film_102 : decode cX7_film 102 = .ok (.goto (-32), 3) := by decide +kernel
theorem dX7_film_105 : decode cX7_film 105 = .ok (.iload_n 2, 1) := by decide +kernel
theorem dX7_film_106 : decode cX7_film 106 = .ok (.ireturn, 1) := by decide +kernel
theorem dX7_sheet_0 : decode cX7_sheet 0 = .ok (.iload_n 1, 1) := by decide +kernel
theorem dX7_sheet_1 : decode cX7_sheet 1 = .ok (.invokestatic 204, 3) := by decide +kernel
theorem dX7_sheet_4 : decode cX7_sheet 4 = .ok (.ifCond .eq 16, 3) := by decide +kernel
theorem dX7_sheet_7 : decode cX7_sheet 7 = .ok (.iload_n 2, 1) := by decide +kernel
theorem dX7_sheet_8 : decode cX7_sheet 8 = .ok (.invokestatic 207, 3) := by decide +kernel
theorem dX7_sheet_11 : decode cX7_sheet 11 = .ok (.ifCond .eq 9, 3) := by decide +kernel
theorem dX7_sheet_14 : decode cX7_sheet 14 = .ok (.iload_n 3, 1) := by decide +kernel
theorem dX7_sheet_15 : decode cX7_sheet 15 = .ok (.bipush 24, 2) := by decide +kernel
theorem dX7_sheet_17 : decode cX7_sheet 17 = .ok (.if_icmp .le 5, 3) := by decide +kernel
theorem dX7_sheet_20 : decode cX7_sheet 20 = .ok (.iconst (-1), 1) := by decide +kernel
theorem dX7_sheet_21 : decode cX7_sheet 21 = .ok (.ireturn, 1) := by decide +kernel
theorem dX7_sheet_22 : decode cX7_sheet 22 = .ok (.iload_n 3, 1) := by decide +kernel
theorem dX7_sheet_23 : decode cX7_sheet 23 = .ok (.ifCond .ge 6, 3) := by decide +kernel
theorem dX7_sheet_26 : decode cX7_sheet 26 = .ok (.bipush (-14), 2) := by decide +kernel
theorem dX7_sheet_28 : decode cX7_sheet 28 = .ok (.ireturn, 1) := by decide +kernel
theorem dX7_sheet_29 : decode cX7_sheet 29 = .ok (.aload_n 0, 1) := by decide +kernel
theorem dX7_sheet_30 : decode cX7_sheet 30 = .ok (.getfield 43, 3) := by decide +kernel
theorem dX7_sheet_33 : decode cX7_sheet 33 = .ok (.iload_n 1, 1) := by decide +kernel
theorem dX7_sheet_34 : decode cX7_sheet 34 = .ok (.iload_n 2, 1) := by decide +kernel
theorem dX7_sheet_35 : decode cX7_sheet 35 = .ok (.iastore, 1) := by decide +kernel
theorem dX7_sheet_36 : decode cX7_sheet 36 = .ok (.aload_n 0, 1) := by decide +kernel
theorem dX7_sheet_37 : decode cX7_sheet 37 = .ok (.getfield 46, 3) := by decide +kernel
theorem dX7_sheet_40 : decode cX7_sheet 40 = .ok (.iload_n 1, 1) := by decide +kernel
theorem dX7_sheet_41 : decode cX7_sheet 41 = .ok (.iload_n 3, 1) := by decide +kernel
theorem dX7_sheet_42 : decode cX7_sheet 42 = .ok (.iastore, 1) := by decide +kernel
theorem dX7_sheet_43 : decode cX7_sheet 43 = .ok (.iconst 0, 1) := by decide +kernel
theorem dX7_sheet_44 : decode cX7_sheet 44 = .ok (.istore 4, 2) := by decide +kernel
theorem dX7_sheet_46 : decode cX7_sheet 46 = .ok (.iload 4, 2) := by decide +kernel
theorem dX7_sheet_48 : decode cX7_sheet 48 = .ok (.bipush 24, 2) := by decide +kernel
theorem dX7_sheet_50 : decode cX7_sheet 50 = .ok (.if_icmp .ge 22, 3) := by decide +kernel
theorem dX7_sheet_53 : decode cX7_sheet 53 = .ok (.aload_n 0, 1) := by decide +kernel
theorem dX7_sheet_54 : decode cX7_sheet 54 = .ok (.getfield 49, 3) := by decide +kernel
theorem dX7_sheet_57 : decode cX7_sheet 57 = .ok (.bipush 24, 2) := by decide +kernel
theorem dX7_sheet_59 : decode cX7_sheet 59 = .ok (.iload_n 1, 1) := by decide +kernel
theorem dX7_sheet_60 : decode cX7_sheet 60 = .ok (.imul, 1) := by decide +kernel
theorem dX7_sheet_61 : decode cX7_sheet 61 = .ok (.iload 4, 2) := by decide +kernel
theorem dX7_sheet_63 : decode cX7_sheet 63 = .ok (.iadd, 1) := by decide +kernel
theorem dX7_sheet_64 : decode cX7_sheet 64 = .ok (.lconst 0, 1) := by decide +kernel
theorem dX7_sheet_65 : decode cX7_sheet 65 = .ok (.lastore, 1) := by decide +kernel
theorem dX7_sheet_66 : decode cX7_sheet 66 = .ok (.iinc 4 1, 3) := by decide +kernel
theorem dX7_sheet_69 : decode cX7_sheet 69 = .ok (.goto (-23), 3) := by decide +kernel
theorem dX7_sheet_72 : decode cX7_sheet 72 = .ok (.iload_n 3, 1) := by decide +kernel
theorem dX7_sheet_73 : decode cX7_sheet 73 = .ok (.ireturn, 1) := by decide +kernel
theorem dX7_drop_0 : decode cX7_drop 0 = .ok (.iload_n 1, 1) := by decide +kernel
theorem dX7_drop_1 : decode cX7_drop 1 = .ok (.invokestatic 204, 3) := by decide +kernel
theorem dX7_drop_4 : decode cX7_drop 4 = .ok (.ifCond .ne 5, 3) := by decide +kernel
theorem dX7_drop_7 : decode cX7_drop 7 = .ok (.iconst (-1), 1) := by decide +kernel
theorem dX7_drop_8 : decode cX7_drop 8 = .ok (.ireturn, 1) := by decide +kernel
theorem dX7_drop_9 : decode cX7_drop 9 = .ok (.aload_n 0, 1) := by decide +kernel
theorem dX7_drop_10 : decode cX7_drop 10 = .ok (.getfield 43, 3) := by decide +kernel
theorem dX7_drop_13 : decode cX7_drop 13 = .ok (.iload_n 1, 1) := by decide +kernel
theorem dX7_drop_14 : decode cX7_drop 14 = .ok (.iaload, 1) := by decide +kernel
theorem dX7_drop_15 : decode cX7_drop 15 = .ok (.ifCond .ge 6, 3) := by decide +kernel
theorem dX7_drop_18 : decode cX7_drop 18 = .ok (.bipush (-11), 2) := by decide +kernel
theorem dX7_drop_20 : decode cX7_drop 20 = .ok (.ireturn, 1) := by decide +kernel
theorem dX7_drop_21 : decode cX7_drop 21 = .ok (.aload_n 0, 1) := by decide +kernel
theorem dX7_drop_22 : decode cX7_drop 22 = .ok (.getfield 43, 3) := by decide +kernel
theorem dX7_drop_25 : decode cX7_drop 25 = .ok (.iload_n 1, 1) := by decide +kernel
theorem dX7_drop_26 : decode cX7_drop 26 = .ok (.iconst (-1), 1) := by decide +kernel
theorem dX7_drop_27 : decode cX7_drop 27 = .ok (.iastore, 1) := by decide +kernel
theorem dX7_drop_28 : decode cX7_drop 28 = .ok (.aload_n 0, 1) := by decide +kernel
theorem dX7_drop_29 : decode cX7_drop 29 = .ok (.getfield 46, 3) := by decide +kernel
theorem dX7_drop_32 : decode cX7_drop 32 = .ok (.iload_n 1, 1) := by decide +kernel
theorem dX7_drop_33 : decode cX7_drop 33 = .ok (.iaload, 1) := by decide +kernel
theorem dX7_drop_34 : decode cX7_drop 34 = .ok (.ireturn, 1) := by decide +kernel
theorem dX7_item_0 : decode cX7_item 0 = .ok (.iload_n 1, 1) := by decide +kernel
theorem dX7_item_1 : decode cX7_item 1 = .ok (.invokestatic 204, 3) := by decide +kernel
theorem dX7_item_4 : decode cX7_item 4 = .ok (.ifCond .eq 10, 3) := by decide +kernel
theorem dX7_item_7 : decode cX7_item 7 = .ok (.iload_n 2, 1) := by decide +kernel
theorem dX7_item_8 : decode cX7_item 8 = .ok (.invokestatic 207, 3) := by decide +kernel
theorem dX7_item_11 : decode cX7_item 11 = .ok (.ifCond .ne 5, 3) := by decide +kernel
theorem dX7_item_14 : decode cX7_item 14 = .ok (.iconst (-1), 1) := by decide +kernel
theorem dX7_item_15 : decode cX7_item 15 = .ok (.ireturn, 1) := by decide +kernel
theorem dX7_item_16 : decode cX7_item 16 = .ok (.aload_n 0, 1) := by decide +kernel
theorem dX7_item_17 : decode cX7_item 17 = .ok (.iload_n 1, 1) := by decide +kernel
theorem dX7_item_18 : decode cX7_item 18 = .ok (.iload_n 2, 1) := by decide +kernel
theorem dX7_item_19 : decode cX7_item 19 = .ok (.iload_n 3, 1) := by decide +kernel
theorem dX7_item_20 : decode cX7_item 20 = .ok (.iconst 1, 1) := by decide +kernel
theorem dX7_item_21 : decode cX7_item 21 = .ok (.invokevirtual 210, 3) := by decide +kernel
theorem dX7_item_24 : decode cX7_item 24 = .ok (.istore 6, 2) := by decide +kernel
theorem dX7_item_26 : decode cX7_item 26 = .ok (.iload 6, 2) := by decide +kernel
theorem dX7_item_28 : decode cX7_item 28 = .ok (.ifCond .ge 6, 3) := by decide +kernel
theorem dX7_item_31 : decode cX7_item 31 = .ok (.iload 6, 2) := by decide +kernel
theorem dX7_item_33 : decode cX7_item 33 = .ok (.ireturn, 1) := by decide +kernel
theorem dX7_item_34 : decode cX7_item 34 = .ok (.aload_n 0, 1) := by decide +kernel
theorem dX7_item_35 : decode cX7_item 35 = .ok (.getfield 49, 3) := by decide +kernel
theorem dX7_item_38 : decode cX7_item 38 = .ok (.bipush 24, 2) := by decide +kernel
theorem dX7_item_40 : decode cX7_item 40 = .ok (.iload_n 1, 1) := by decide +kernel
theorem dX7_item_41 : decode cX7_item 41 = .ok (.imul, 1) := by decide +kernel
theorem dX7_item_42 : decode cX7_item 42 = .ok (.iload_n 3, 1) := by decide +kernel
theorem dX7_item_43 : decode cX7_item 43 = .ok (.iadd, 1) := by decide +kernel
theorem dX7_item_44 : decode cX7_item 44 = .ok (.iload_n 2, 1) := by decide +kernel
theorem dX7_item_45 : decode cX7_item 45 = .ok (.ifCond .ne 11, 3) := by decide +kernel
theorem dX7_item_48 : decode cX7_item 48 = .ok (.lload 4, 2) := by decide +kernel
theorem dX7_item_50 : decode cX7_item 50 = .ok (.l2i, 1) := by decide +kernel
theorem dX7_item_51 : decode cX7_item 51 = .ok (.i2b, 1) := by decide +kernel
theorem dX7_item_52 : decode cX7_item 52 = .ok (.i2l, 1) := by decide +kernel
theorem dX7_item_53 : decode cX7_item 53 = .ok (.goto 30, 3) := by decide +kernel
theorem dX7_item_56 : decode cX7_item 56 = .ok (.iload_n 2, 1) := by decide +kernel
theorem dX7_item_57 : decode cX7_item 57 = .ok (.iconst 1, 1) := by decide +kernel
theorem dX7_item_58 : decode cX7_item 58 = .ok (.if_icmp .ne 11, 3) := by decide +kernel
theorem dX7_item_61 : decode cX7_item 61 = .ok (.lload 4, 2) := by decide +kernel
theorem dX7_item_63 : decode cX7_item 63 = .ok (.l2i, 1) := by decide +kernel
theorem dX7_item_64 : decode cX7_item 64 = .ok (.i2s, 1) := by decide +kernel
theorem dX7_item_65 : decode cX7_item 65 = .ok (.i2l, 1) := by decide +kernel
theorem dX7_item_66 : decode cX7_item 66 = .ok (.goto 17, 3) := by decide +kernel
theorem dX7_item_69 : decode cX7_item 69 = .ok (.iload_n 2, 1) := by decide +kernel
theorem dX7_item_70 : decode cX7_item 70 = .ok (.iconst 2, 1) := by decide +kernel
theorem dX7_item_71 : decode cX7_item 71 = .ok (.if_icmp .ne 10, 3) := by decide +kernel
theorem dX7_item_74 : decode cX7_item 74 = .ok (.lload 4, 2) := by decide +kernel
theorem dX7_item_76 : decode cX7_item 76 = .ok (.l2i, 1) := by decide +kernel
theorem dX7_item_77 : decode cX7_item 77 = .ok (.i2l, 1) := by decide +kernel
theorem dX7_item_78 : decode cX7_item 78 = .ok (.goto 5, 3) := by decide +kernel
theorem dX7_item_81 : decode cX7_item 81 = .ok (.lload 4, 2) := by decide +kernel
theorem dX7_item_83 : decode cX7_item 83 = .ok (.lastore, 1) := by decide +kernel
theorem dX7_item_84 : decode cX7_item 84 = .ok (.iconst 1, 1) := by decide +kernel
theorem dX7_item_85 : decode cX7_item 85 = .ok (.ireturn, 1) := by decide +kernel
theorem dX7_copy_0 : decode cX7_copy 0 = .ok (.iload_n 1, 1) := by decide +kernel
theorem dX7_copy_1 : decode cX7_copy 1 = .ok (.invokestatic 204, 3) := by decide +kernel
theorem dX7_copy_4 : decode cX7_copy 4 = .ok (.ifCond .eq 10, 3) := by decide +kernel
theorem dX7_copy_7 : decode cX7_copy 7 = .ok (.iload_n 3, 1) := by decide +kernel
theorem dX7_copy_8 : decode cX7_copy 8 = .ok (.invokestatic 204, 3) := by decide +kernel
theorem dX7_copy_11 : decode cX7_copy 11 = .ok (.ifCond .ne 5, 3) := by decide +kernel
theorem dX7_copy_14 : decode cX7_copy 14 = .ok (.iconst (-1), 1) := by decide +kernel
theorem dX7_copy_15 : decode cX7_copy 15 = .ok (.ireturn, 1) := by decide +kernel
theorem dX7_copy_16 : decode cX7_copy 16 = .ok (.aload_n 0, 1) := by decide +kernel
theorem dX7_copy_17 : decode cX7_copy 17 = .ok (.getfield 43, 3) := by decide +kernel
theorem dX7_copy_20 : decode cX7_copy 20 = .ok (.iload_n 1, 1) := by decide +kernel
theorem dX7_copy_21 : decode cX7_copy 21 = .ok (.iaload, 1) := by decide +kernel
theorem dX7_copy_22 : decode cX7_copy 22 = .ok (.ifCond .lt 12, 3) := by decide +kernel
theorem dX7_copy_25 : decode cX7_copy 25 = .ok (.aload_n 0, 1) := by decide +kernel
theorem dX7_copy_26 : decode cX7_copy 26 = .ok (.getfield 43, 3) := by decide +kernel
theorem dX7_copy_29 : decode cX7_copy 29 = .ok (.iload_n 3, 1) := by decide +kernel
theorem dX7_copy_30 : decode cX7_copy 30 = .ok (.iaload, 1) := by decide +kernel
theorem dX7_copy_31 : decode cX7_copy 31 = .ok (.ifCond .ge 6, 3) := by decide +kernel
theorem dX7_copy_34 : decode cX7_copy 34 = .ok (.bipush (-11), 2) := by decide +kernel
theorem dX7_copy_36 : decode cX7_copy 36 = .ok (.ireturn, 1) := by decide +kernel
theorem dX7_copy_37 : decode cX7_copy 37 = .ok (.aload_n 0, 1) := by decide +kernel
theorem dX7_copy_38 : decode cX7_copy 38 = .ok (.iload_n 3, 1) := by decide +kernel
theorem dX7_copy_39 : decode cX7_copy 39 = .ok (.aload_n 0, 1) := by decide +kernel
theorem dX7_copy_40 : decode cX7_copy 40 = .ok (.getfield 43, 3) := by decide +kernel
theorem dX7_copy_43 : decode cX7_copy 43 = .ok (.iload_n 1, 1) := by decide +kernel
theorem dX7_copy_44 : decode cX7_copy 44 = .ok (.iaload, 1) := by decide +kernel
theorem dX7_copy_45 : decode cX7_copy 45 = .ok (.iload 4, 2) := by decide +kernel
theorem dX7_copy_47 : decode cX7_copy 47 = .ok (.iload 5, 2) := by decide +kernel
theorem dX7_copy_49 : decode cX7_copy 49 = .ok (.invokevirtual 210, 3) := by decide +kernel
theorem dX7_copy_52 : decode cX7_copy 52 = .ok (.istore 6, 2) := by decide +kernel
theorem dX7_copy_54 : decode cX7_copy 54 = .ok (.iload 6, 2) := by decide +kernel
theorem dX7_copy_56 : decode cX7_copy 56 = .ok (.ifCond .ne 20, 3) := by decide +kernel
theorem dX7_copy_59 : decode cX7_copy 59 = .ok (.aload_n 0, 1) := by decide +kernel
theorem dX7_copy_60 : decode cX7_copy 60 = .ok (.iload_n 1, 1) := by decide +kernel
theorem dX7_copy_61 : decode cX7_copy 61 = .ok (.aload_n 0, 1) := by decide +kernel
theorem dX7_copy_62 : decode cX7_copy 62 = .ok (.getfield 43, 3) := by decide +kernel
theorem dX7_copy_65 : decode cX7_copy 65 = .ok (.iload_n 1, 1) := by decide +kernel
theorem dX7_copy_66 : decode cX7_copy 66 = .ok (.iaload, 1) := by decide +kernel
theorem dX7_copy_67 : decode cX7_copy 67 = .ok (.iload_n 2, 1) := by decide +kernel
theorem dX7_copy_68 : decode cX7_copy 68 = .ok (.iload 5, 2) := by decide +kernel
theorem dX7_copy_70 : decode cX7_copy 70 = .ok (.invokevirtual 210, 3) := by decide +kernel
theorem dX7_copy_73 : decode cX7_copy 73 = .ok (.goto 5, 3) := by decide +kernel
theorem dX7_copy_76 : decode cX7_copy 76 = .ok (.iload 6, 2) := by decide +kernel
theorem dX7_copy_78 : decode cX7_copy 78 = .ok (.istore 6, 2) := by decide +kernel
theorem dX7_copy_80 : decode cX7_copy 80 = .ok (.iload 6, 2) := by decide +kernel
theorem dX7_copy_82 : decode cX7_copy 82 = .ok (.ifCond .ge 6, 3) := by decide +kernel
theorem dX7_copy_85 : decode cX7_copy 85 = .ok (.iload 6, 2) := by decide +kernel
theorem dX7_copy_87 : decode cX7_copy 87 = .ok (.ireturn, 1) := by decide +kernel
theorem dX7_copy_88 : decode cX7_copy 88 = .ok (.iconst 0, 1) := by decide +kernel
theorem dX7_copy_89 : decode cX7_copy 89 = .ok (.istore 7, 2) := by decide +kernel
theorem dX7_copy_91 : decode cX7_copy 91 = .ok (.iload 7, 2) := by decide +kernel
theorem dX7_copy_93 : decode cX7_copy 93 = .ok (.iload 5, 2) := by decide +kernel
theorem dX7_copy_95 : decode cX7_copy 95 = .ok (.if_icmp .ge 30, 3) := by decide +kernel
theorem dX7_copy_98 : decode cX7_copy 98 = .ok (.aload_n 0, 1) := by decide +kernel
theorem dX7_copy_99 : decode cX7_copy 99 = .ok (.getfield 53, 3) := by decide +kernel
theorem dX7_copy_102 : decode cX7_copy 102 = .ok (.iload 7, 2) := by decide +kernel
theorem dX7_copy_104 : decode cX7_copy 104 = .ok (.aload_n 0, 1) := by decide +kernel
theorem dX7_copy_105 : decode cX7_copy 105 = .ok (.getfield 49, 3) := by decide +kernel
theorem dX7_copy_108 : decode cX7_copy 108 = .ok (.bipush 24, 2) := by decide +kernel
theorem dX7_copy_110 : decode cX7_copy 110 = .ok (.iload_n 1, 1) := by decide +kernel
theorem dX7_copy_111 : decode cX7_copy 111 = .ok (.imul, 1) := by decide +kernel
theorem dX7_copy_112 : decode cX7_copy 112 = .ok (.iload_n 2, 1) := by decide +kernel
theorem dX7_copy_113 : decode cX7_copy 113 = .ok (.iadd, 1) := by decide +kernel
theorem dX7_copy_114 : decode cX7_copy 114 = .ok (.iload 7, 2) := by decide +kernel
theorem dX7_copy_116 : decode cX7_copy 116 = .ok (.iadd, 1) := by decide +kernel
theorem dX7_copy_117 : decode cX7_copy 117 = .ok (.laload, 1) := by decide +kernel
theorem dX7_copy_118 : decode cX7_copy 118 = .ok (.lastore, 1) := by decide +kernel
theorem dX7_copy_119 : decode cX7_copy 119 = .ok (.iinc 7 1, 3) := by decide +kernel
theorem dX7_copy_122 : decode cX7_copy 122 = .ok (.goto (-31), 3) := by decide +kernel
theorem dX7_copy_125 : decode cX7_copy 125 = .ok (.iconst 0, 1) := by decide +kernel
theorem dX7_copy_126 : decode cX7_copy 126 = .ok (.istore 7, 2) := by decide +kernel
theorem dX7_copy_128 : decode cX7_copy 128 = .ok (.iload 7, 2) := by decide +kernel
theorem dX7_copy_130 : decode cX7_copy 130 = .ok (.iload 5, 2) := by decide +kernel
theorem dX7_copy_132 : decode cX7_copy 132 = .ok (.if_icmp .ge 31, 3) := by decide +kernel
theorem dX7_copy_135 : decode cX7_copy 135 = .ok (.aload_n 0, 1) := by decide +kernel
theorem dX7_copy_136 : decode cX7_copy 136 = .ok (.getfield 49, 3) := by decide +kernel
theorem dX7_copy_139 : decode cX7_copy 139 = .ok (.bipush 24, 2) := by decide +kernel
theorem dX7_copy_141 : decode cX7_copy 141 = .ok (.iload_n 3, 1) := by decide +kernel
theorem dX7_copy_142 : decode cX7_copy 142 = .ok (.imul, 1) := by decide +kernel
theorem dX7_copy_143 : decode cX7_copy 143 = .ok (.iload 4, 2) := by decide +kernel
theorem dX7_copy_145 : decode cX7_copy 145 = .ok (.iadd, 1) := by decide +kernel
theorem dX7_copy_146 : decode cX7_copy 146 = .ok (.iload 7, 2) := by decide +kernel
theorem dX7_copy_148 : decode cX7_copy 148 = .ok (.iadd, 1) := by decide +kernel
theorem dX7_copy_149 : decode cX7_copy 149 = .ok (.aload_n 0, 1) := by decide +kernel
theorem dX7_copy_150 : decode cX7_copy 150 = .ok (.getfield 53, 3) := by decide +kernel
theorem dX7_copy_153 : decode cX7_copy 153 = .ok (.iload 7, 2) := by decide +kernel
theorem dX7_copy_155 : decode cX7_copy 155 = .ok (.laload, 1) := by decide +kernel
theorem dX7_copy_156 : decode cX7_copy 156 = .ok (.lastore, 1) := by decide +kernel
theorem dX7_copy_157 : decode cX7_copy 157 = .ok (.iinc 7 1, 3) := by decide +kernel
theorem dX7_copy_160 : decode cX7_copy 160 = .ok (.goto (-32), 3) := by decide +kernel
theorem dX7_copy_163 : decode cX7_copy 163 = .ok (.iload 5, 2) := by decide +kernel
theorem dX7_copy_165 : decode cX7_copy 165 = .ok (.ireturn, 1) := by decide +kernel
theorem dJ6_bitCount_0f7a4_0 : decode cJ6_bitCount_0f7a4 0 = .ok (.iload_n 0, 1) := by decide +kernel
theorem dJ6_bitCount_0f7a4_1 : decode cJ6_bitCount_0f7a4 1 = .ok (.iload_n 0, 1) := by decide +kernel
theorem dJ6_bitCount_0f7a4_2 : decode cJ6_bitCount_0f7a4 2 = .ok (.iconst 1, 1) := by decide +kernel
theorem dJ6_bitCount_0f7a4_3 : decode cJ6_bitCount_0f7a4 3 = .ok (.iushr, 1) := by decide +kernel
theorem dJ6_bitCount_0f7a4_4 : decode cJ6_bitCount_0f7a4 4 = .ok (.ldc_w 265, 3) := by decide +kernel
theorem dJ6_bitCount_0f7a4_7 : decode cJ6_bitCount_0f7a4 7 = .ok (.iand, 1) := by decide +kernel
theorem dJ6_bitCount_0f7a4_8 : decode cJ6_bitCount_0f7a4 8 = .ok (.isub, 1) := by decide +kernel
theorem dJ6_bitCount_0f7a4_9 : decode cJ6_bitCount_0f7a4 9 = .ok (.istore_n 0, 1) := by decide +kernel
theorem dJ6_bitCount_0f7a4_10 : decode cJ6_bitCount_0f7a4 10 = .ok (.iload_n 0, 1) := by decide +kernel
theorem dJ6_bitCount_0f7a4_11 : decode cJ6_bitCount_0f7a4 11 = .ok (.ldc_w 266, 3) := by decide +kernel
theorem dJ6_bitCount_0f7a4_14 : decode cJ6_bitCount_0f7a4 14 = .ok (.iand, 1) := by decide +kernel
theorem dJ6_bitCount_0f7a4_15 : decode cJ6_bitCount_0f7a4 15 = .ok (.iload_n 0, 1) := by decide +kernel
theorem dJ6_bitCount_0f7a4_16 : decode cJ6_bitCount_0f7a4 16 = .ok (.iconst 2, 1) := by decide +kernel
theorem dJ6_bitCount_0f7a4_17 : decode cJ6_bitCount_0f7a4 17 = .ok (.iushr, 1) := by decide +kernel
theorem dJ6_bitCount_0f7a4_18 : decode cJ6_bitCount_0f7a4 18 = .ok (.ldc_w 266, 3) := by decide +kernel
theorem dJ6_bitCount_0f7a4_21 : decode cJ6_bitCount_0f7a4 21 = .ok (.iand, 1) := by decide +kernel
theorem dJ6_bitCount_0f7a4_22 : decode cJ6_bitCount_0f7a4 22 = .ok (.iadd, 1) := by decide +kernel
theorem dJ6_bitCount_0f7a4_23 : decode cJ6_bitCount_0f7a4 23 = .ok (.istore_n 0, 1) := by decide +kernel
theorem dJ6_bitCount_0f7a4_24 : decode cJ6_bitCount_0f7a4 24 = .ok (.iload_n 0, 1) := by decide +kernel
theorem dJ6_bitCount_0f7a4_25 : decode cJ6_bitCount_0f7a4 25 = .ok (.iload_n 0, 1) := by decide +kernel
theorem dJ6_bitCount_0f7a4_26 : decode cJ6_bitCount_0f7a4 26 = .ok (.iconst 4, 1) := by decide +kernel
theorem dJ6_bitCount_0f7a4_27 : decode cJ6_bitCount_0f7a4 27 = .ok (.iushr, 1) := by decide +kernel
theorem dJ6_bitCount_0f7a4_28 : decode cJ6_bitCount_0f7a4 28 = .ok (.iadd, 1) := by decide +kernel
theorem dJ6_bitCount_0f7a4_29 : decode cJ6_bitCount_0f7a4 29 = .ok (.ldc_w 267, 3) := by decide +kernel
theorem dJ6_bitCount_0f7a4_32 : decode cJ6_bitCount_0f7a4 32 = .ok (.iand, 1) := by decide +kernel
theorem dJ6_bitCount_0f7a4_33 : decode cJ6_bitCount_0f7a4 33 = .ok (.istore_n 0, 1) := by decide +kernel
theorem dJ6_bitCount_0f7a4_34 : decode cJ6_bitCount_0f7a4 34 = .ok (.iload_n 0, 1) := by decide +kernel
theorem dJ6_bitCount_0f7a4_35 : decode cJ6_bitCount_0f7a4 35 = .ok (.iload_n 0, 1) := by decide +kernel
theorem dJ6_bitCount_0f7a4_36 : decode cJ6_bitCount_0f7a4 36 = .ok (.bipush 8, 2) := by decide +kernel
theorem dJ6_bitCount_0f7a4_38 : decode cJ6_bitCount_0f7a4 38 = .ok (.iushr, 1) := by decide +kernel
theorem dJ6_bitCount_0f7a4_39 : decode cJ6_bitCount_0f7a4 39 = .ok (.iadd, 1) := by decide +kernel
theorem dJ6_bitCount_0f7a4_40 : decode cJ6_bitCount_0f7a4 40 = .ok (.istore_n 0, 1) := by decide +kernel
theorem dJ6_bitCount_0f7a4_41 : decode cJ6_bitCount_0f7a4 41 = .ok (.iload_n 0, 1) := by decide +kernel
theorem dJ6_bitCount_0f7a4_42 : decode cJ6_bitCount_0f7a4 42 = .ok (.iload_n 0, 1) := by decide +kernel
theorem dJ6_bitCount_0f7a4_43 : decode cJ6_bitCount_0f7a4 43 = .ok (.bipush 16, 2) := by decide +kernel
theorem dJ6_bitCount_0f7a4_45 : decode cJ6_bitCount_0f7a4 45 = .ok (.iushr, 1) := by decide +kernel
theorem dJ6_bitCount_0f7a4_46 : decode cJ6_bitCount_0f7a4 46 = .ok (.iadd, 1) := by decide +kernel
theorem dJ6_bitCount_0f7a4_47 : decode cJ6_bitCount_0f7a4 47 = .ok (.istore_n 0, 1) := by decide +kernel
theorem dJ6_bitCount_0f7a4_48 : decode cJ6_bitCount_0f7a4 48 = .ok (.iload_n 0, 1) := by decide +kernel
theorem dJ6_bitCount_0f7a4_49 : decode cJ6_bitCount_0f7a4 49 = .ok (.bipush 63, 2) := by decide +kernel
theorem dJ6_bitCount_0f7a4_51 : decode cJ6_bitCount_0f7a4 51 = .ok (.iand, 1) := by decide +kernel
theorem dJ6_bitCount_0f7a4_52 : decode cJ6_bitCount_0f7a4 52 = .ok (.ireturn, 1) := by decide +kernel
theorem dJ9_max_7cf53_0 : decode cJ9_max_7cf53 0 = .ok (.iload_n 0, 1) := by decide +kernel
theorem dJ9_max_7cf53_1 : decode cJ9_max_7cf53 1 = .ok (.iload_n 1, 1) := by decide +kernel
theorem dJ9_max_7cf53_2 : decode cJ9_max_7cf53 2 = .ok (.if_icmp .lt 7, 3) := by decide +kernel
theorem dJ9_max_7cf53_5 : decode cJ9_max_7cf53 5 = .ok (.iload_n 0, 1) := by decide +kernel
theorem dJ9_max_7cf53_6 : decode cJ9_max_7cf53 6 = .ok (.goto 4, 3) := by decide +kernel
theorem dJ9_max_7cf53_9 : decode cJ9_max_7cf53 9 = .ok (.iload_n 1, 1) := by decide +kernel
theorem dJ9_max_7cf53_10 : decode cJ9_max_7cf53 10 = .ok (.ireturn, 1) := by decide +kernel
theorem dJ9_min_7cf53_0 : decode cJ9_min_7cf53 0 = .ok (.iload_n 0, 1) := by decide +kernel
theorem dJ9_min_7cf53_1 : decode cJ9_min_7cf53 1 = .ok (.iload_n 1, 1) := by decide +kernel
theorem dJ9_min_7cf53_2 : decode cJ9_min_7cf53 2 = .ok (.if_icmp .gt 7, 3) := by decide +kernel
theorem dJ9_min_7cf53_5 : decode cJ9_min_7cf53 5 = .ok (.iload_n 0, 1) := by decide +kernel
theorem dJ9_min_7cf53_6 : decode cJ9_min_7cf53 6 = .ok (.goto 4, 3) := by decide +kernel
theorem dJ9_min_7cf53_9 : decode cJ9_min_7cf53 9 = .ok (.iload_n 1, 1) := by decide +kernel
theorem dJ9_min_7cf53_10 : decode cJ9_min_7cf53 10 = .ok (.ireturn, 1) := by decide +kernel
theorem dJ7_fill_d0a16_0 : decode cJ7_fill_d0a16 0 = .ok (.iconst 0, 1) := by decide +kernel
theorem dJ7_fill_d0a16_1 : decode cJ7_fill_d0a16 1 = .ok (.istore_n 3, 1) := by decide +kernel
theorem dJ7_fill_d0a16_2 : decode cJ7_fill_d0a16 2 = .ok (.aload_n 0, 1) := by decide +kernel
theorem dJ7_fill_d0a16_3 : decode cJ7_fill_d0a16 3 = .ok (.arraylength, 1) := by decide +kernel
theorem dJ7_fill_d0a16_4 : decode cJ7_fill_d0a16 4 = .ok (.istore 4, 2) := by decide +kernel
theorem dJ7_fill_d0a16_6 : decode cJ7_fill_d0a16 6 = .ok (.iload_n 3, 1) := by decide +kernel
theorem dJ7_fill_d0a16_7 : decode cJ7_fill_d0a16 7 = .ok (.iload 4, 2) := by decide +kernel
theorem dJ7_fill_d0a16_9 : decode cJ7_fill_d0a16 9 = .ok (.if_icmp .ge 13, 3) := by decide +kernel
theorem dJ7_fill_d0a16_12 : decode cJ7_fill_d0a16 12 = .ok (.aload_n 0, 1) := by decide +kernel
theorem dJ7_fill_d0a16_13 : decode cJ7_fill_d0a16 13 = .ok (.iload_n 3, 1) := by decide +kernel
theorem dJ7_fill_d0a16_14 : decode cJ7_fill_d0a16 14 = .ok (.lload_n 1, 1) := by decide +kernel
theorem dJ7_fill_d0a16_15 : decode cJ7_fill_d0a16 15 = .ok (.lastore, 1) := by decide +kernel
theorem dJ7_fill_d0a16_16 : decode cJ7_fill_d0a16 16 = .ok (.iinc 3 1, 3) := by decide +kernel
theorem dJ7_fill_d0a16_19 : decode cJ7_fill_d0a16 19 = .ok (.goto (-13), 3) := by decide +kernel
theorem dJ7_fill_d0a16_22 : decode cJ7_fill_d0a16 22 = .ok (.return_, 1) := by decide +kernel
theorem dJ7_fill_53178_0 : decode cJ7_fill_53178 0 = .ok (.iconst 0, 1) := by decide +kernel
theorem dJ7_fill_53178_1 : decode cJ7_fill_53178 1 = .ok (.istore_n 2, 1) := by decide +kernel
theorem dJ7_fill_53178_2 : decode cJ7_fill_53178 2 = .ok (.aload_n 0, 1) := by decide +kernel
theorem dJ7_fill_53178_3 : decode cJ7_fill_53178 3 = .ok (.arraylength, 1) := by decide +kernel
theorem dJ7_fill_53178_4 : decode cJ7_fill_53178 4 = .ok (.istore_n 3, 1) := by decide +kernel
theorem dJ7_fill_53178_5 : decode cJ7_fill_53178 5 = .ok (.iload_n 2, 1) := by decide +kernel
theorem dJ7_fill_53178_6 : decode cJ7_fill_53178 6 = .ok (.iload_n 3, 1) := by decide +kernel
theorem dJ7_fill_53178_7 : decode cJ7_fill_53178 7 = .ok (.if_icmp .ge 13, 3) := by decide +kernel
theorem dJ7_fill_53178_10 : decode cJ7_fill_53178 10 = .ok (.aload_n 0, 1) := by decide +kernel
theorem dJ7_fill_53178_11 : decode cJ7_fill_53178 11 = .ok (.iload_n 2, 1) := by decide +kernel
theorem dJ7_fill_53178_12 : decode cJ7_fill_53178 12 = .ok (.iload_n 1, 1) := by decide +kernel
theorem dJ7_fill_53178_13 : decode cJ7_fill_53178 13 = .ok (.iastore, 1) := by decide +kernel
theorem dJ7_fill_53178_14 : decode cJ7_fill_53178 14 = .ok (.iinc 2 1, 3) := by decide +kernel
theorem dJ7_fill_53178_17 : decode cJ7_fill_53178 17 = .ok (.goto (-12), 3) := by decide +kernel
theorem dJ7_fill_53178_20 : decode cJ7_fill_53178 20 = .ok (.return_, 1) := by decide +kernel
theorem dL_law_0 : decode cL_law 0 = .ok (.new 7, 3) := by decide +kernel
theorem dL_law_3 : decode cL_law 3 = .ok (.dup, 1) := by decide +kernel
theorem dL_law_4 : decode cL_law 4 = .ok (.invokespecial 9, 3) := by decide +kernel
theorem dL_law_7 : decode cL_law 7 = .ok (.astore_n 1, 1) := by decide +kernel
theorem dL_law_8 : decode cL_law 8 = .ok (.new 10, 3) := by decide +kernel
theorem dL_law_11 : decode cL_law 11 = .ok (.dup, 1) := by decide +kernel
theorem dL_law_12 : decode cL_law 12 = .ok (.invokespecial 12, 3) := by decide +kernel
theorem dL_law_15 : decode cL_law 15 = .ok (.astore_n 2, 1) := by decide +kernel
theorem dL_law_16 : decode cL_law 16 = .ok (.iconst 0, 1) := by decide +kernel
theorem dL_law_17 : decode cL_law 17 = .ok (.istore_n 3, 1) := by decide +kernel
theorem dL_law_18 : decode cL_law 18 = .ok (.iload_n 3, 1) := by decide +kernel
theorem dL_law_19 : decode cL_law 19 = .ok (.aload_n 0, 1) := by decide +kernel
theorem dL_law_20 : decode cL_law 20 = .ok (.arraylength, 1) := by decide +kernel
theorem dL_law_21 : decode cL_law 21 = .ok (.bipush 8, 2) := by decide +kernel
theorem dL_law_23 : decode cL_law 23 = .ok (.isub, 1) := by decide +kernel
theorem dL_law_24 : decode cL_law 24 = .ok (.if_icmp .gt 1256, 3) := by decide +kernel
theorem dL_law_27 : decode cL_law 27 = .ok (.aload_n 0, 1) := by decide +kernel
theorem dL_law_28 : decode cL_law 28 = .ok (.iload_n 3, 1) := by decide +kernel
theorem dL_law_29 : decode cL_law 29 = .ok (.iaload, 1) := by decide +kernel
theorem dL_law_30 : decode cL_law 30 = .ok (.bipush 63, 2) := by decide +kernel
theorem dL_law_32 : decode cL_law 32 = .ok (.iand, 1) := by decide +kernel
theorem dL_law_33 : decode cL_law 33 = .ok (.tableswitch 1241 0 32 #[147, 190, 223, 256, 289, 332, 355, 368, 391, 414, 447, 480, 503, 526, 539, 562, 595, 618, 651, 674, 707, 740, 763, 786, 809, 853, 866, 879, 966, 1029, 1072, 1095, 1178], 147) := by decide +kernel
theorem dL_law_180 : decode cL_law 180 = .ok (.aload_n 1, 1) := by decide +kernel
theorem dL_law_181 : decode cL_law 181 = .ok (.aload_n 0, 1) := by decide +kernel
theorem dL_law_182 : decode cL_law 182 = .ok (.iload_n 3, 1) := by decide +kernel
theorem dL_law_183 : decode cL_law 183 = .ok (.iconst 1, 1) := by decide +kernel
theorem dL_law_184 : decode cL_law 184 = .ok (.iadd, 1) := by decide +kernel
theorem dL_law_185 : decode cL_law 185 = .ok (.iaload, 1) := by decide +kernel
theorem dL_law_186 : decode cL_law 186 = .ok (.aload_n 0, 1) := by decide +kernel
theorem dL_law_187 : decode cL_law 187 = .ok (.iload_n 3, 1) := by decide +kernel
theorem dL_law_188 : decode cL_law 188 = .ok (.iconst 2, 1) := by decide +kernel
theorem dL_law_189 : decode cL_law 189 = .ok (.iadd, 1) := by decide +kernel
theorem dL_law_190 : decode cL_law 190 = .ok (.iaload, 1) := by decide +kernel
theorem dL_law_191 : decode cL_law 191 = .ok (.aload_n 0, 1) := by decide +kernel
theorem dL_law_192 : decode cL_law 192 = .ok (.iload_n 3, 1) := by decide +kernel
theorem dL_law_193 : decode cL_law 193 = .ok (.iconst 3, 1) := by decide +kernel
theorem dL_law_194 : decode cL_law 194 = .ok (.iadd, 1) := by decide +kernel
theorem dL_law_195 : decode cL_law 195 = .ok (.iaload, 1) := by decide +kernel
theorem dL_law_196 : decode cL_law 196 = .ok (.invokevirtual 13, 3) := by decide +kernel
theorem dL_law_199 : decode cL_law 199 = .ok (.aload_n 2, 1) := by decide +kernel
theorem dL_law_200 : decode cL_law 200 = .ok (.aload_n 0, 1) := by decide +kernel
theorem dL_law_201 : decode cL_law 201 = .ok (.iload_n 3, 1) := by decide +kernel
theorem dL_law_202 : decode cL_law 202 = .ok (.iconst 1, 1) := by decide +kernel
theorem dL_law_203 : decode cL_law 203 = .ok (.iadd, 1) := by decide +kernel
theorem dL_law_204 : decode cL_law 204 = .ok (.iaload, 1) := by decide +kernel
theorem dL_law_205 : decode cL_law 205 = .ok (.aload_n 0, 1) := by decide +kernel
theorem dL_law_206 : decode cL_law 206 = .ok (.iload_n 3, 1) := by decide +kernel
theorem dL_law_207 : decode cL_law 207 = .ok (.iconst 2, 1) := by decide +kernel
theorem dL_law_208 : decode cL_law 208 = .ok (.iadd, 1) := by decide +kernel
theorem dL_law_209 : decode cL_law 209 = .ok (.iaload, 1) := by decide +kernel
theorem dL_law_210 : decode cL_law 210 = .ok (.aload_n 0, 1) := by decide +kernel
theorem dL_law_211 : decode cL_law 211 = .ok (.iload_n 3, 1) := by decide +kernel
theorem dL_law_212 : decode cL_law 212 = .ok (.iconst 3, 1) := by decide +kernel
theorem dL_law_213 : decode cL_law 213 = .ok (.iadd, 1) := by decide +kernel
theorem dL_law_214 : decode cL_law 214 = .ok (.iaload, 1) := by decide +kernel
theorem dL_law_215 : decode cL_law 215 = .ok (.invokevirtual 17, 3) := by decide +kernel
theorem dL_law_218 : decode cL_law 218 = .ok (.if_icmp .eq 1056, 3) := by decide +kernel
theorem dL_law_221 : decode cL_law 221 = .ok (.iconst 0, 1) := by decide +kernel
theorem dL_law_222 : decode cL_law 222 = .ok (.ireturn, 1) := by decide +kernel
theorem dL_law_223 : decode cL_law 223 = .ok (.aload_n 1, 1) := by decide +kernel
theorem dL_law_224 : decode cL_law 224 = .ok (.aload_n 0, 1) := by decide +kernel
theorem dL_law_225 : decode cL_law 225 = .ok (.iload_n 3, 1) := by decide +kernel
theorem dL_law_226 : decode cL_law 226 = .ok (.iconst 1, 1) := by decide +kernel
theorem dL_law_227 : decode cL_law 227 = .ok (.iadd, 1) := by decide +kernel
theorem dL_law_228 : decode cL_law 228 = .ok (.iaload, 1) := by decide +kernel
theorem dL_law_229 : decode cL_law 229 = .ok (.aload_n 0, 1) := by decide +kernel
theorem dL_law_230 : decode cL_law 230 = .ok (.iload_n 3, 1) := by decide +kernel
theorem dL_law_231 : decode cL_law 231 = .ok (.iconst 2, 1) := by decide +kernel
theorem dL_law_232 : decode cL_law 232 = .ok (.iadd, 1) := by decide +kernel
theorem dL_law_233 : decode cL_law 233 = .ok (.iaload, 1) := by decide +kernel
theorem dL_law_234 : decode cL_law 234 = .ok (.invokevirtual 18, 3) := by decide +kernel
theorem dL_law_237 : decode cL_law 237 = .ok (.aload_n 2, 1) := by decide +kernel
theorem dL_law_238 : decode cL_law 238 = .ok (.aload_n 0, 1) := by decide +kernel
theorem dL_law_239 : decode cL_law 239 = .ok (.iload_n 3, 1) := by decide +kernel
theorem dL_law_240 : decode cL_law 240 = .ok (.iconst 1, 1) := by decide +kernel
theorem dL_law_241 : decode cL_law 241 = .ok (.iadd, 1) := by decide +kernel
theorem dL_law_242 : decode cL_law 242 = .ok (.iaload, 1) := by decide +kernel
theorem dL_law_243 : decode cL_law 243 = .ok (.aload_n 0, 1) := by decide +kernel
theorem dL_law_244 : decode cL_law 244 = .ok (.iload_n 3, 1) := by decide +kernel
theorem dL_law_245 : decode cL_law 245 = .ok (.iconst 2, 1) := by decide +kernel
theorem dL_law_246 : decode cL_law 246 = .ok (.iadd, 1) := by decide +kernel
theorem dL_law_247 : decode cL_law 247 = .ok (.iaload, 1) := by decide +kernel
theorem dL_law_248 : decode cL_law 248 = .ok (.invokevirtual 22, 3) := by decide +kernel
theorem dL_law_251 : decode cL_law 251 = .ok (.if_icmp .eq 1023, 3) := by decide +kernel
theorem dL_law_254 : decode cL_law 254 = .ok (.iconst 0, 1) := by decide +kernel
theorem dL_law_255 : decode cL_law 255 = .ok (.ireturn, 1) := by decide +kernel
theorem dL_law_256 : decode cL_law 256 = .ok (.aload_n 1, 1) := by decide +kernel
theorem dL_law_257 : decode cL_law 257 = .ok (.aload_n 0, 1) := by decide +kernel
theorem dL_law_258 : decode cL_law 258 = .ok (.iload_n 3, 1) := by decide +kernel
theorem dL_law_259 : decode cL_law 259 = .ok (.iconst 1, 1) := by decide +kernel
theorem dL_law_260 : decode cL_law 260 = .ok (.iadd, 1) := by decide +kernel
theorem dL_law_261 : decode cL_law 261 = .ok (.iaload, 1) := by decide +kernel
theorem dL_law_262 : decode cL_law 262 = .ok (.aload_n 0, 1) := by decide +kernel
theorem dL_law_263 : decode cL_law 263 = .ok (.iload_n 3, 1) := by decide +kernel
theorem dL_law_264 : decode cL_law 264 = .ok (.iconst 2, 1) := by decide +kernel
theorem dL_law_265 : decode cL_law 265 = .ok (.iadd, 1) := by decide +kernel
theorem dL_law_266 : decode cL_law 266 = .ok (.iaload, 1) := by decide +kernel
theorem dL_law_267 : decode cL_law 267 = .ok (.invokevirtual 23, 3) := by decide +kernel
theorem dL_law_270 : decode cL_law 270 = .ok (.aload_n 2, 1) := by decide +kernel
theorem dL_law_271 : decode cL_law 271 = .ok (.aload_n 0, 1) := by decide +kernel
theorem dL_law_272 : decode cL_law 272 = .ok (.iload_n 3, 1) := by decide +kernel
theorem dL_law_273 : decode cL_law 273 = .ok (.iconst 1, 1) := by decide +kernel
theorem dL_law_274 : decode cL_law 274 = .ok (.iadd, 1) := by decide +kernel
theorem dL_law_275 : decode cL_law 275 = .ok (.iaload, 1) := by decide +kernel
theorem dL_law_276 : decode cL_law 276 = .ok (.aload_n 0, 1) := by decide +kernel
theorem dL_law_277 : decode cL_law 277 = .ok (.iload_n 3, 1) := by decide +kernel
theorem dL_law_278 : decode cL_law 278 = .ok (.iconst 2, 1) := by decide +kernel
theorem dL_law_279 : decode cL_law 279 = .ok (.iadd, 1) := by decide +kernel
theorem dL_law_280 : decode cL_law 280 = .ok (.iaload, 1) := by decide +kernel
theorem dL_law_281 : decode cL_law 281 = .ok (.invokevirtual 26, 3) := by decide +kernel
theorem dL_law_284 : decode cL_law 284 = .ok (.if_icmp .eq 990, 3) := by decide +kernel
theorem dL_law_287 : decode cL_law 287 = .ok (.iconst 0, 1) := by decide +kernel
theorem dL_law_288 : decode cL_law 288 = .ok (.ireturn, 1) := by decide +kernel
theorem dL_law_289 : decode cL_law 289 = .ok (.aload_n 1, 1) := by decide +kernel
theorem dL_law_290 : decode cL_law 290 = .ok (.aload_n 0, 1) := by decide +kernel
theorem dL_law_291 : decode cL_law 291 = .ok (.iload_n 3, 1) := by decide +kernel
theorem dL_law_292 : decode cL_law 292 = .ok (.iconst 1, 1) := by decide +kernel
theorem dL_law_293 : decode cL_law 293 = .ok (.iadd, 1) := by decide +kernel
theorem dL_law_294 : decode cL_law 294 = .ok (.iaload, 1) := by decide +kernel
theorem dL_law_295 : decode cL_law 295 = .ok (.aload_n 0, 1) := by decide +kernel
theorem dL_law_296 : decode cL_law 296 = .ok (.iload_n 3, 1) := by decide +kernel
theorem dL_law_297 : decode cL_law 297 = .ok (.iconst 2, 1) := by decide +kernel
theorem dL_law_298 : decode cL_law 298 = .ok (.iadd, 1) := by decide +kernel
theorem dL_law_299 : decode cL_law 299 = .ok (.iaload, 1) := by decide +kernel
theorem dL_law_300 : decode cL_law 300 = .ok (.invokevirtual 27, 3) := by decide +kernel
theorem dL_law_303 : decode cL_law 303 = .ok (.aload_n 2, 1) := by decide +kernel
theorem dL_law_304 : decode cL_law 304 = .ok (.aload_n 0, 1) := by decide +kernel
theorem dL_law_305 : decode cL_law 305 = .ok (.iload_n 3, 1) := by decide +kernel
theorem dL_law_306 : decode cL_law 306 = .ok (.iconst 1, 1) := by decide +kernel
theorem dL_law_307 : decode cL_law 307 = .ok (.iadd, 1) := by decide +kernel
theorem dL_law_308 : decode cL_law 308 = .ok (.iaload, 1) := by decide +kernel
theorem dL_law_309 : decode cL_law 309 = .ok (.aload_n 0, 1) := by decide +kernel
theorem dL_law_310 : decode cL_law 310 = .ok (.iload_n 3, 1) := by decide +kernel
theorem dL_law_311 : decode cL_law 311 = .ok (.iconst 2, 1) := by decide +kernel
theorem dL_law_312 : decode cL_law 312 = .ok (.iadd, 1) := by decide +kernel
theorem dL_law_313 : decode cL_law 313 = .ok (.iaload, 1) := by decide +kernel
theorem dL_law_314 : decode cL_law 314 = .ok (.invokevirtual 30, 3) := by decide +kernel
theorem dL_law_317 : decode cL_law 317 = .ok (.if_icmp .eq 957, 3) := by decide +kernel
theorem dL_law_320 : decode cL_law 320 = .ok (.iconst 0, 1) := by decide +kernel
theorem dL_law_321 : decode cL_law 321 = .ok (.ireturn, 1) := by decide +kernel
theorem dL_law_322 : decode cL_law 322 = .ok (.aload_n 1, 1) := by decide +kernel
theorem dL_law_323 : decode cL_law 323 = .ok (.aload_n 0, 1) := by decide +kernel
theorem dL_law_324 : decode cL_law 324 = .ok (.iload_n 3, 1) := by decide +kernel
theorem dL_law_325 : decode cL_law 325 = .ok (.iconst 1, 1) := by decide +kernel
theorem dL_law_326 : decode cL_law 326 = .ok (.iadd, 1) := by decide +kernel
theorem dL_law_327 : decode cL_law 327 = .ok (.iaload, 1) := by decide +kernel
theorem dL_law_328 : decode cL_law 328 = .ok (.aload_n 0, 1) := by decide +kernel
theorem dL_law_329 : decode cL_law 329 = .ok (.iload_n 3, 1) := by decide +kernel
theorem dL_law_330 : decode cL_law 330 = .ok (.iconst 2, 1) := by decide +kernel
theorem dL_law_331 : decode cL_law 331 = .ok (.iadd, 1) := by decide +kernel
theorem dL_law_332 : decode cL_law 332 = .ok (.iaload, 1) := by decide +kernel
theorem dL_law_333 : decode cL_law 333 = .ok (.aload_n 0, 1) := by decide +kernel
theorem dL_law_334 : decode cL_law 334 = .ok (.iload_n 3, 1) := by decide +kernel
theorem dL_law_335 : decode cL_law 335 = .ok (.iconst 3, 1) := by decide +kernel
theorem dL_law_336 : decode cL_law 336 = .ok (.iadd, 1) := by decide +kernel
theorem dL_law_337 : decode cL_law 337 = .ok (.iaload, 1) := by decide +kernel
theorem dL_law_338 : decode cL_law 338 = .ok (.invokevirtual 31, 3) := by decide +kernel
theorem dL_law_341 : decode cL_law 341 = .ok (.aload_n 2, 1) := by decide +kernel
theorem dL_law_342 : decode cL_law 342 = .ok (.aload_n 0, 1) := by decide +kernel
theorem dL_law_343 : decode cL_law 343 = .ok (.iload_n 3, 1) := by decide +kernel
theorem dL_law_344 : decode cL_law 344 = .ok (.iconst 1, 1) := by decide +kernel
theorem dL_law_345 : decode cL_law 345 = .ok (.iadd, 1) := by decide +kernel
theorem dL_law_346 : decode cL_law 346 = .ok (.iaload, 1) := by decide +kernel
theorem dL_law_347 : decode cL_law 347 = .ok (.aload_n 0, 1) := by decide +kernel
theorem dL_law_348 : decode cL_law 348 = .ok (.iload_n 3, 1) := by decide +kernel
theorem dL_law_349 : decode cL_law 349 = .ok (.iconst 2, 1) := by decide +kernel
theorem dL_law_350 : decode cL_law 350 = .ok (.iadd, 1) := by decide +kernel
theorem dL_law_351 : decode cL_law 351 = .ok (.iaload, 1) := by decide +kernel
theorem dL_law_352 : decode cL_law 352 = .ok (.aload_n 0, 1) := by decide +kernel
theorem dL_law_353 : decode cL_law 353 = .ok (.iload_n 3, 1) := by decide +kernel
theorem dL_law_354 : decode cL_law 354 = .ok (.iconst 3, 1) := by decide +kernel
theorem dL_law_355 : decode cL_law 355 = .ok (.iadd, 1) := by decide +kernel
theorem dL_law_356 : decode cL_law 356 = .ok (.iaload, 1) := by decide +kernel
theorem dL_law_357 : decode cL_law 357 = .ok (.invokevirtual 34, 3) := by decide +kernel
theorem dL_law_360 : decode cL_law 360 = .ok (.if_icmp .eq 914, 3) := by decide +kernel
theorem dL_law_363 : decode cL_law 363 = .ok (.iconst 0, 1) := by decide +kernel
theorem dL_law_364 : decode cL_law 364 = .ok (.ireturn, 1) := by decide +kernel
theorem dL_law_365 : decode cL_law 365 = .ok (.aload_n 1, 1) := by decide +kernel
theorem dL_law_366 : decode cL_law 366 = .ok (.aload_n 0, 1) := by decide +kernel
theorem dL_law_367 : decode cL_law 367 = .ok (.iload_n 3, 1) := by decide +kernel
theorem dL_law_368 : decode cL_law 368 = .ok (.iconst 1, 1) := by decide +kernel
theorem dL_law_369 : decode cL_law 369 = .ok (.iadd, 1) := by decide +kernel
theorem dL_law_370 : decode cL_law 370 = .ok (.iaload, 1) := by decide +kernel
theorem dL_law_371 : decode cL_law 371 = .ok (.invokevirtual 35, 3) := by decide +kernel
theorem dL_law_374 : decode cL_law 374 = .ok (.aload_n 2, 1) := by decide +kernel
theorem dL_law_375 : decode cL_law 375 = .ok (.aload_n 0, 1) := by decide +kernel
theorem dL_law_376 : decode cL_law 376 = .ok (.iload_n 3, 1) := by decide +kernel
theorem dL_law_377 : decode cL_law 377 = .ok (.iconst 1, 1) := by decide +kernel
theorem dL_law_378 : decode cL_law 378 = .ok (.iadd, 1) := by decide +kernel
theorem dL_law_379 : decode cL_law 379 = .ok (.iaload, 1) := by decide +kernel
theorem dL_law_380 : decode cL_law 380 = .ok (.invokevirtual 39, 3) := by decide +kernel
theorem dL_law_383 : decode cL_law 383 = .ok (.if_icmp .eq 891, 3) := by decide +kernel
theorem dL_law_386 : decode cL_law 386 = .ok (.iconst 0, 1) := by decide +kernel
theorem dL_law_387 : decode cL_law 387 = .ok (.ireturn, 1) := by decide +kernel
theorem dL_law_388 : decode cL_law 388 = .ok (.aload_n 1, 1) := by decide +kernel
theorem dL_law_389 : decode cL_law 389 = .ok (.invokevirtual 40, 3) := by decide +kernel
theorem dL_law_392 : decode cL_law 392 = .ok (.aload_n 2, 1) := by decide +kernel
theorem dL_law_393 : decode cL_law 393 = .ok (.invokevirtual 44, 3) := by decide +kernel
theorem dL_law_396 : decode cL_law 396 = .ok (.if_icmp .eq 878, 3) := by decide +kernel
theorem dL_law_399 : decode cL_law 399 = .ok (.iconst 0, 1) := by decide +kernel
theorem dL_law_400 : decode cL_law 400 = .ok (.ireturn, 1) := by decide +kernel
theorem dL_law_401 : decode cL_law 401 = .ok (.aload_n 1, 1) := by decide +kernel
theorem dL_law_402 : decode cL_law 402 = .ok (.aload_n 0, 1) := by decide +kernel
theorem dL_law_403 : decode cL_law 403 = .ok (.iload_n 3, 1) := by decide +kernel
theorem dL_law_404 : decode cL_law 404 = .ok (.iconst 1, 1) := by decide +kernel
theorem dL_law_405 : decode cL_law 405 = .ok (.iadd, 1) := by decide +kernel
theorem dL_law_406 : decode cL_law 406 = .ok (.iaload, 1) := by decide +kernel
theorem dL_law_407 : decode cL_law 407 = .ok (.invokevirtual 45, 3) := by decide +kernel
theorem dL_law_410 : decode cL_law 410 = .ok (.aload_n 2, 1) := by decide +kernel
theorem dL_law_411 : decode cL_law 411 = .ok (.aload_n 0, 1) := by decide +kernel
theorem dL_law_412 : decode cL_law 412 = .ok (.iload_n 3, 1) := by decide +kernel
theorem dL_law_413 : decode cL_law 413 = .ok (.iconst 1, 1) := by decide +kernel
theorem dL_law_414 : decode cL_law 414 = .ok (.iadd, 1) := by decide +kernel
theorem dL_law_415 : decode cL_law 415 = .ok (.iaload, 1) := by decide +kernel
theorem dL_law_416 : decode cL_law 416 = .ok (.invokevirtual 48, 3) := by decide +kernel
theorem dL_law_419 : decode cL_law 419 = .ok (.if_icmp .eq 855, 3) := by decide +kernel
theorem dL_law_422 : decode cL_law 422 = .ok (.iconst 0, 1) := by decide +kernel
theorem dL_law_423 : decode cL_law 423 = .ok (.ireturn, 1) := by decide +kernel
theorem dL_law_424 : decode cL_law 424 = .ok (.aload_n 1, 1) := by decide +kernel
theorem dL_law_425 : decode cL_law 425 = .ok (.aload_n 0, 1) := by decide +kernel
theorem dL_law_426 : decode cL_law 426 = .ok (.iload_n 3, 1) := by decide +kernel
theorem dL_law_427 : decode cL_law 427 = .ok (.iconst 1, 1) := by decide +kernel
theorem dL_law_428 : decode cL_law 428 = .ok (.iadd, 1) := by decide +kernel
theorem dL_law_429 : decode cL_law 429 = .ok (.iaload, 1) := by decide +kernel
theorem dL_law_430 : decode cL_law 430 = .ok (.invokevirtual 49, 3) := by decide +kernel
theorem dL_law_433 : decode cL_law 433 = .ok (.aload_n 2, 1) := by decide +kernel
theorem dL_law_434 : decode cL_law 434 = .ok (.aload_n 0, 1) := by decide +kernel
theorem dL_law_435 : decode cL_law 435 = .ok (.iload_n 3, 1) := by decide +kernel
theorem dL_law_436 : decode cL_law 436 = .ok (.iconst 1, 1) := by decide +kernel
theorem dL_law_437 : decode cL_law 437 = .ok (.iadd, 1) := by decide +kernel
theorem dL_law_438 : decode cL_law 438 = .ok (.iaload, 1) := by decide +kernel
theorem dL_law_439 : decode cL_law 439 = .ok (.invokevirtual 52, 3) := by decide +kernel
theorem dL_law_442 : decode cL_law 442 = .ok (.if_icmp .eq 832, 3) := by decide +kernel
theorem dL_law_445 : decode cL_law 445 = .ok (.iconst 0, 1) := by decide +kernel
theorem dL_law_446 : decode cL_law 446 = .ok (.ireturn, 1) := by decide +kernel
theorem dL_law_447 : decode cL_law 447 = .ok (.aload_n 1, 1) := by decide +kernel
theorem dL_law_448 : decode cL_law 448 = .ok (.aload_n 0, 1) := by decide +kernel
theorem dL_law_449 : decode cL_law 449 = .ok (.iload_n 3, 1) := by decide +kernel
theorem dL_law_450 : decode cL_law 450 = .ok (.iconst 1, 1) := by decide +kernel
theorem dL_law_451 : decode cL_law 451 = .ok (.iadd, 1) := by decide +kernel
theorem dL_law_452 : decode cL_law 452 = .ok (.iaload, 1) := by decide +kernel
theorem dL_law_453 : decode cL_law 453 = .ok (.aload_n 0, 1) := by decide +kernel
theorem dL_law_454 : decode cL_law 454 = .ok (.iload_n 3, 1) := by decide +kernel
theorem dL_law_455 : decode cL_law 455 = .ok (.iconst 2, 1) := by decide +kernel
theorem dL_law_456 : decode cL_law 456 = .ok (.iadd, 1) := by decide +kernel
theorem dL_law_457 : decode cL_law 457 = .ok (.iaload, 1) := by decide +kernel
theorem dL_law_458 : decode cL_law 458 = .ok (.invokevirtual 53, 3) := by decide +kernel
theorem dL_law_461 : decode cL_law 461 = .ok (.aload_n 2, 1) := by decide +kernel
theorem dL_law_462 : decode cL_law 462 = .ok (.aload_n 0, 1) := by decide +kernel
theorem dL_law_463 : decode cL_law 463 = .ok (.iload_n 3, 1) := by decide +kernel
theorem dL_law_464 : decode cL_law 464 = .ok (.iconst 1, 1) := by decide +kernel
theorem dL_law_465 : decode cL_law 465 = .ok (.iadd, 1) := by decide +kernel
theorem dL_law_466 : decode cL_law 466 = .ok (.iaload, 1) := by decide +kernel
theorem dL_law_467 : decode cL_law 467 = .ok (.aload_n 0, 1) := by decide +kernel
theorem dL_law_468 : decode cL_law 468 = .ok (.iload_n 3, 1) := by decide +kernel
theorem dL_law_469 : decode cL_law 469 = .ok (.iconst 2, 1) := by decide +kernel
theorem dL_law_470 : decode cL_law 470 = .ok (.iadd, 1) := by decide +kernel
theorem dL_law_471 : decode cL_law 471 = .ok (.iaload, 1) := by decide +kernel
theorem dL_law_472 : decode cL_law 472 = .ok (.invokevirtual 56, 3) := by decide +kernel
theorem dL_law_475 : decode cL_law 475 = .ok (.if_icmp .eq 799, 3) := by decide +kernel
theorem dL_law_478 : decode cL_law 478 = .ok (.iconst 0, 1) := by decide +kernel
theorem dL_law_479 : decode cL_law 479 = .ok (.ireturn, 1) := by decide +kernel
theorem dL_law_480 : decode cL_law 480 = .ok (.aload_n 1, 1) := by decide +kernel
theorem dL_law_481 : decode cL_law 481 = .ok (.aload_n 0, 1) := by decide +kernel
theorem dL_law_482 : decode cL_law 482 = .ok (.iload_n 3, 1) := by decide +kernel
theorem dL_law_483 : decode cL_law 483 = .ok (.iconst 1, 1) := by decide +kernel
theorem dL_law_484 : decode cL_law 484 = .ok (.iadd, 1) := by decide +kernel
theorem dL_law_485 : decode cL_law 485 = .ok (.iaload, 1) := by decide +kernel
theorem dL_law_486 : decode cL_law 486 = .ok (.aload_n 0, 1) := by decide +kernel
theorem dL_law_487 : decode cL_law 487 = .ok (.iload_n 3, 1) := by decide +kernel
theorem dL_law_488 : decode cL_law 488 = .ok (.iconst 2, 1) := by decide +kernel
theorem dL_law_489 : decode cL_law 489 = .ok (.iadd, 1) := by decide +kernel
theorem dL_law_490 : decode cL_law 490 = .ok (.iaload, 1) := by decide +kernel
theorem dL_law_491 : decode cL_law 491 = .ok (.invokevirtual 57, 3) := by decide +kernel
theorem dL_law_494 : decode cL_law 494 = .ok (.aload_n 2, 1) := by decide +kernel
theorem dL_law_495 : decode cL_law 495 = .ok (.aload_n 0, 1) := by decide +kernel
theorem dL_law_496 : decode cL_law 496 = .ok (.iload_n 3, 1) := by decide +kernel
theorem dL_law_497 : decode cL_law 497 = .ok (.iconst 1, 1) := by decide +kernel
theorem dL_law_498 : decode cL_law 498 = .ok (.iadd, 1) := by decide +kernel
theorem dL_law_499 : decode cL_law 499 = .ok (.iaload, 1) := by decide +kernel
theorem dL_law_500 : decode cL_law 500 = .ok (.aload_n 0, 1) := by decide +kernel
theorem dL_law_501 : decode cL_law 501 = .ok (.iload_n 3, 1) := by decide +kernel
theorem dL_law_502 : decode cL_law 502 = .ok (.iconst 2, 1) := by decide +kernel
theorem dL_law_503 : decode cL_law 503 = .ok (.iadd, 1) := by decide +kernel
theorem dL_law_504 : decode cL_law 504 = .ok (.iaload, 1) := by decide +kernel
theorem dL_law_505 : decode cL_law 505 = .ok (.invokevirtual 60, 3) := by decide +kernel
theorem dL_law_508 : decode cL_law 508 = .ok (.if_icmp .eq 766, 3) := by decide +kernel
theorem dL_law_511 : decode cL_law 511 = .ok (.iconst 0, 1) := by decide +kernel
theorem dL_law_512 : decode cL_law 512 = .ok (.ireturn, 1) := by decide +kernel
theorem dL_law_513 : decode cL_law 513 = .ok (.aload_n 1, 1) := by decide +kernel
theorem dL_law_514 : decode cL_law 514 = .ok (.aload_n 0, 1) := by decide +kernel
theorem dL_law_515 : decode cL_law 515 = .ok (.iload_n 3, 1) := by decide +kernel
theorem dL_law_516 : decode cL_law 516 = .ok (.iconst 1, 1) := by decide +kernel
theorem dL_law_517 : decode cL_law 517 = .ok (.iadd, 1) := by decide +kernel
theorem dL_law_518 : decode cL_law 518 = .ok (.iaload, 1) := by decide +kernel
theorem dL_law_519 : decode cL_law 519 = .ok (.invokevirtual 61, 3) := by decide +kernel
theorem dL_law_522 : decode cL_law 522 = .ok (.aload_n 2, 1) := by decide +kernel
theorem dL_law_523 : decode cL_law 523 = .ok (.aload_n 0, 1) := by decide +kernel
theorem dL_law_524 : decode cL_law 524 = .ok (.iload_n 3, 1) := by decide +kernel
theorem dL_law_525 : decode cL_law 525 = .ok (.iconst 1, 1) := by decide +kernel
theorem dL_law_526 : decode cL_law 526 = .ok (.iadd, 1) := by decide +kernel
theorem dL_law_527 : decode cL_law 527 = .ok (.iaload, 1) := by decide +kernel
theorem dL_law_528 : decode cL_law 528 = .ok (.invokevirtual 64, 3) := by decide +kernel
theorem dL_law_531 : decode cL_law 531 = .ok (.if_icmp .eq 743, 3) := by decide +kernel
theorem dL_law_534 : decode cL_law 534 = .ok (.iconst 0, 1) := by decide +kernel
theorem dL_law_535 : decode cL_law 535 = .ok (.ireturn, 1) := by decide +kernel
theorem dL_law_536 : decode cL_law 536 = .ok (.aload_n 1, 1) := by decide +kernel
theorem dL_law_537 : decode cL_law 537 = .ok (.aload_n 0, 1) := by decide +kernel
theorem dL_law_538 : decode cL_law 538 = .ok (.iload_n 3, 1) := by decide +kernel
theorem dL_law_539 : decode cL_law 539 = .ok (.iconst 1, 1) := by decide +kernel
theorem dL_law_540 : decode cL_law 540 = .ok (.iadd, 1) := by decide +kernel
theorem dL_law_541 : decode cL_law 541 = .ok (.iaload, 1) := by decide +kernel
theorem dL_law_542 : decode cL_law 542 = .ok (.invokevirtual 65, 3) := by decide +kernel
theorem dL_law_545 : decode cL_law 545 = .ok (.aload_n 2, 1) := by decide +kernel
theorem dL_law_546 : decode cL_law 546 = .ok (.aload_n 0, 1) := by decide +kernel
theorem dL_law_547 : decode cL_law 547 = .ok (.iload_n 3, 1) := by decide +kernel
theorem dL_law_548 : decode cL_law 548 = .ok (.iconst 1, 1) := by decide +kernel
theorem dL_law_549 : decode cL_law 549 = .ok (.iadd, 1) := by decide +kernel
theorem dL_law_550 : decode cL_law 550 = .ok (.iaload, 1) := by decide +kernel
theorem dL_law_551 : decode cL_law 551 = .ok (.invokevirtual 68, 3) := by decide +kernel
theorem dL_law_554 : decode cL_law 554 = .ok (.if_icmp .eq 720, 3) := by decide +kernel
theorem dL_law_557 : decode cL_law 557 = .ok (.iconst 0, 1) := by decide +kernel
theorem dL_law_558 : decode cL_law 558 = .ok (.ireturn, 1) := by decide +kernel
theorem dL_law_559 : decode cL_law 559 = .ok (.aload_n 1, 1) := by decide +kernel
theorem dL_law_560 : decode cL_law 560 = .ok (.invokevirtual 69, 3) := by decide +kernel
theorem dL_law_563 : decode cL_law 563 = .ok (.aload_n 2, 1) := by decide +kernel
theorem dL_law_564 : decode cL_law 564 = .ok (.invokevirtual 72, 3) := by decide +kernel
theorem dL_law_567 : decode cL_law 567 = .ok (.if_icmp .eq 707, 3) := by decide +kernel
theorem dL_law_570 : decode cL_law 570 = .ok (.iconst 0, 1) := by decide +kernel
theorem dL_law_571 : decode cL_law 571 = .ok (.ireturn, 1) := by decide +kernel
theorem dL_law_572 : decode cL_law 572 = .ok (.aload_n 1, 1) := by decide +kernel
theorem dL_law_573 : decode cL_law 573 = .ok (.aload_n 0, 1) := by decide +kernel
theorem dL_law_574 : decode cL_law 574 = .ok (.iload_n 3, 1) := by decide +kernel
theorem dL_law_575 : decode cL_law 575 = .ok (.iconst 1, 1) := by decide +kernel
theorem dL_law_576 : decode cL_law 576 = .ok (.iadd, 1) := by decide +kernel
theorem dL_law_577 : decode cL_law 577 = .ok (.iaload, 1) := by decide +kernel
theorem dL_law_578 : decode cL_law 578 = .ok (.invokevirtual 73, 3) := by decide +kernel
theorem dL_law_581 : decode cL_law 581 = .ok (.aload_n 2, 1) := by decide +kernel
theorem dL_law_582 : decode cL_law 582 = .ok (.aload_n 0, 1) := by decide +kernel
theorem dL_law_583 : decode cL_law 583 = .ok (.iload_n 3, 1) := by decide +kernel
theorem dL_law_584 : decode cL_law 584 = .ok (.iconst 1, 1) := by decide +kernel
theorem dL_law_585 : decode cL_law 585 = .ok (.iadd, 1) := by decide +kernel
theorem dL_law_586 : decode cL_law 586 = .ok (.iaload, 1) := by decide +kernel
theorem dL_law_587 : decode cL_law 587 = .ok (.invokevirtual 76, 3) := by decide +kernel
theorem dL_law_590 : decode cL_law 590 = .ok (.if_icmp .eq 684, 3) := by decide +kernel
theorem dL_law_593 : decode cL_law 593 = .ok (.iconst 0, 1) := by decide +kernel
theorem dL_law_594 : decode cL_law 594 = .ok (.ireturn, 1) := by decide +kernel
theorem dL_law_595 : decode cL_law 595 = .ok (.aload_n 1, 1) := by decide +kernel
theorem dL_law_596 : decode cL_law 596 = .ok (.aload_n 0, 1) := by decide +kernel
theorem dL_law_597 : decode cL_law 597 = .ok (.iload_n 3, 1) := by decide +kernel
theorem dL_law_598 : decode cL_law 598 = .ok (.iconst 1, 1) := by decide +kernel
theorem dL_law_599 : decode cL_law 599 = .ok (.iadd, 1) := by decide +kernel
theorem dL_law_600 : decode cL_law 600 = .ok (.iaload, 1) := by decide +kernel
theorem dL_law_601 : decode cL_law 601 = .ok (.aload_n 0, 1) := by decide +kernel
theorem dL_law_602 : decode cL_law 602 = .ok (.iload_n 3, 1) := by decide +kernel
theorem dL_law_603 : decode cL_law 603 = .ok (.iconst 2, 1) := by decide +kernel
theorem dL_law_604 : decode cL_law 604 = .ok (.iadd, 1) := by decide +kernel
theorem dL_law_605 : decode cL_law 605 = .ok (.iaload, 1) := by decide +kernel
theorem dL_law_606 : decode cL_law 606 = .ok (.invokevirtual 77, 3) := by decide +kernel
theorem dL_law_609 : decode cL_law 609 = .ok (.aload_n 2, 1) := by decide +kernel
theorem dL_law_610 : decode cL_law 610 = .ok (.aload_n 0, 1) := by decide +kernel
theorem dL_law_611 : decode cL_law 611 = .ok (.iload_n 3, 1) := by decide +kernel
theorem dL_law_612 : decode cL_law 612 = .ok (.iconst 1, 1) := by decide +kernel
theorem dL_law_613 : decode cL_law 613 = .ok (.iadd, 1) := by decide +kernel
theorem dL_law_614 : decode cL_law 614 = .ok (.iaload, 1) := by decide +kernel
theorem dL_law_615 : decode cL_law 615 = .ok (.aload_n 0, 1) := by decide +kernel
theorem dL_law_616 : decode cL_law 616 = .ok (.iload_n 3, 1) := by decide +kernel
theorem dL_law_617 : decode cL_law 617 = .ok (.iconst 2, 1) := by decide +kernel
theorem dL_law_618 : decode cL_law 618 = .ok (.iadd, 1) := by decide +kernel
theorem dL_law_619 : decode cL_law 619 = .ok (.iaload, 1) := by decide +kernel
theorem dL_law_620 : decode cL_law 620 = .ok (.invokevirtual 80, 3) := by decide +kernel
theorem dL_law_623 : decode cL_law 623 = .ok (.if_icmp .eq 651, 3) := by decide +kernel
theorem dL_law_626 : decode cL_law 626 = .ok (.iconst 0, 1) := by decide +kernel
theorem dL_law_627 : decode cL_law 627 = .ok (.ireturn, 1) := by decide +kernel
theorem dL_law_628 : decode cL_law 628 = .ok (.aload_n 1, 1) := by decide +kernel
theorem dL_law_629 : decode cL_law 629 = .ok (.aload_n 0, 1) := by decide +kernel
theorem dL_law_630 : decode cL_law 630 = .ok (.iload_n 3, 1) := by decide +kernel
theorem dL_law_631 : decode cL_law 631 = .ok (.iconst 1, 1) := by decide +kernel
theorem dL_law_632 : decode cL_law 632 = .ok (.iadd, 1) := by decide +kernel
theorem dL_law_633 : decode cL_law 633 = .ok (.iaload, 1) := by decide +kernel
theorem dL_law_634 : decode cL_law 634 = .ok (.invokevirtual 81, 3) := by decide +kernel
theorem dL_law_637 : decode cL_law 637 = .ok (.aload_n 2, 1) := by decide +kernel
theorem dL_law_638 : decode cL_law 638 = .ok (.aload_n 0, 1) := by decide +kernel
theorem dL_law_639 : decode cL_law 639 = .ok (.iload_n 3, 1) := by decide +kernel
theorem dL_law_640 : decode cL_law 640 = .ok (.iconst 1, 1) := by decide +kernel
theorem dL_law_641 : decode cL_law 641 = .ok (.iadd, 1) := by decide +kernel
theorem dL_law_642 : decode cL_law 642 = .ok (.iaload, 1) := by decide +kernel
theorem dL_law_643 : decode cL_law 643 = .ok (.invokevirtual 84, 3) := by decide +kernel
theorem dL_law_646 : decode cL_law 646 = .ok (.if_icmp .eq 628, 3) := by decide +kernel
theorem dL_law_649 : decode cL_law 649 = .ok (.iconst 0, 1) := by decide +kernel
theorem dL_law_650 : decode cL_law 650 = .ok (.ireturn, 1) := by decide +kernel
theorem dL_law_651 : decode cL_law 651 = .ok (.aload_n 1, 1) := by decide +kernel
theorem dL_law_652 : decode cL_law 652 = .ok (.aload_n 0, 1) := by decide +kernel
theorem dL_law_653 : decode cL_law 653 = .ok (.iload_n 3, 1) := by decide +kernel
theorem dL_law_654 : decode cL_law 654 = .ok (.iconst 1, 1) := by decide +kernel
theorem dL_law_655 : decode cL_law 655 = .ok (.iadd, 1) := by decide +kernel
theorem dL_law_656 : decode cL_law 656 = .ok (.iaload, 1) := by decide +kernel
theorem dL_law_657 : decode cL_law 657 = .ok (.aload_n 0, 1) := by decide +kernel
theorem dL_law_658 : decode cL_law 658 = .ok (.iload_n 3, 1) := by decide +kernel
theorem dL_law_659 : decode cL_law 659 = .ok (.iconst 2, 1) := by decide +kernel
theorem dL_law_660 : decode cL_law 660 = .ok (.iadd, 1) := by decide +kernel
theorem dL_law_661 : decode cL_law 661 = .ok (.iaload, 1) := by decide +kernel
theorem dL_law_662 : decode cL_law 662 = .ok (.invokevirtual 85, 3) := by decide +kernel
theorem dL_law_665 : decode cL_law 665 = .ok (.aload_n 2, 1) := by decide +kernel
theorem dL_law_666 : decode cL_law 666 = .ok (.aload_n 0, 1) := by decide +kernel
theorem dL_law_667 : decode cL_law 667 = .ok (.iload_n 3, 1) := by decide +kernel
theorem dL_law_668 : decode cL_law 668 = .ok (.iconst 1, 1) := by decide +kernel
theorem dL_law_669 : decode cL_law 669 = .ok (.iadd, 1) := by decide +kernel
theorem dL_law_670 : decode cL_law 670 = .ok (.iaload, 1) := by decide +kernel
theorem dL_law_671 : decode cL_law 671 = .ok (.aload_n 0, 1) := by decide +kernel
theorem dL_law_672 : decode cL_law 672 = .ok (.iload_n 3, 1) := by decide +kernel
theorem dL_law_673 : decode cL_law 673 = .ok (.iconst 2, 1) := by decide +kernel
theorem dL_law_674 : decode cL_law 674 = .ok (.iadd, 1) := by decide +kernel
theorem dL_law_675 : decode cL_law 675 = .ok (.iaload, 1) := by decide +kernel
theorem dL_law_676 : decode cL_law 676 = .ok (.invokevirtual 88, 3) := by decide +kernel
theorem dL_law_679 : decode cL_law 679 = .ok (.if_icmp .eq 595, 3) := by decide +kernel
theorem dL_law_682 : decode cL_law 682 = .ok (.iconst 0, 1) := by decide +kernel
theorem dL_law_683 : decode cL_law 683 = .ok (.ireturn, 1) := by decide +kernel
theorem dL_law_684 : decode cL_law 684 = .ok (.aload_n 1, 1) := by decide +kernel
theorem dL_law_685 : decode cL_law 685 = .ok (.aload_n 0, 1) := by decide +kernel
theorem dL_law_686 : decode cL_law 686 = .ok (.iload_n 3, 1) := by decide +kernel
theorem dL_law_687 : decode cL_law 687 = .ok (.iconst 1, 1) := by decide +kernel
theorem dL_law_688 : decode cL_law 688 = .ok (.iadd, 1) := by decide +kernel
theorem dL_law_689 : decode cL_law 689 = .ok (.iaload, 1) := by decide +kernel
theorem dL_law_690 : decode cL_law 690 = .ok (.invokevirtual 89, 3) := by decide +kernel
theorem dL_law_693 : decode cL_law 693 = .ok (.aload_n 2, 1) := by decide +kernel
theorem dL_law_694 : decode cL_law 694 = .ok (.aload_n 0, 1) := by decide +kernel
theorem dL_law_695 : decode cL_law 695 = .ok (.iload_n 3, 1) := by decide +kernel
theorem dL_law_696 : decode cL_law 696 = .ok (.iconst 1, 1) := by decide +kernel
theorem dL_law_697 : decode cL_law 697 = .ok (.iadd, 1) := by decide +kernel
theorem dL_law_698 : decode cL_law 698 = .ok (.iaload, 1) := by decide +kernel
theorem dL_law_699 : decode cL_law 699 = .ok (.invokevirtual 92, 3) := by decide +kernel
theorem dL_law_702 : decode cL_law 702 = .ok (.if_icmp .eq 572, 3) := by decide +kernel
theorem dL_law_705 : decode cL_law 705 = .ok (.iconst 0, 1) := by decide +kernel
theorem dL_law_706 : decode cL_law 706 = .ok (.ireturn, 1) := by decide +kernel
theorem dL_law_707 : decode cL_law 707 = .ok (.aload_n 1, 1) := by decide +kernel
theorem dL_law_708 : decode cL_law 708 = .ok (.aload_n 0, 1) := by decide +kernel
theorem dL_law_709 : decode cL_law 709 = .ok (.iload_n 3, 1) := by decide +kernel
theorem dL_law_710 : decode cL_law 710 = .ok (.iconst 1, 1) := by decide +kernel
theorem dL_law_711 : decode cL_law 711 = .ok (.iadd, 1) := by decide +kernel
theorem dL_law_712 : decode cL_law 712 = .ok (.iaload, 1) := by decide +kernel
theorem dL_law_713 : decode cL_law 713 = .ok (.aload_n 0, 1) := by decide +kernel
theorem dL_law_714 : decode cL_law 714 = .ok (.iload_n 3, 1) := by decide +kernel
theorem dL_law_715 : decode cL_law 715 = .ok (.iconst 2, 1) := by decide +kernel
theorem dL_law_716 : decode cL_law 716 = .ok (.iadd, 1) := by decide +kernel
theorem dL_law_717 : decode cL_law 717 = .ok (.iaload, 1) := by decide +kernel
theorem dL_law_718 : decode cL_law 718 = .ok (.invokevirtual 93, 3) := by decide +kernel
theorem dL_law_721 : decode cL_law 721 = .ok (.aload_n 2, 1) := by decide +kernel
theorem dL_law_722 : decode cL_law 722 = .ok (.aload_n 0, 1) := by decide +kernel
theorem dL_law_723 : decode cL_law 723 = .ok (.iload_n 3, 1) := by decide +kernel
theorem dL_law_724 : decode cL_law 724 = .ok (.iconst 1, 1) := by decide +kernel
theorem dL_law_725 : decode cL_law 725 = .ok (.iadd, 1) := by decide +kernel
theorem dL_law_726 : decode cL_law 726 = .ok (.iaload, 1) := by decide +kernel
theorem dL_law_727 : decode cL_law 727 = .ok (.aload_n 0, 1) := by decide +kernel
theorem dL_law_728 : decode cL_law 728 = .ok (.iload_n 3, 1) := by decide +kernel
theorem dL_law_729 : decode cL_law 729 = .ok (.iconst 2, 1) := by decide +kernel
theorem dL_law_730 : decode cL_law 730 = .ok (.iadd, 1) := by decide +kernel
theorem dL_law_731 : decode cL_law 731 = .ok (.iaload, 1) := by decide +kernel
theorem dL_law_732 : decode cL_law 732 = .ok (.invokevirtual 96, 3) := by decide +kernel
theorem dL_law_735 : decode cL_law 735 = .ok (.if_icmp .eq 539, 3) := by decide +kernel
theorem dL_law_738 : decode cL_law 738 = .ok (.iconst 0, 1) := by decide +kernel
theorem dL_law_739 : decode cL_law 739 = .ok (.ireturn, 1) := by decide +kernel
theorem dL_law_740 : decode cL_law 740 = .ok (.aload_n 1, 1) := by decide +kernel
theorem dL_law_741 : decode cL_law 741 = .ok (.aload_n 0, 1) := by decide +kernel
theorem dL_law_742 : decode cL_law 742 = .ok (.iload_n 3, 1) := by decide +kernel
theorem dL_law_743 : decode cL_law 743 = .ok (.iconst 1, 1) := by decide +kernel
theorem dL_law_744 : decode cL_law 744 = .ok (.iadd, 1) := by decide +kernel
theorem dL_law_745 : decode cL_law 745 = .ok (.iaload, 1) := by decide +kernel
theorem dL_law_746 : decode cL_law 746 = .ok (.aload_n 0, 1) := by decide +kernel
theorem dL_law_747 : decode cL_law 747 = .ok (.iload_n 3, 1) := by decide +kernel
theorem dL_law_748 : decode cL_law 748 = .ok (.iconst 2, 1) := by decide +kernel
theorem dL_law_749 : decode cL_law 749 = .ok (.iadd, 1) := by decide +kernel
theorem dL_law_750 : decode cL_law 750 = .ok (.iaload, 1) := by decide +kernel
theorem dL_law_751 : decode cL_law 751 = .ok (.invokevirtual 97, 3) := by decide +kernel
theorem dL_law_754 : decode cL_law 754 = .ok (.aload_n 2, 1) := by decide +kernel
theorem dL_law_755 : decode cL_law 755 = .ok (.aload_n 0, 1) := by decide +kernel
theorem dL_law_756 : decode cL_law 756 = .ok (.iload_n 3, 1) := by decide +kernel
theorem dL_law_757 : decode cL_law 757 = .ok (.iconst 1, 1) := by decide +kernel
theorem dL_law_758 : decode cL_law 758 = .ok (.iadd, 1) := by decide +kernel
theorem dL_law_759 : decode cL_law 759 = .ok (.iaload, 1) := by decide +kernel
theorem dL_law_760 : decode cL_law 760 = .ok (.aload_n 0, 1) := by decide +kernel
theorem dL_law_761 : decode cL_law 761 = .ok (.iload_n 3, 1) := by decide +kernel
theorem dL_law_762 : decode cL_law 762 = .ok (.iconst 2, 1) := by decide +kernel
theorem dL_law_763 : decode cL_law 763 = .ok (.iadd, 1) := by decide +kernel
theorem dL_law_764 : decode cL_law 764 = .ok (.iaload, 1) := by decide +kernel
theorem dL_law_765 : decode cL_law 765 = .ok (.invokevirtual 100, 3) := by decide +kernel
theorem dL_law_768 : decode cL_law 768 = .ok (.if_icmp .eq 506, 3) := by decide +kernel
theorem dL_law_771 : decode cL_law 771 = .ok (.iconst 0, 1) := by decide +kernel
theorem dL_law_772 : decode cL_law 772 = .ok (.ireturn, 1) := by decide +kernel
theorem dL_law_773 : decode cL_law 773 = .ok (.aload_n 1, 1) := by decide +kernel
theorem dL_law_774 : decode cL_law 774 = .ok (.aload_n 0, 1) := by decide +kernel
theorem dL_law_775 : decode cL_law 775 = .ok (.iload_n 3, 1) := by decide +kernel
theorem dL_law_776 : decode cL_law 776 = .ok (.iconst 1, 1) := by decide +kernel
theorem dL_law_777 : decode cL_law 777 = .ok (.iadd, 1) := by decide +kernel
theorem dL_law_778 : decode cL_law 778 = .ok (.iaload, 1) := by decide +kernel
theorem dL_law_779 : decode cL_law 779 = .ok (.invokevirtual 101, 3) := by decide +kernel
theorem dL_law_782 : decode cL_law 782 = .ok (.aload_n 2, 1) := by decide +kernel
theorem dL_law_783 : decode cL_law 783 = .ok (.aload_n 0, 1) := by decide +kernel
theorem dL_law_784 : decode cL_law 784 = .ok (.iload_n 3, 1) := by decide +kernel
theorem dL_law_785 : decode cL_law 785 = .ok (.iconst 1, 1) := by decide +kernel
theorem dL_law_786 : decode cL_law 786 = .ok (.iadd, 1) := by decide +kernel
theorem dL_law_787 : decode cL_law 787 = .ok (.iaload, 1) := by decide +kernel
theorem dL_law_788 : decode cL_law 788 = .ok (.invokevirtual 104, 3) := by decide +kernel
theorem dL_law_791 : decode cL_law 791 = .ok (.if_icmp .eq 483, 3) := by decide +kernel
theorem dL_law_794 : decode cL_law 794 = .ok (.iconst 0, 1) := by decide +kernel
theorem dL_law_795 : decode cL_law 795 = .ok (.ireturn, 1) := by decide +kernel
theorem dL_law_796 : decode cL_law 796 = .ok (.aload_n 1, 1) := by decide +kernel
theorem dL_law_797 : decode cL_law 797 = .ok (.aload_n 0, 1) := by decide +kernel
theorem dL_law_798 : decode cL_law 798 = .ok (.iload_n 3, 1) := by decide +kernel
theorem dL_law_799 : decode cL_law 799 = .ok (.iconst 1, 1) := by decide +kernel
theorem dL_law_800 : decode cL_law 800 = .ok (.iadd, 1) := by decide +kernel
theorem dL_law_801 : decode cL_law 801 = .ok (.iaload, 1) := by decide +kernel
theorem dL_law_802 : decode cL_law 802 = .ok (.invokevirtual 105, 3) := by decide +kernel
theorem dL_law_805 : decode cL_law 805 = .ok (.aload_n 2, 1) := by decide +kernel
theorem dL_law_806 : decode cL_law 806 = .ok (.aload_n 0, 1) := by decide +kernel
theorem dL_law_807 : decode cL_law 807 = .ok (.iload_n 3, 1) := by decide +kernel
theorem dL_law_808 : decode cL_law 808 = .ok (.iconst 1, 1) := by decide +kernel
theorem dL_law_809 : decode cL_law 809 = .ok (.iadd, 1) := by decide +kernel
theorem dL_law_810 : decode cL_law 810 = .ok (.iaload, 1) := by decide +kernel
theorem dL_law_811 : decode cL_law 811 = .ok (.invokevirtual 108, 3) := by decide +kernel
theorem dL_law_814 : decode cL_law 814 = .ok (.if_icmp .eq 460, 3) := by decide +kernel
theorem dL_law_817 : decode cL_law 817 = .ok (.iconst 0, 1) := by decide +kernel
theorem dL_law_818 : decode cL_law 818 = .ok (.ireturn, 1) := by decide +kernel
theorem dL_law_819 : decode cL_law 819 = .ok (.aload_n 1, 1) := by decide +kernel
theorem dL_law_820 : decode cL_law 820 = .ok (.aload_n 0, 1) := by decide +kernel
theorem dL_law_821 : decode cL_law 821 = .ok (.iload_n 3, 1) := by decide +kernel
theorem dL_law_822 : decode cL_law 822 = .ok (.iconst 1, 1) := by decide +kernel
theorem dL_law_823 : decode cL_law 823 = .ok (.iadd, 1) := by decide +kernel
theorem dL_law_824 : decode cL_law 824 = .ok (.iaload, 1) := by decide +kernel
theorem dL_law_825 : decode cL_law 825 = .ok (.invokevirtual 109, 3) := by decide +kernel
theorem dL_law_828 : decode cL_law 828 = .ok (.aload_n 2, 1) := by decide +kernel
theorem dL_law_829 : decode cL_law 829 = .ok (.aload_n 0, 1) := by decide +kernel
theorem dL_law_830 : decode cL_law 830 = .ok (.iload_n 3, 1) := by decide +kernel
theorem dL_law_831 : decode cL_law 831 = .ok (.iconst 1, 1) := by decide +kernel
theorem dL_law_832 : decode cL_law 832 = .ok (.iadd, 1) := by decide +kernel
theorem dL_law_833 : decode cL_law 833 = .ok (.iaload, 1) := by decide +kernel
theorem dL_law_834 : decode cL_law 834 = .ok (.invokevirtual 112, 3) := by decide +kernel
theorem dL_law_837 : decode cL_law 837 = .ok (.if_icmp .eq 437, 3) := by decide +kernel
theorem dL_law_840 : decode cL_law 840 = .ok (.iconst 0, 1) := by decide +kernel
theorem dL_law_841 : decode cL_law 841 = .ok (.ireturn, 1) := by decide +kernel
theorem dL_law_842 : decode cL_law 842 = .ok (.aload_n 1, 1) := by decide +kernel
theorem dL_law_843 : decode cL_law 843 = .ok (.aload_n 0, 1) := by decide +kernel
theorem dL_law_844 : decode cL_law 844 = .ok (.iload_n 3, 1) := by decide +kernel
theorem dL_law_845 : decode cL_law 845 = .ok (.iconst 1, 1) := by decide +kernel
theorem dL_law_846 : decode cL_law 846 = .ok (.iadd, 1) := by decide +kernel
theorem dL_law_847 : decode cL_law 847 = .ok (.iaload, 1) := by decide +kernel
theorem dL_law_848 : decode cL_law 848 = .ok (.aload_n 0, 1) := by decide +kernel
theorem dL_law_849 : decode cL_law 849 = .ok (.iload_n 3, 1) := by decide +kernel
theorem dL_law_850 : decode cL_law 850 = .ok (.iconst 2, 1) := by decide +kernel
theorem dL_law_851 : decode cL_law 851 = .ok (.iadd, 1) := by decide +kernel
theorem dL_law_852 : decode cL_law 852 = .ok (.iaload, 1) := by decide +kernel
theorem dL_law_853 : decode cL_law 853 = .ok (.aload_n 0, 1) := by decide +kernel
theorem dL_law_854 : decode cL_law 854 = .ok (.iload_n 3, 1) := by decide +kernel
theorem dL_law_855 : decode cL_law 855 = .ok (.iconst 3, 1) := by decide +kernel
theorem dL_law_856 : decode cL_law 856 = .ok (.iadd, 1) := by decide +kernel
theorem dL_law_857 : decode cL_law 857 = .ok (.iaload, 1) := by decide +kernel
theorem dL_law_858 : decode cL_law 858 = .ok (.invokevirtual 113, 3) := by decide +kernel
theorem dL_law_861 : decode cL_law 861 = .ok (.aload_n 2, 1) := by decide +kernel
theorem dL_law_862 : decode cL_law 862 = .ok (.aload_n 0, 1) := by decide +kernel
theorem dL_law_863 : decode cL_law 863 = .ok (.iload_n 3, 1) := by decide +kernel
theorem dL_law_864 : decode cL_law 864 = .ok (.iconst 1, 1) := by decide +kernel
theorem dL_law_865 : decode cL_law 865 = .ok (.iadd, 1) := by decide +kernel
theorem dL_law_866 : decode cL_law 866 = .ok (.iaload, 1) := by decide +kernel
theorem dL_law_867 : decode cL_law 867 = .ok (.aload_n 0, 1) := by decide +kernel
theorem dL_law_868 : decode cL_law 868 = .ok (.iload_n 3, 1) := by decide +kernel
theorem dL_law_869 : decode cL_law 869 = .ok (.iconst 2, 1) := by decide +kernel
theorem dL_law_870 : decode cL_law 870 = .ok (.iadd, 1) := by decide +kernel
theorem dL_law_871 : decode cL_law 871 = .ok (.iaload, 1) := by decide +kernel
theorem dL_law_872 : decode cL_law 872 = .ok (.aload_n 0, 1) := by decide +kernel
theorem dL_law_873 : decode cL_law 873 = .ok (.iload_n 3, 1) := by decide +kernel
theorem dL_law_874 : decode cL_law 874 = .ok (.iconst 3, 1) := by decide +kernel
theorem dL_law_875 : decode cL_law 875 = .ok (.iadd, 1) := by decide +kernel
theorem dL_law_876 : decode cL_law 876 = .ok (.iaload, 1) := by decide +kernel
theorem dL_law_877 : decode cL_law 877 = .ok (.invokevirtual 117, 3) := by decide +kernel
theorem dL_law_880 : decode cL_law 880 = .ok (.lcmp, 1) := by decide +kernel
theorem dL_law_881 : decode cL_law 881 = .ok (.ifCond .eq 393, 3) := by decide +kernel
theorem dL_law_884 : decode cL_law 884 = .ok (.iconst 0, 1) := by decide +kernel
theorem dL_law_885 : decode cL_law 885 = .ok (.ireturn, 1) := by decide +kernel
theorem dL_law_886 : decode cL_law 886 = .ok (.aload_n 1, 1) := by decide +kernel
theorem dL_law_887 : decode cL_law 887 = .ok (.invokevirtual 118, 3) := by decide +kernel
theorem dL_law_890 : decode cL_law 890 = .ok (.aload_n 2, 1) := by decide +kernel
theorem dL_law_891 : decode cL_law 891 = .ok (.invokevirtual 121, 3) := by decide +kernel
theorem dL_law_894 : decode cL_law 894 = .ok (.if_icmp .eq 380, 3) := by decide +kernel
theorem dL_law_897 : decode cL_law 897 = .ok (.iconst 0, 1) := by decide +kernel
theorem dL_law_898 : decode cL_law 898 = .ok (.ireturn, 1) := by decide +kernel
theorem dL_law_899 : decode cL_law 899 = .ok (.aload_n 1, 1) := by decide +kernel
theorem dL_law_900 : decode cL_law 900 = .ok (.invokevirtual 122, 3) := by decide +kernel
theorem dL_law_903 : decode cL_law 903 = .ok (.aload_n 2, 1) := by decide +kernel
theorem dL_law_904 : decode cL_law 904 = .ok (.invokevirtual 125, 3) := by decide +kernel
theorem dL_law_907 : decode cL_law 907 = .ok (.if_icmp .eq 367, 3) := by decide +kernel
theorem dL_law_910 : decode cL_law 910 = .ok (.iconst 0, 1) := by decide +kernel
theorem dL_law_911 : decode cL_law 911 = .ok (.ireturn, 1) := by decide +kernel
theorem dL_law_912 : decode cL_law 912 = .ok (.aload_n 1, 1) := by decide +kernel
theorem dL_law_913 : decode cL_law 913 = .ok (.aload_n 0, 1) := by decide +kernel
theorem dL_law_914 : decode cL_law 914 = .ok (.iload_n 3, 1) := by decide +kernel
theorem dL_law_915 : decode cL_law 915 = .ok (.iconst 1, 1) := by decide +kernel
theorem dL_law_916 : decode cL_law 916 = .ok (.iadd, 1) := by decide +kernel
theorem dL_law_917 : decode cL_law 917 = .ok (.iaload, 1) := by decide +kernel
theorem dL_law_918 : decode cL_law 918 = .ok (.aload_n 0, 1) := by decide +kernel
theorem dL_law_919 : decode cL_law 919 = .ok (.iload_n 3, 1) := by decide +kernel
theorem dL_law_920 : decode cL_law 920 = .ok (.iconst 2, 1) := by decide +kernel
theorem dL_law_921 : decode cL_law 921 = .ok (.iadd, 1) := by decide +kernel
theorem dL_law_922 : decode cL_law 922 = .ok (.iaload, 1) := by decide +kernel
theorem dL_law_923 : decode cL_law 923 = .ok (.aload_n 0, 1) := by decide +kernel
theorem dL_law_924 : decode cL_law 924 = .ok (.iload_n 3, 1) := by decide +kernel
theorem dL_law_925 : decode cL_law 925 = .ok (.iconst 3, 1) := by decide +kernel
theorem dL_law_926 : decode cL_law 926 = .ok (.iadd, 1) := by decide +kernel
theorem dL_law_927 : decode cL_law 927 = .ok (.iaload, 1) := by decide +kernel
theorem dL_law_928 : decode cL_law 928 = .ok (.aload_n 0, 1) := by decide +kernel
theorem dL_law_929 : decode cL_law 929 = .ok (.iload_n 3, 1) := by decide +kernel
theorem dL_law_930 : decode cL_law 930 = .ok (.iconst 4, 1) := by decide +kernel
theorem dL_law_931 : decode cL_law 931 = .ok (.iadd, 1) := by decide +kernel
theorem dL_law_932 : decode cL_law 932 = .ok (.iaload, 1) := by decide +kernel
theorem dL_law_933 : decode cL_law 933 = .ok (.aload_n 0, 1) := by decide +kernel
theorem dL_law_934 : decode cL_law 934 = .ok (.iload_n 3, 1) := by decide +kernel
theorem dL_law_935 : decode cL_law 935 = .ok (.iconst 5, 1) := by decide +kernel
theorem dL_law_936 : decode cL_law 936 = .ok (.iadd, 1) := by decide +kernel
theorem dL_law_937 : decode cL_law 937 = .ok (.iaload, 1) := by decide +kernel
theorem dL_law_938 : decode cL_law 938 = .ok (.aload_n 0, 1) := by decide +kernel
theorem dL_law_939 : decode cL_law 939 = .ok (.iload_n 3, 1) := by decide +kernel
theorem dL_law_940 : decode cL_law 940 = .ok (.bipush 6, 2) := by decide +kernel
theorem dL_law_942 : decode cL_law 942 = .ok (.iadd, 1) := by decide +kernel
theorem dL_law_943 : decode cL_law 943 = .ok (.iaload, 1) := by decide +kernel
theorem dL_law_944 : decode cL_law 944 = .ok (.aload_n 0, 1) := by decide +kernel
theorem dL_law_945 : decode cL_law 945 = .ok (.iload_n 3, 1) := by decide +kernel
theorem dL_law_946 : decode cL_law 946 = .ok (.bipush 7, 2) := by decide +kernel
theorem dL_law_948 : decode cL_law 948 = .ok (.iadd, 1) := by decide +kernel
theorem dL_law_949 : decode cL_law 949 = .ok (.iaload, 1) := by decide +kernel
theorem dL_law_950 : decode cL_law 950 = .ok (.invokevirtual 126, 3) := by decide +kernel
theorem dL_law_953 : decode cL_law 953 = .ok (.aload_n 2, 1) := by decide +kernel
theorem dL_law_954 : decode cL_law 954 = .ok (.aload_n 0, 1) := by decide +kernel
theorem dL_law_955 : decode cL_law 955 = .ok (.iload_n 3, 1) := by decide +kernel
theorem dL_law_956 : decode cL_law 956 = .ok (.iconst 1, 1) := by decide +kernel
theorem dL_law_957 : decode cL_law 957 = .ok (.iadd, 1) := by decide +kernel
theorem dL_law_958 : decode cL_law 958 = .ok (.iaload, 1) := by decide +kernel
theorem dL_law_959 : decode cL_law 959 = .ok (.aload_n 0, 1) := by decide +kernel
theorem dL_law_960 : decode cL_law 960 = .ok (.iload_n 3, 1) := by decide +kernel
theorem dL_law_961 : decode cL_law 961 = .ok (.iconst 2, 1) := by decide +kernel
theorem dL_law_962 : decode cL_law 962 = .ok (.iadd, 1) := by decide +kernel
theorem dL_law_963 : decode cL_law 963 = .ok (.iaload, 1) := by decide +kernel
theorem dL_law_964 : decode cL_law 964 = .ok (.aload_n 0, 1) := by decide +kernel
theorem dL_law_965 : decode cL_law 965 = .ok (.iload_n 3, 1) := by decide +kernel
theorem dL_law_966 : decode cL_law 966 = .ok (.iconst 3, 1) := by decide +kernel
theorem dL_law_967 : decode cL_law 967 = .ok (.iadd, 1) := by decide +kernel
theorem dL_law_968 : decode cL_law 968 = .ok (.iaload, 1) := by decide +kernel
theorem dL_law_969 : decode cL_law 969 = .ok (.aload_n 0, 1) := by decide +kernel
theorem dL_law_970 : decode cL_law 970 = .ok (.iload_n 3, 1) := by decide +kernel
theorem dL_law_971 : decode cL_law 971 = .ok (.iconst 4, 1) := by decide +kernel
theorem dL_law_972 : decode cL_law 972 = .ok (.iadd, 1) := by decide +kernel
theorem dL_law_973 : decode cL_law 973 = .ok (.iaload, 1) := by decide +kernel
theorem dL_law_974 : decode cL_law 974 = .ok (.aload_n 0, 1) := by decide +kernel
theorem dL_law_975 : decode cL_law 975 = .ok (.iload_n 3, 1) := by decide +kernel
theorem dL_law_976 : decode cL_law 976 = .ok (.iconst 5, 1) := by decide +kernel
theorem dL_law_977 : decode cL_law 977 = .ok (.iadd, 1) := by decide +kernel
theorem dL_law_978 : decode cL_law 978 = .ok (.iaload, 1) := by decide +kernel
theorem dL_law_979 : decode cL_law 979 = .ok (.aload_n 0, 1) := by decide +kernel
theorem dL_law_980 : decode cL_law 980 = .ok (.iload_n 3, 1) := by decide +kernel
theorem dL_law_981 : decode cL_law 981 = .ok (.bipush 6, 2) := by decide +kernel
theorem dL_law_983 : decode cL_law 983 = .ok (.iadd, 1) := by decide +kernel
theorem dL_law_984 : decode cL_law 984 = .ok (.iaload, 1) := by decide +kernel
theorem dL_law_985 : decode cL_law 985 = .ok (.aload_n 0, 1) := by decide +kernel
theorem dL_law_986 : decode cL_law 986 = .ok (.iload_n 3, 1) := by decide +kernel
theorem dL_law_987 : decode cL_law 987 = .ok (.bipush 7, 2) := by decide +kernel
theorem dL_law_989 : decode cL_law 989 = .ok (.iadd, 1) := by decide +kernel
theorem dL_law_990 : decode cL_law 990 = .ok (.iaload, 1) := by decide +kernel
theorem dL_law_991 : decode cL_law 991 = .ok (.invokevirtual 130, 3) := by decide +kernel
theorem dL_law_994 : decode cL_law 994 = .ok (.if_icmp .eq 280, 3) := by decide +kernel
theorem dL_law_997 : decode cL_law 997 = .ok (.iconst 0, 1) := by decide +kernel
theorem dL_law_998 : decode cL_law 998 = .ok (.ireturn, 1) := by decide +kernel
theorem dL_law_999 : decode cL_law 999 = .ok (.aload_n 1, 1) := by decide +kernel
theorem dL_law_1000 : decode cL_law 1000 = .ok (.aload_n 0, 1) := by decide +kernel
theorem dL_law_1001 : decode cL_law 1001 = .ok (.iload_n 3, 1) := by decide +kernel
theorem dL_law_1002 : decode cL_law 1002 = .ok (.iconst 1, 1) := by decide +kernel
theorem dL_law_1003 : decode cL_law 1003 = .ok (.iadd, 1) := by decide +kernel
theorem dL_law_1004 : decode cL_law 1004 = .ok (.iaload, 1) := by decide +kernel
theorem dL_law_1005 : decode cL_law 1005 = .ok (.aload_n 0, 1) := by decide +kernel
theorem dL_law_1006 : decode cL_law 1006 = .ok (.iload_n 3, 1) := by decide +kernel
theorem dL_law_1007 : decode cL_law 1007 = .ok (.iconst 2, 1) := by decide +kernel
theorem dL_law_1008 : decode cL_law 1008 = .ok (.iadd, 1) := by decide +kernel
theorem dL_law_1009 : decode cL_law 1009 = .ok (.iaload, 1) := by decide +kernel
theorem dL_law_1010 : decode cL_law 1010 = .ok (.aload_n 0, 1) := by decide +kernel
theorem dL_law_1011 : decode cL_law 1011 = .ok (.iload_n 3, 1) := by decide +kernel
theorem dL_law_1012 : decode cL_law 1012 = .ok (.iconst 3, 1) := by decide +kernel
theorem dL_law_1013 : decode cL_law 1013 = .ok (.iadd, 1) := by decide +kernel
theorem dL_law_1014 : decode cL_law 1014 = .ok (.iaload, 1) := by decide +kernel
theorem dL_law_1015 : decode cL_law 1015 = .ok (.aload_n 0, 1) := by decide +kernel
theorem dL_law_1016 : decode cL_law 1016 = .ok (.iload_n 3, 1) := by decide +kernel
theorem dL_law_1017 : decode cL_law 1017 = .ok (.iconst 4, 1) := by decide +kernel
theorem dL_law_1018 : decode cL_law 1018 = .ok (.iadd, 1) := by decide +kernel
theorem dL_law_1019 : decode cL_law 1019 = .ok (.iaload, 1) := by decide +kernel
theorem dL_law_1020 : decode cL_law 1020 = .ok (.aload_n 0, 1) := by decide +kernel
theorem dL_law_1021 : decode cL_law 1021 = .ok (.iload_n 3, 1) := by decide +kernel
theorem dL_law_1022 : decode cL_law 1022 = .ok (.iconst 5, 1) := by decide +kernel
theorem dL_law_1023 : decode cL_law 1023 = .ok (.iadd, 1) := by decide +kernel
theorem dL_law_1024 : decode cL_law 1024 = .ok (.iaload, 1) := by decide +kernel
theorem dL_law_1025 : decode cL_law 1025 = .ok (.invokevirtual 131, 3) := by decide +kernel
theorem dL_law_1028 : decode cL_law 1028 = .ok (.aload_n 2, 1) := by decide +kernel
theorem dL_law_1029 : decode cL_law 1029 = .ok (.aload_n 0, 1) := by decide +kernel
theorem dL_law_1030 : decode cL_law 1030 = .ok (.iload_n 3, 1) := by decide +kernel
theorem dL_law_1031 : decode cL_law 1031 = .ok (.iconst 1, 1) := by decide +kernel
theorem dL_law_1032 : decode cL_law 1032 = .ok (.iadd, 1) := by decide +kernel
theorem dL_law_1033 : decode cL_law 1033 = .ok (.iaload, 1) := by decide +kernel
theorem dL_law_1034 : decode cL_law 1034 = .ok (.aload_n 0, 1) := by decide +kernel
theorem dL_law_1035 : decode cL_law 1035 = .ok (.iload_n 3, 1) := by decide +kernel
theorem dL_law_1036 : decode cL_law 1036 = .ok (.iconst 2, 1) := by decide +kernel
theorem dL_law_1037 : decode cL_law 1037 = .ok (.iadd, 1) := by decide +kernel
theorem dL_law_1038 : decode cL_law 1038 = .ok (.iaload, 1) := by decide +kernel
theorem dL_law_1039 : decode cL_law 1039 = .ok (.aload_n 0, 1) := by decide +kernel
theorem dL_law_1040 : decode cL_law 1040 = .ok (.iload_n 3, 1) := by decide +kernel
theorem dL_law_1041 : decode cL_law 1041 = .ok (.iconst 3, 1) := by decide +kernel
theorem dL_law_1042 : decode cL_law 1042 = .ok (.iadd, 1) := by decide +kernel
theorem dL_law_1043 : decode cL_law 1043 = .ok (.iaload, 1) := by decide +kernel
theorem dL_law_1044 : decode cL_law 1044 = .ok (.aload_n 0, 1) := by decide +kernel
theorem dL_law_1045 : decode cL_law 1045 = .ok (.iload_n 3, 1) := by decide +kernel
theorem dL_law_1046 : decode cL_law 1046 = .ok (.iconst 4, 1) := by decide +kernel
theorem dL_law_1047 : decode cL_law 1047 = .ok (.iadd, 1) := by decide +kernel
theorem dL_law_1048 : decode cL_law 1048 = .ok (.iaload, 1) := by decide +kernel
theorem dL_law_1049 : decode cL_law 1049 = .ok (.aload_n 0, 1) := by decide +kernel
theorem dL_law_1050 : decode cL_law 1050 = .ok (.iload_n 3, 1) := by decide +kernel
theorem dL_law_1051 : decode cL_law 1051 = .ok (.iconst 5, 1) := by decide +kernel
theorem dL_law_1052 : decode cL_law 1052 = .ok (.iadd, 1) := by decide +kernel
theorem dL_law_1053 : decode cL_law 1053 = .ok (.iaload, 1) := by decide +kernel
theorem dL_law_1054 : decode cL_law 1054 = .ok (.invokevirtual 135, 3) := by decide +kernel
theorem dL_law_1057 : decode cL_law 1057 = .ok (.if_icmp .eq 217, 3) := by decide +kernel
theorem dL_law_1060 : decode cL_law 1060 = .ok (.iconst 0, 1) := by decide +kernel
theorem dL_law_1061 : decode cL_law 1061 = .ok (.ireturn, 1) := by decide +kernel
theorem dL_law_1062 : decode cL_law 1062 = .ok (.aload_n 1, 1) := by decide +kernel
theorem dL_law_1063 : decode cL_law 1063 = .ok (.aload_n 0, 1) := by decide +kernel
theorem dL_law_1064 : decode cL_law 1064 = .ok (.iload_n 3, 1) := by decide +kernel
theorem dL_law_1065 : decode cL_law 1065 = .ok (.iconst 1, 1) := by decide +kernel
theorem dL_law_1066 : decode cL_law 1066 = .ok (.iadd, 1) := by decide +kernel
theorem dL_law_1067 : decode cL_law 1067 = .ok (.iaload, 1) := by decide +kernel
theorem dL_law_1068 : decode cL_law 1068 = .ok (.aload_n 0, 1) := by decide +kernel
theorem dL_law_1069 : decode cL_law 1069 = .ok (.iload_n 3, 1) := by decide +kernel
theorem dL_law_1070 : decode cL_law 1070 = .ok (.iconst 2, 1) := by decide +kernel
theorem dL_law_1071 : decode cL_law 1071 = .ok (.iadd, 1) := by decide +kernel
theorem dL_law_1072 : decode cL_law 1072 = .ok (.iaload, 1) := by decide +kernel
theorem dL_law_1073 : decode cL_law 1073 = .ok (.aload_n 0, 1) := by decide +kernel
theorem dL_law_1074 : decode cL_law 1074 = .ok (.iload_n 3, 1) := by decide +kernel
theorem dL_law_1075 : decode cL_law 1075 = .ok (.iconst 3, 1) := by decide +kernel
theorem dL_law_1076 : decode cL_law 1076 = .ok (.iadd, 1) := by decide +kernel
theorem dL_law_1077 : decode cL_law 1077 = .ok (.iaload, 1) := by decide +kernel
theorem dL_law_1078 : decode cL_law 1078 = .ok (.invokevirtual 136, 3) := by decide +kernel
theorem dL_law_1081 : decode cL_law 1081 = .ok (.aload_n 2, 1) := by decide +kernel
theorem dL_law_1082 : decode cL_law 1082 = .ok (.aload_n 0, 1) := by decide +kernel
theorem dL_law_1083 : decode cL_law 1083 = .ok (.iload_n 3, 1) := by decide +kernel
theorem dL_law_1084 : decode cL_law 1084 = .ok (.iconst 1, 1) := by decide +kernel
theorem dL_law_1085 : decode cL_law 1085 = .ok (.iadd, 1) := by decide +kernel
theorem dL_law_1086 : decode cL_law 1086 = .ok (.iaload, 1) := by decide +kernel
theorem dL_law_1087 : decode cL_law 1087 = .ok (.aload_n 0, 1) := by decide +kernel
theorem dL_law_1088 : decode cL_law 1088 = .ok (.iload_n 3, 1) := by decide +kernel
theorem dL_law_1089 : decode cL_law 1089 = .ok (.iconst 2, 1) := by decide +kernel
theorem dL_law_1090 : decode cL_law 1090 = .ok (.iadd, 1) := by decide +kernel
theorem dL_law_1091 : decode cL_law 1091 = .ok (.iaload, 1) := by decide +kernel
theorem dL_law_1092 : decode cL_law 1092 = .ok (.aload_n 0, 1) := by decide +kernel
theorem dL_law_1093 : decode cL_law 1093 = .ok (.iload_n 3, 1) := by decide +kernel
theorem dL_law_1094 : decode cL_law 1094 = .ok (.iconst 3, 1) := by decide +kernel
theorem dL_law_1095 : decode cL_law 1095 = .ok (.iadd, 1) := by decide +kernel
theorem dL_law_1096 : decode cL_law 1096 = .ok (.iaload, 1) := by decide +kernel
theorem dL_law_1097 : decode cL_law 1097 = .ok (.invokevirtual 139, 3) := by decide +kernel
theorem dL_law_1100 : decode cL_law 1100 = .ok (.if_icmp .eq 174, 3) := by decide +kernel
theorem dL_law_1103 : decode cL_law 1103 = .ok (.iconst 0, 1) := by decide +kernel
theorem dL_law_1104 : decode cL_law 1104 = .ok (.ireturn, 1) := by decide +kernel
theorem dL_law_1105 : decode cL_law 1105 = .ok (.aload_n 1, 1) := by decide +kernel
theorem dL_law_1106 : decode cL_law 1106 = .ok (.aload_n 0, 1) := by decide +kernel
theorem dL_law_1107 : decode cL_law 1107 = .ok (.iload_n 3, 1) := by decide +kernel
theorem dL_law_1108 : decode cL_law 1108 = .ok (.iconst 1, 1) := by decide +kernel
theorem dL_law_1109 : decode cL_law 1109 = .ok (.iadd, 1) := by decide +kernel
theorem dL_law_1110 : decode cL_law 1110 = .ok (.iaload, 1) := by decide +kernel
theorem dL_law_1111 : decode cL_law 1111 = .ok (.invokevirtual 140, 3) := by decide +kernel
theorem dL_law_1114 : decode cL_law 1114 = .ok (.aload_n 2, 1) := by decide +kernel
theorem dL_law_1115 : decode cL_law 1115 = .ok (.aload_n 0, 1) := by decide +kernel
theorem dL_law_1116 : decode cL_law 1116 = .ok (.iload_n 3, 1) := by decide +kernel
theorem dL_law_1117 : decode cL_law 1117 = .ok (.iconst 1, 1) := by decide +kernel
theorem dL_law_1118 : decode cL_law 1118 = .ok (.iadd, 1) := by decide +kernel
theorem dL_law_1119 : decode cL_law 1119 = .ok (.iaload, 1) := by decide +kernel
theorem dL_law_1120 : decode cL_law 1120 = .ok (.invokevirtual 143, 3) := by decide +kernel
theorem dL_law_1123 : decode cL_law 1123 = .ok (.if_icmp .eq 151, 3) := by decide +kernel
theorem dL_law_1126 : decode cL_law 1126 = .ok (.iconst 0, 1) := by decide +kernel
theorem dL_law_1127 : decode cL_law 1127 = .ok (.ireturn, 1) := by decide +kernel
theorem dL_law_1128 : decode cL_law 1128 = .ok (.aload_n 1, 1) := by decide +kernel
theorem dL_law_1129 : decode cL_law 1129 = .ok (.aload_n 0, 1) := by decide +kernel
theorem dL_law_1130 : decode cL_law 1130 = .ok (.iload_n 3, 1) := by decide +kernel
theorem dL_law_1131 : decode cL_law 1131 = .ok (.iconst 1, 1) := by decide +kernel
theorem dL_law_1132 : decode cL_law 1132 = .ok (.iadd, 1) := by decide +kernel
theorem dL_law_1133 : decode cL_law 1133 = .ok (.iaload, 1) := by decide +kernel
theorem dL_law_1134 : decode cL_law 1134 = .ok (.aload_n 0, 1) := by decide +kernel
theorem dL_law_1135 : decode cL_law 1135 = .ok (.iload_n 3, 1) := by decide +kernel
theorem dL_law_1136 : decode cL_law 1136 = .ok (.iconst 2, 1) := by decide +kernel
theorem dL_law_1137 : decode cL_law 1137 = .ok (.iadd, 1) := by decide +kernel
theorem dL_law_1138 : decode cL_law 1138 = .ok (.iaload, 1) := by decide +kernel
theorem dL_law_1139 : decode cL_law 1139 = .ok (.aload_n 0, 1) := by decide +kernel
theorem dL_law_1140 : decode cL_law 1140 = .ok (.iload_n 3, 1) := by decide +kernel
theorem dL_law_1141 : decode cL_law 1141 = .ok (.iconst 3, 1) := by decide +kernel
theorem dL_law_1142 : decode cL_law 1142 = .ok (.iadd, 1) := by decide +kernel
theorem dL_law_1143 : decode cL_law 1143 = .ok (.iaload, 1) := by decide +kernel
theorem dL_law_1144 : decode cL_law 1144 = .ok (.aload_n 0, 1) := by decide +kernel
theorem dL_law_1145 : decode cL_law 1145 = .ok (.iload_n 3, 1) := by decide +kernel
theorem dL_law_1146 : decode cL_law 1146 = .ok (.iconst 4, 1) := by decide +kernel
theorem dL_law_1147 : decode cL_law 1147 = .ok (.iadd, 1) := by decide +kernel
theorem dL_law_1148 : decode cL_law 1148 = .ok (.iaload, 1) := by decide +kernel
theorem dL_law_1149 : decode cL_law 1149 = .ok (.i2l, 1) := by decide +kernel
theorem dL_law_1150 : decode cL_law 1150 = .ok (.bipush 32, 2) := by decide +kernel
theorem dL_law_1152 : decode cL_law 1152 = .ok (.lshl, 1) := by decide +kernel
theorem dL_law_1153 : decode cL_law 1153 = .ok (.aload_n 0, 1) := by decide +kernel
theorem dL_law_1154 : decode cL_law 1154 = .ok (.iload_n 3, 1) := by decide +kernel
theorem dL_law_1155 : decode cL_law 1155 = .ok (.iconst 5, 1) := by decide +kernel
theorem dL_law_1156 : decode cL_law 1156 = .ok (.iadd, 1) := by decide +kernel
theorem dL_law_1157 : decode cL_law 1157 = .ok (.iaload, 1) := by decide +kernel
theorem dL_law_1158 : decode cL_law 1158 = .ok (.i2l, 1) := by decide +kernel
theorem dL_law_1159 : decode cL_law 1159 = .ok (.ldc2_w 144, 3) := by decide +kernel
theorem dL_law_1162 : decode cL_law 1162 = .ok (.land, 1) := by decide +kernel
theorem dL_law_1163 : decode cL_law 1163 = .ok (.lor, 1) := by decide +kernel
theorem dL_law_1164 : decode cL_law 1164 = .ok (.invokevirtual 146, 3) := by decide +kernel
theorem dL_law_1167 : decode cL_law 1167 = .ok (.aload_n 2, 1) := by decide +kernel
theorem dL_law_1168 : decode cL_law 1168 = .ok (.aload_n 0, 1) := by decide +kernel
theorem dL_law_1169 : decode cL_law 1169 = .ok (.iload_n 3, 1) := by decide +kernel
theorem dL_law_1170 : decode cL_law 1170 = .ok (.iconst 1, 1) := by decide +kernel
theorem dL_law_1171 : decode cL_law 1171 = .ok (.iadd, 1) := by decide +kernel
theorem dL_law_1172 : decode cL_law 1172 = .ok (.iaload, 1) := by decide +kernel
theorem dL_law_1173 : decode cL_law 1173 = .ok (.aload_n 0, 1) := by decide +kernel
theorem dL_law_1174 : decode cL_law 1174 = .ok (.iload_n 3, 1) := by decide +kernel
theorem dL_law_1175 : decode cL_law 1175 = .ok (.iconst 2, 1) := by decide +kernel
theorem dL_law_1176 : decode cL_law 1176 = .ok (.iadd, 1) := by decide +kernel
theorem dL_law_1177 : decode cL_law 1177 = .ok (.iaload, 1) := by decide +kernel
theorem dL_law_1178 : decode cL_law 1178 = .ok (.aload_n 0, 1) := by decide +kernel
theorem dL_law_1179 : decode cL_law 1179 = .ok (.iload_n 3, 1) := by decide +kernel
theorem dL_law_1180 : decode cL_law 1180 = .ok (.iconst 3, 1) := by decide +kernel
theorem dL_law_1181 : decode cL_law 1181 = .ok (.iadd, 1) := by decide +kernel
theorem dL_law_1182 : decode cL_law 1182 = .ok (.iaload, 1) := by decide +kernel
theorem dL_law_1183 : decode cL_law 1183 = .ok (.aload_n 0, 1) := by decide +kernel
theorem dL_law_1184 : decode cL_law 1184 = .ok (.iload_n 3, 1) := by decide +kernel
theorem dL_law_1185 : decode cL_law 1185 = .ok (.iconst 4, 1) := by decide +kernel
theorem dL_law_1186 : decode cL_law 1186 = .ok (.iadd, 1) := by decide +kernel
theorem dL_law_1187 : decode cL_law 1187 = .ok (.iaload, 1) := by decide +kernel
theorem dL_law_1188 : decode cL_law 1188 = .ok (.i2l, 1) := by decide +kernel
theorem dL_law_1189 : decode cL_law 1189 = .ok (.bipush 32, 2) := by decide +kernel
theorem dL_law_1191 : decode cL_law 1191 = .ok (.lshl, 1) := by decide +kernel
theorem dL_law_1192 : decode cL_law 1192 = .ok (.aload_n 0, 1) := by decide +kernel
theorem dL_law_1193 : decode cL_law 1193 = .ok (.iload_n 3, 1) := by decide +kernel
theorem dL_law_1194 : decode cL_law 1194 = .ok (.iconst 5, 1) := by decide +kernel
theorem dL_law_1195 : decode cL_law 1195 = .ok (.iadd, 1) := by decide +kernel
theorem dL_law_1196 : decode cL_law 1196 = .ok (.iaload, 1) := by decide +kernel
theorem dL_law_1197 : decode cL_law 1197 = .ok (.i2l, 1) := by decide +kernel
theorem dL_law_1198 : decode cL_law 1198 = .ok (.ldc2_w 144, 3) := by decide +kernel
theorem dL_law_1201 : decode cL_law 1201 = .ok (.land, 1) := by decide +kernel
theorem dL_law_1202 : decode cL_law 1202 = .ok (.lor, 1) := by decide +kernel
theorem dL_law_1203 : decode cL_law 1203 = .ok (.invokevirtual 150, 3) := by decide +kernel
theorem dL_law_1206 : decode cL_law 1206 = .ok (.if_icmp .eq 68, 3) := by decide +kernel
theorem dL_law_1209 : decode cL_law 1209 = .ok (.iconst 0, 1) := by decide +kernel
theorem dL_law_1210 : decode cL_law 1210 = .ok (.ireturn, 1) := by decide +kernel
theorem dL_law_1211 : decode cL_law 1211 = .ok (.aload_n 1, 1) := by decide +kernel
theorem dL_law_1212 : decode cL_law 1212 = .ok (.aload_n 0, 1) := by decide +kernel
theorem dL_law_1213 : decode cL_law 1213 = .ok (.iload_n 3, 1) := by decide +kernel
theorem dL_law_1214 : decode cL_law 1214 = .ok (.iconst 1, 1) := by decide +kernel
theorem dL_law_1215 : decode cL_law 1215 = .ok (.iadd, 1) := by decide +kernel
theorem dL_law_1216 : decode cL_law 1216 = .ok (.iaload, 1) := by decide +kernel
theorem dL_law_1217 : decode cL_law 1217 = .ok (.aload_n 0, 1) := by decide +kernel
theorem dL_law_1218 : decode cL_law 1218 = .ok (.iload_n 3, 1) := by decide +kernel
theorem dL_law_1219 : decode cL_law 1219 = .ok (.iconst 2, 1) := by decide +kernel
theorem dL_law_1220 : decode cL_law 1220 = .ok (.iadd, 1) := by decide +kernel
theorem dL_law_1221 : decode cL_law 1221 = .ok (.iaload, 1) := by decide +kernel
theorem dL_law_1222 : decode cL_law 1222 = .ok (.aload_n 0, 1) := by decide +kernel
theorem dL_law_1223 : decode cL_law 1223 = .ok (.iload_n 3, 1) := by decide +kernel
theorem dL_law_1224 : decode cL_law 1224 = .ok (.iconst 3, 1) := by decide +kernel
theorem dL_law_1225 : decode cL_law 1225 = .ok (.iadd, 1) := by decide +kernel
theorem dL_law_1226 : decode cL_law 1226 = .ok (.iaload, 1) := by decide +kernel
theorem dL_law_1227 : decode cL_law 1227 = .ok (.aload_n 0, 1) := by decide +kernel
theorem dL_law_1228 : decode cL_law 1228 = .ok (.iload_n 3, 1) := by decide +kernel
theorem dL_law_1229 : decode cL_law 1229 = .ok (.iconst 4, 1) := by decide +kernel
theorem dL_law_1230 : decode cL_law 1230 = .ok (.iadd, 1) := by decide +kernel
theorem dL_law_1231 : decode cL_law 1231 = .ok (.iaload, 1) := by decide +kernel
theorem dL_law_1232 : decode cL_law 1232 = .ok (.aload_n 0, 1) := by decide +kernel
theorem dL_law_1233 : decode cL_law 1233 = .ok (.iload_n 3, 1) := by decide +kernel
theorem dL_law_1234 : decode cL_law 1234 = .ok (.iconst 5, 1) := by decide +kernel
theorem dL_law_1235 : decode cL_law 1235 = .ok (.iadd, 1) := by decide +kernel
theorem dL_law_1236 : decode cL_law 1236 = .ok (.iaload, 1) := by decide +kernel
theorem dL_law_1237 : decode cL_law 1237 = .ok (.invokevirtual 151, 3) := by decide +kernel
theorem dL_law_1240 : decode cL_law 1240 = .ok (.aload_n 2, 1) := by decide +kernel
theorem dL_law_1241 : decode cL_law 1241 = .ok (.aload_n 0, 1) := by decide +kernel
theorem dL_law_1242 : decode cL_law 1242 = .ok (.iload_n 3, 1) := by decide +kernel
theorem dL_law_1243 : decode cL_law 1243 = .ok (.iconst 1, 1) := by decide +kernel
theorem dL_law_1244 : decode cL_law 1244 = .ok (.iadd, 1) := by decide +kernel
theorem dL_law_1245 : decode cL_law 1245 = .ok (.iaload, 1) := by decide +kernel
theorem dL_law_1246 : decode cL_law 1246 = .ok (.aload_n 0, 1) := by decide +kernel
theorem dL_law_1247 : decode cL_law 1247 = .ok (.iload_n 3, 1) := by decide +kernel
theorem dL_law_1248 : decode cL_law 1248 = .ok (.iconst 2, 1) := by decide +kernel
theorem dL_law_1249 : decode cL_law 1249 = .ok (.iadd, 1) := by decide +kernel
theorem dL_law_1250 : decode cL_law 1250 = .ok (.iaload, 1) := by decide +kernel
theorem dL_law_1251 : decode cL_law 1251 = .ok (.aload_n 0, 1) := by decide +kernel
theorem dL_law_1252 : decode cL_law 1252 = .ok (.iload_n 3, 1) := by decide +kernel
theorem dL_law_1253 : decode cL_law 1253 = .ok (.iconst 3, 1) := by decide +kernel
theorem dL_law_1254 : decode cL_law 1254 = .ok (.iadd, 1) := by decide +kernel
theorem dL_law_1255 : decode cL_law 1255 = .ok (.iaload, 1) := by decide +kernel
theorem dL_law_1256 : decode cL_law 1256 = .ok (.aload_n 0, 1) := by decide +kernel
theorem dL_law_1257 : decode cL_law 1257 = .ok (.iload_n 3, 1) := by decide +kernel
theorem dL_law_1258 : decode cL_law 1258 = .ok (.iconst 4, 1) := by decide +kernel
theorem dL_law_1259 : decode cL_law 1259 = .ok (.iadd, 1) := by decide +kernel
theorem dL_law_1260 : decode cL_law 1260 = .ok (.iaload, 1) := by decide +kernel
theorem dL_law_1261 : decode cL_law 1261 = .ok (.aload_n 0, 1) := by decide +kernel
theorem dL_law_1262 : decode cL_law 1262 = .ok (.iload_n 3, 1) := by decide +kernel
theorem dL_law_1263 : decode cL_law 1263 = .ok (.iconst 5, 1) := by decide +kernel
theorem dL_law_1264 : decode cL_law 1264 = .ok (.iadd, 1) := by decide +kernel
theorem dL_law_1265 : decode cL_law 1265 = .ok (.iaload, 1) := by decide +kernel
theorem dL_law_1266 : decode cL_law 1266 = .ok (.invokevirtual 154, 3) := by decide +kernel
theorem dL_law_1269 : decode cL_law 1269 = .ok (.if_icmp .eq 5, 3) := by decide +kernel
theorem dL_law_1272 : decode cL_law 1272 = .ok (.iconst 0, 1) := by decide +kernel
theorem dL_law_1273 : decode cL_law 1273 = .ok (.ireturn, 1) := by decide +kernel
theorem dL_law_1274 : decode cL_law 1274 = .ok (.iinc 3 8, 3) := by decide +kernel
theorem dL_law_1277 : decode cL_law 1277 = .ok (.goto (-1259), 3) := by decide +kernel
theorem dL_law_1280 : decode cL_law 1280 = .ok (.iconst 1, 1) := by decide +kernel
theorem dL_law_1281 : decode cL_law 1281 = .ok (.ireturn, 1) := by decide +kernel
end
section
/-! ===== values of the picture: ints and longs as whole numbers, references as places in our own heap ===== -/
abbrev zV : Type := Int ⊕ (Int ⊕ (Option Nat ⊕ Bool))
def zI (x : Int) : zV := .inl x
def zL (x : Int) : zV := .inr (.inl x)
def zR (k : Nat) : zV := .inr (.inr (.inl (some k)))
def zS : zV := .inr (.inr (.inr true))
def zX : zV := .inr (.inr (.inr false))
/-- what is fixed of a run: our heap's base, the script's cell, length and ints, classes and slots, the arrays' classes -/
abbrev zG : Type := Nat × Nat × Nat × (Nat → Int32) × va_G × (Nat → ClassId)
def zc (G : zG) (v : zV) : Value := match v with
  | .inl x => .int (Int32.ofInt x)
  | .inr (.inl x) => .long (Int64.ofInt x)
  | .inr (.inr (.inl r)) => va_rf (r.map (G.1 + ·))
  | .inr (.inr (.inr true)) => .ref G.2.1
  | .inr (.inr (.inr false)) => .null
theorem zc_I (G : zG) (x : Int) : zc G (zI x) = .int (Int32.ofInt x) := rfl
theorem zc_L (G : zG) (x : Int) : zc G (zL x) = .long (Int64.ofInt x) := rfl
theorem zc_R (G : zG) (k : Nat) : zc G (zR k) = .ref (G.1 + k) := rfl
theorem zc_S (G : zG) : zc G zS = .ref G.2.1 := rfl
def zj (v : zV) : Bool := match v with
  | .inr (.inr (.inr false)) => true
  | _ => false
def zl (v : zV) : Bool := match v with
  | .inr (.inl _) => true
  | _ => false
theorem zc_cat (G : zG) (v : zV) (h : zl v = false) : (zc G v).category = 1 := by
  rcases v with x | x | r | b
  · rfl
  · cases h
  · cases r <;> rfl
  · cases b <;> rfl
theorem zc_cat2 (G : zG) (v : zV) (h : zl v = true) : (zc G v).category = 2 := by
  rcases v with x | x | r | b
  · cases h
  · rfl
  · cases h
  · cases h
theorem zc_catl (G : zG) (v : zV) : (zc G v).category = 2 ↔ zl v = true := by
  constructor
  · intro h
    cases hz : zl v with
    | true => rfl
    | false => rw [zc_cat G v hz] at h; cases h
  · exact zc_cat2 G v
/-! ===== local variables ===== -/
def zlp (G : zG) : Nat → List zV → List (Nat × Value)
  | _, [] => []
  | i, v :: vs => (if zj v = true then [] else [(i, zc G v)]) ++ zlp G (i + 1) vs
theorem zlp_mem {G : zG} : ∀ {ls : List zV} {i j : Nat} {v : zV}, ls[j]? = some v → zj v = false → (i + j, zc G v) ∈ zlp G i ls
  | [], _, _, _, h, _ => by simp at h
  | w :: ls, i, 0, v, h, hj => by
    have e : w = v := by simpa using h
    subst e
    simp [zlp, hj]
  | w :: ls, i, j + 1, v, h, hj => by
    have h1 : ls[j]? = some v := by simpa using h
    have h2 := zlp_mem (G := G) (i := i + 1) h1 hj
    rw [show i + 1 + j = i + (j + 1) by omega] at h2
    exact List.mem_append_right _ h2
theorem zlp_of {G : zG} : ∀ {ls : List zV} {i : Nat} {q : Nat × Value}, q ∈ zlp G i ls → ∃ j v, ls[j]? = some v ∧ zj v = false ∧ q = (i + j, zc G v)
  | [], _, _, h => by simp [zlp] at h
  | w :: ls, i, q, h => by
    rcases List.mem_append.mp h with h | h
    · cases hw : zj w with
      | true => simp [hw] at h
      | false =>
        simp [hw] at h
        exact ⟨0, w, rfl, hw, by rw [h]; rfl⟩
    · obtain ⟨j, v, h1, h2, h3⟩ := zlp_of h
      exact ⟨j + 1, v, by simpa using h1, h2, by rw [h3]; congr 1; omega⟩
theorem lv_mono {arr : Array Slot} {n : Nat} {l l' : List (Nat × Value)} (h : lv_has arr n l) (hs : ∀ q ∈ l', q ∈ l) : lv_has arr n l' := ⟨h.1, h.2.1, fun q hq => h.2.2 q (hs q hq)⟩
theorem zlp_at {G : zG} {arr : Array Slot} {n : Nat} {ls : List zV} (h : lv_has arr n (zlp G 0 ls)) {i : Nat} {v : zV} (hi : ls[i]? = some v) (hj : zj v = false) : arr[i]? = some (.val (zc G v)) := by
  have h1 := h.2.2 _ (zlp_mem (G := G) (i := 0) hi hj)
  simpa using h1
/-- the list of locals behind a store of one slot at i -/
def zst1 (ls : List zV) (i : Nat) (v : zV) (ls' : List zV) : Prop := ∀ (j : Nat) (w : zV), ls'[j]? = some w → zj w = false → (j = i ∧ w = v) ∨ (j ≠ i ∧ ls[j]? = some w ∧ ¬ (j + 1 = i ∧ zl w = true))
def zst2 (ls : List zV) (i : Nat) (v : zV) (ls' : List zV) : Prop := ∀ (j : Nat) (w : zV), ls'[j]? = some w → zj w = false → (j = i ∧ w = v) ∨ (j ≠ i ∧ j ≠ i + 1 ∧ ls[j]? = some w ∧ ¬ (j + 1 = i ∧ zl w = true))
theorem zst1_sub {G : zG} {ls ls' : List zV} {i : Nat} {v : zV} (h : zst1 ls i v ls') : ∀ q ∈ zlp G 0 ls', q ∈ (i, zc G v) :: (zlp G 0 ls).filter (fun q => !(q.1 == i) && !(q.1 + 1 == i && q.2.category == 2)) := by
  intro q hq
  obtain ⟨j, w, h1, h2, rfl⟩ := zlp_of hq
  rcases h j w h1 h2 with ⟨rfl, rfl⟩ | ⟨n1, n2, n3⟩
  · simp
  · refine List.mem_cons_of_mem _ (List.mem_filter.mpr ⟨zlp_mem n2 h2, ?_⟩)
    simp only [Nat.zero_add, Bool.and_eq_true, Bool.not_eq_true', beq_eq_false_iff_ne, ne_eq, Bool.and_eq_false_iff]
    refine ⟨n1, ?_⟩
    by_cases hc : j + 1 = i
    · refine Or.inr fun hcat => n3 ⟨hc, (zc_catl G w).mp hcat⟩
    · exact Or.inl hc
theorem zst2_sub {G : zG} {ls ls' : List zV} {i : Nat} {v : zV} (h : zst2 ls i v ls') : ∀ q ∈ zlp G 0 ls', q ∈ (i, zc G v) :: (zlp G 0 ls).filter (fun q => !(q.1 == i) && (!(q.1 == i + 1) && !(q.1 + 1 == i && q.2.category == 2))) := by
  intro q hq
  obtain ⟨j, w, h1, h2, rfl⟩ := zlp_of hq
  rcases h j w h1 h2 with ⟨rfl, rfl⟩ | ⟨n1, n1', n2, n3⟩
  · simp
  · refine List.mem_cons_of_mem _ (List.mem_filter.mpr ⟨zlp_mem n2 h2, ?_⟩)
    simp only [Nat.zero_add, Bool.and_eq_true, Bool.not_eq_true', beq_eq_false_iff_ne, ne_eq, Bool.and_eq_false_iff]
    refine ⟨n1, n1', ?_⟩
    by_cases hc : j + 1 = i
    · refine Or.inr fun hcat => n3 ⟨hc, (zc_catl G w).mp hcat⟩
    · exact Or.inl hc
theorem zst1_pat (pre : List zV) {b c v : zV} {tl : List zV} (hb : zl b = false) : zst1 (pre ++ b :: c :: tl) (pre.length + 1) v (pre ++ b :: v :: tl) := by
  intro j w hj hw
  by_cases h1 : j < pre.length
  · rw [List.getElem?_append_left h1] at hj
    refine Or.inr ⟨by omega, by rw [List.getElem?_append_left h1]; exact hj, by omega⟩
  · rw [List.getElem?_append_right (by omega)] at hj
    by_cases h2 : j = pre.length
    · subst h2
      simp at hj
      subst hj
      exact Or.inr ⟨by omega, by simp, fun h => by rw [hb] at h; cases h.2⟩
    · by_cases h3 : j = pre.length + 1
      · subst h3
        simp at hj
        exact Or.inl ⟨rfl, hj.symm⟩
      · obtain ⟨k, rfl⟩ : ∃ k, j = pre.length + 2 + k := ⟨j - (pre.length + 2), by omega⟩
        refine Or.inr ⟨by omega, ?_, by omega⟩
        rw [List.getElem?_append_right (by omega)]
        rw [show pre.length + 2 + k - pre.length = k + 2 by omega] at hj ⊢
        simpa using hj
theorem zst1_pat0 {c v : zV} {tl : List zV} : zst1 (c :: tl) 0 v (v :: tl) := by
  intro j w hj hw
  cases j with
  | zero => exact Or.inl ⟨rfl, by simpa using hj.symm⟩
  | succ k => exact Or.inr ⟨by omega, by simpa using hj, by omega⟩
theorem zst2_pat (pre : List zV) {b c d v : zV} {tl : List zV} (hb : zl b = false) : zst2 (pre ++ b :: c :: d :: tl) (pre.length + 1) v (pre ++ b :: v :: zX :: tl) := by
  intro j w hj hw
  by_cases h1 : j < pre.length
  · rw [List.getElem?_append_left h1] at hj
    refine Or.inr ⟨by omega, by omega, by rw [List.getElem?_append_left h1]; exact hj, by omega⟩
  · rw [List.getElem?_append_right (by omega)] at hj
    by_cases h2 : j = pre.length
    · subst h2
      simp at hj
      subst hj
      exact Or.inr ⟨by omega, by omega, by simp, fun h => by rw [hb] at h; cases h.2⟩
    · by_cases h3 : j = pre.length + 1
      · subst h3
        simp at hj
        exact Or.inl ⟨rfl, hj.symm⟩
      · by_cases h4 : j = pre.length + 2
        · subst h4
          rw [show pre.length + 2 - pre.length = 2 by omega] at hj
          simp at hj
          subst hj
          cases hw
        · obtain ⟨k, rfl⟩ : ∃ k, j = pre.length + 3 + k := ⟨j - (pre.length + 3), by omega⟩
          refine Or.inr ⟨by omega, by omega, ?_, by omega⟩
          rw [List.getElem?_append_right (by omega)]
          rw [show pre.length + 3 + k - pre.length = k + 3 by omega] at hj ⊢
          simpa using hj
/-- the same where a long's second half lies ahead: b is no long -/
theorem zst1_get {ls ls' : List zV} {i : Nat} {v : zV} (h : zst1 ls i v ls') : zst1 ls i v ls' := h
/-! entry -/
def zexp : List zV → List zV
  | [] => []
  | v :: vs => if zl v = true then v :: zX :: zexp vs else v :: zexp vs
def zent (n : Nat) (vs : List zV) : List zV := zexp vs ++ List.replicate (n - (zexp vs).length) zX
theorem zexp_in (G : zG) : ∀ (vs : List zV) (i : Nat) (j : Nat) (w : zV), (zexp vs)[j]? = some w → zj w = false → (i + j, zc G w) ∈ lv_args i (vs.map (zc G))
  | [], i, j, w, h, hw => by simp [zexp] at h
  | v :: vs, i, j, w, h, hw => by
    cases hz : zl v with
    | false =>
      have hc : ¬ (zc G v).category = 2 := by rw [zc_cat G v hz]; decide
      rw [zexp, hz, if_neg (by decide)] at h
      show _ ∈ (i, zc G v) :: lv_args (if (zc G v).category = 2 then i + 2 else i + 1) (vs.map (zc G))
      rw [if_neg hc]
      cases j with
      | zero =>
        have e : v = w := by simpa using h
        subst e
        exact List.mem_cons_self
      | succ j =>
        have := zexp_in G vs (i + 1) j w (by simpa using h) hw
        rw [show i + 1 + j = i + (j + 1) by omega] at this
        exact List.mem_cons_of_mem _ this
    | true =>
      have hc : (zc G v).category = 2 := zc_cat2 G v hz
      rw [zexp, hz, if_pos rfl] at h
      show _ ∈ (i, zc G v) :: lv_args (if (zc G v).category = 2 then i + 2 else i + 1) (vs.map (zc G))
      rw [if_pos hc]
      match j, h with
      | 0, h =>
        have e : v = w := by simpa using h
        subst e
        exact List.mem_cons_self
      | 1, h =>
        have e : zX = w := by simpa using h
        subst e
        cases hw
      | j + 2, h =>
        have := zexp_in G vs (i + 2) j w (by simpa using h) hw
        rw [show i + 2 + j = i + (j + 2) by omega] at this
        exact List.mem_cons_of_mem _ this
theorem zent_in (G : zG) (vs : List zV) (n : Nat) : ∀ q ∈ zlp G 0 (zent n vs), q ∈ lv_args 0 (vs.map (zc G)) := by
  intro q hq
  obtain ⟨j, w, h1, h2, rfl⟩ := zlp_of hq
  unfold zent at h1
  by_cases hj : j < (zexp vs).length
  · rw [List.getElem?_append_left hj] at h1
    exact zexp_in G vs 0 j w h1 h2
  · rw [List.getElem?_append_right (by omega)] at h1
    have := List.eq_of_mem_replicate (List.mem_of_getElem? h1)
    subst this
    cases h2
def zwords (vs : List zV) : Nat := (vs.map fun v => if zl v = true then 2 else 1).sum
theorem zwords_sl (G : zG) : ∀ vs : List zV, (lg_sl (vs.map (zc G))).length = zwords vs
  | [] => rfl
  | v :: vs => by
    have ih := zwords_sl G vs
    cases hz : zl v with
    | false =>
      have hc : ¬ (zc G v).category = 2 := by rw [zc_cat G v hz]; decide
      have e : lg_sl ((v :: vs).map (zc G)) = [.val (zc G v)] ++ lg_sl (vs.map (zc G)) := by simp [lg_sl, hc]
      rw [e, List.length_append, ih]
      simp [zwords, hz]
    | true =>
      have hc : (zc G v).category = 2 := zc_cat2 G v hz
      have e : lg_sl ((v :: vs).map (zc G)) = [.val (zc G v), .second] ++ lg_sl (vs.map (zc G)) := by simp [lg_sl, hc]
      rw [e, List.length_append, ih]
      simp [zwords, hz]
theorem zwords_cat (G : zG) : ∀ vs : List zV, ((vs.map (zc G)).map fun v => v.category).sum = zwords vs
  | [] => rfl
  | v :: vs => by
    have ih := zwords_cat G vs
    have ih2 : (List.map (fun v => v.category) (List.map (zc G) vs)).sum = (List.map (fun v => if zl v = true then 2 else 1) vs).sum := ih
    simp only [zwords, List.map_cons, List.sum_cons, ih2]
    congr 1
    cases hz : zl v with
    | false => simpa [hz] using zc_cat G v hz
    | true => simpa [hz] using zc_cat2 G v hz
end
section
/-! ===== memory: shapes (kind, size) of our cells; what ints, longs, references they hold ===== -/
abbrev zH : Type := List (Nat × Nat)
abbrev zI2 : Type := Nat → Nat → Int
abbrev zR2 : Type := Nat → Nat → Option Nat
def zup (I : zI2) (k j : Nat) (v : Int) : zI2 := fun a b => if a = k ∧ b = j then v else I a b
def zupR (R : zR2) (k j : Nat) (v : Option Nat) : zR2 := fun a b => if a = k ∧ b = j then v else R a b
def zrow (I : zI2) (k : Nat) (f : Nat → Int) : zI2 := fun a b => if a = k then f b else I a b
def zrowR (R : zR2) (k : Nat) (f : Nat → Option Nat) : zR2 := fun a b => if a = k then f b else R a b
def zty : Nat → Nat → FieldType := fun ci => match ci with
  | 0 => tyX0
  | 1 => tyX1
  | 2 => tyX2
  | 3 => tyX3
  | 4 => tyX4
  | 5 => tyX5
  | 6 => tyX6
  | _ => tyX7
def zfk (ci j : Nat) : Bool := match zty ci j with
  | .object _ => true
  | .array _ => true
  | _ => false
def zfv (G : zG) (I : zI2) (R : zR2) (ci k j : Nat) : Value := if zfk ci j = true then va_rf ((R k j).map (G.1 + ·)) else .int (Int32.ofInt (I k j))
def zaI (G : zG) (I : zI2) (k n : Nat) : va_E := .inl (G.2.2.2.2.2 0, n, .inl (fun j => Int32.ofInt (I k j)))
def zaL (G : zG) (L : zI2) (k n : Nat) : va_E := .inl (G.2.2.2.2.2 1, n, .inr (.inl (fun j => Int64.ofInt (L k j))))
def zaR (G : zG) (R : zR2) (c k n : Nat) : va_E := .inl (G.2.2.2.2.2 c, n, .inr (.inr (.inr (.inr (fun j => (R k j).map (G.1 + ·))))))
def zob (G : zG) (I : zI2) (R : zR2) (ci k n : Nat) : va_E := .inr (ci, (List.range n).map (fun j => zfv G I R ci k j))
def zcell (G : zG) (I L : zI2) (R : zR2) (k : Nat) (t : Nat × Nat) : va_E :=
  if t.1 = 20 then zaI G I k t.2 else if t.1 = 21 then zaL G L k t.2 else if t.1 = 22 then zaR G R 2 k t.2 else if t.1 = 23 then zaR G R 3 k t.2 else zob G I R t.1 k t.2
def zw (G : zG) (sh : zH) (I L : zI2) (R : zR2) : va_W := sh.mapIdx fun k t => (G.1 + k, zcell G I L R k t)
theorem zw_get {G : zG} {sh : zH} {I L : zI2} {R : zR2} {k : Nat} {t : Nat × Nat} (h : sh[k]? = some t) : (zw G sh I L R)[k]? = some (G.1 + k, zcell G I L R k t) := by
  simp [zw, List.getElem?_mapIdx, h]
theorem zw_of {G : zG} {sh : zH} {I L : zI2} {R : zR2} {k : Nat} {q : Nat × va_E} (h : (zw G sh I L R)[k]? = some q) : ∃ t, sh[k]? = some t ∧ q = (G.1 + k, zcell G I L R k t) := by
  simp only [zw, List.getElem?_mapIdx, Option.map_eq_some_iff] at h
  obtain ⟨t, h1, h2⟩ := h
  exact ⟨t, h1, h2.symm⟩
theorem zw_iI {G : zG} {sh : zH} {I L : zI2} {R : zR2} {k n : Nat} (h : sh[k]? = some (20, n)) : (zw G sh I L R)[k]? = some (G.1 + k, zaI G I k n) := zw_get h
theorem zw_iL {G : zG} {sh : zH} {I L : zI2} {R : zR2} {k n : Nat} (h : sh[k]? = some (21, n)) : (zw G sh I L R)[k]? = some (G.1 + k, zaL G L k n) := zw_get h
theorem zw_iR {G : zG} {sh : zH} {I L : zI2} {R : zR2} {k n : Nat} (h : sh[k]? = some (22, n)) : (zw G sh I L R)[k]? = some (G.1 + k, zaR G R 2 k n) := zw_get h
theorem zw_iR3 {G : zG} {sh : zH} {I L : zI2} {R : zR2} {k n : Nat} (h : sh[k]? = some (23, n)) : (zw G sh I L R)[k]? = some (G.1 + k, zaR G R 3 k n) := zw_get h
theorem zcell_o {G : zG} {I L : zI2} {R : zR2} {k ci n : Nat} (hc : ci < 20) : zcell G I L R k (ci, n) = zob G I R ci k n := by
  have h0 : ¬ ci = 20 := by omega
  have h1 : ¬ ci = 21 := by omega
  have h2 : ¬ ci = 22 := by omega
  have h3 : ¬ ci = 23 := by omega
  simp [zcell, h0, h1, h2, h3]
theorem zw_io {G : zG} {sh : zH} {I L : zI2} {R : zR2} {k ci n : Nat} (hc : ci < 20) (h : sh[k]? = some (ci, n)) : (zw G sh I L R)[k]? = some (G.1 + k, zob G I R ci k n) := by
  rw [zw_get h, zcell_o hc]
theorem zw_set {G : zG} {sh : zH} {I L I' L' : zI2} {R R' : zR2} {k : Nat} {t : Nat × Nat} {e : va_E} (h : sh[k]? = some t) (he : e = zcell G I' L' R' k t) (ho : ∀ (a : Nat) (u : Nat × Nat), a ≠ k → zcell G I' L' R' a u = zcell G I L R a u) : (zw G sh I L R).set k (G.1 + k, e) = zw G sh I' L' R' := by
  apply List.ext_getElem?
  intro a
  have hk : k < (zw G sh I L R).length := by
    have := (List.getElem?_eq_some_iff.mp (zw_get (G := G) (I := I) (L := L) (R := R) h)).1
    exact this
  by_cases ha : a = k
  · subst ha
    rw [List.getElem?_set_self hk, zw_get h, he]
  · rw [List.getElem?_set_ne (Ne.symm ha)]
    cases hs : sh[a]? with
    | none => simp [zw, List.getElem?_mapIdx, hs]
    | some u => rw [zw_get hs, zw_get hs, ho a u ha]
theorem zw_push {G : zG} {sh : zH} {I L I' L' : zI2} {R R' : zR2} {t : Nat × Nat} {e : va_E} (he : e = zcell G I' L' R' sh.length t) (ho : ∀ (a : Nat) (u : Nat × Nat), a < sh.length → zcell G I' L' R' a u = zcell G I L R a u) : zw G sh I L R ++ [(G.1 + sh.length, e)] = zw G (sh ++ [t]) I' L' R' := by
  have hlen : (zw G sh I L R).length = sh.length := by simp [zw]
  apply List.ext_getElem?
  intro a
  by_cases ha : a < sh.length
  · rw [List.getElem?_append_left (by omega)]
    have h1 : sh[a]? = some sh[a] := List.getElem?_eq_getElem ha
    have h2 : (sh ++ [t])[a]? = some sh[a] := by rw [List.getElem?_append_left ha, h1]
    rw [zw_get h1, zw_get h2, ho a _ ha]
  · by_cases hb : a = sh.length
    · subst hb
      rw [List.getElem?_append_right (by omega), hlen, Nat.sub_self]
      have h2 : (sh ++ [t])[sh.length]? = some t := by simp
      rw [zw_get h2, he]
      rfl
    · rw [List.getElem?_eq_none (by simp [hlen]; omega), List.getElem?_eq_none (by simp [zw]; omega)]
theorem zw_D {G : zG} {sh : zH} {I L : zI2} {R : zR2} : va_D (fun q => G.1 ≤ q) (zw G sh I L R) := by
  refine ⟨fun i j p q hi hj hpq => ?_, fun k q hk => ?_⟩
  · obtain ⟨t, -, rfl⟩ := zw_of hi
    obtain ⟨u, -, rfl⟩ := zw_of hj
    have : G.1 + i = G.1 + j := hpq
    omega
  · obtain ⟨t, -, rfl⟩ := zw_of hk
    exact Nat.le_add_right _ _
theorem zcell_up {G : zG} {I L : zI2} {R : zR2} {k j : Nat} {v : Int} {a : Nat} (u : Nat × Nat) (ha : a ≠ k) : zcell G (zup I k j v) L R a u = zcell G I L R a u := by
  have h : ∀ b, zup I k j v a b = I a b := fun b => by simp [zup, ha]
  simp only [zcell, zaI, zob, zfv, h]
theorem zcell_upL {G : zG} {I L : zI2} {R : zR2} {k j : Nat} {v : Int} {a : Nat} (u : Nat × Nat) (ha : a ≠ k) : zcell G I (zup L k j v) R a u = zcell G I L R a u := by
  have h : ∀ b, zup L k j v a b = L a b := fun b => by simp [zup, ha]
  simp only [zcell, zaL, h]
theorem zcell_upR {G : zG} {I L : zI2} {R : zR2} {k j : Nat} {v : Option Nat} {a : Nat} (u : Nat × Nat) (ha : a ≠ k) : zcell G I L (zupR R k j v) a u = zcell G I L R a u := by
  have h : ∀ b, zupR R k j v a b = R a b := fun b => by simp [zupR, ha]
  simp only [zcell, zaR, zob, zfv, h]
theorem zcell_row {G : zG} {I L : zI2} {R : zR2} {k : Nat} {f : Nat → Int} {a : Nat} (u : Nat × Nat) (ha : a ≠ k) : zcell G (zrow I k f) L R a u = zcell G I L R a u := by
  have h : ∀ b, zrow I k f a b = I a b := fun b => by simp [zrow, ha]
  simp only [zcell, zaI, zob, zfv, h]
theorem zcell_rowL {G : zG} {I L : zI2} {R : zR2} {k : Nat} {f : Nat → Int} {a : Nat} (u : Nat × Nat) (ha : a ≠ k) : zcell G I (zrow L k f) R a u = zcell G I L R a u := by
  have h : ∀ b, zrow L k f a b = L a b := fun b => by simp [zrow, ha]
  simp only [zcell, zaL, h]
theorem zcell_rowR {G : zG} {I L : zI2} {R : zR2} {k : Nat} {f : Nat → Option Nat} {a : Nat} (u : Nat × Nat) (ha : a ≠ k) : zcell G I L (zrowR R k f) a u = zcell G I L R a u := by
  have h : ∀ b, zrowR R k f a b = R a b := fun b => by simp [zrowR, ha]
  simp only [zcell, zaR, zob, zfv, h]
/-! ===== what stays in every frame ===== -/
def zgood : List Cond := lw_tbl.filter goodWord
theorem zgood_ok : ∀ w ∈ zgood, goodWord w = true := fun _ h => (List.mem_filter.mp h).2
theorem zgood_GI {ws : List Cond} (h : ∀ w ∈ ws, w ∈ zgood) : GoodIn zgood ws := fun w hw => ⟨h w hw, good_of_word (zgood_ok w (h w hw))⟩
def ztys (G : zG) : List (ClassId × FieldType) := [(G.2.2.2.2.2 0, .int), (G.2.2.2.2.2 1, .long), (G.2.2.2.2.2 2, .object "HelterSlide$Slide"), (G.2.2.2.2.2 3, .object "HelterSlide$Sheet")]
def znest : List (String × Nat × MethodName × String) := tables_1.filterMap fun w => match w with
  | .methodLinkNest a i y h => some (a, i, y, h)
  | _ => none
def zCx (G : zG) (U : State) : Prop := va_K G.2.2.2.2.1 vwCl (ztys G) U ∧ (∀ q ∈ znest, va_Nw (.methodLinkNest q.1 q.2.1 q.2.2.1 q.2.2.2) U) ∧ va_AO "HelterSlide$Slide" U ∧ va_AO "HelterSlide$Sheet" U
theorem zCx.warm {G : zG} {s U : State} (hW : s.WarmedH U.vm) (h : zCx G s) : zCx G U := ⟨va_K.moved hW.alike h.1, fun q hq => va_Nw.warmM hW (h.2.1 q hq), va_AO.moved hW.alike h.2.2.1, va_AO.moved hW.alike h.2.2.2⟩
theorem zCx.call {G : zG} {U : State} (h : zCx G U) (g : JFrame) (mk : MethodId) (a : Array Value) : zCx G (U.calling g mk a) := ⟨va_K.moved (u := U) (U := U.calling g mk a) (Vm.Alike.refl U.vm) h.1, fun q hq => va_Nw.same (u := U) rfl rfl (h.2.1 q hq), va_AO.moved (u := U) (U := U.calling g mk a) (Vm.Alike.refl U.vm) h.2.2.1, va_AO.moved (u := U) (U := U.calling g mk a) (Vm.Alike.refl U.vm) h.2.2.2⟩
/-- a method: its class, its name, its code, how many locals, what it answers, how many frames and words its calls need -/
abbrev zM : Type := String × MethodName × ByteArray × Nat × Option FieldType × Nat × Nat
abbrev zmo (M : zM) : String := M.1
abbrev zmy (M : zM) : MethodName := M.2.1
abbrev zmc (M : zM) : ByteArray := M.2.2.1
abbrev zml (M : zM) : Nat := M.2.2.2.1
abbrev zmr (M : zM) : Option FieldType := M.2.2.2.2.1
abbrev zmf (M : zM) : Nat := M.2.2.2.2.2.1
abbrev zmw (M : zM) : Nat := M.2.2.2.2.2.2
/-- the script: its length, its ints -/
abbrev zXs : Type := Nat × (Nat → Int)
def zFr (X : zXs) (M : zM) (G : zG) (p : Program) (Rm : Room) (s : State) (m : MethodId) (args : Array Value) (meth : Method) (c : Code) : Prop :=
  p.tables.exec = Jvm.exec ∧ c.code = zmc M ∧ c.maxLocals = zml M ∧ s.vm.findClass (zmo M) = some m.cls ∧ (∀ w ∈ zgood, w.before args s = true) ∧ zCx G s ∧ zmf M ≤ Rm.frames ∧ zmw M ≤ Rm.locals ∧ meth.name = (zmy M).name ∧ G.1 ≤ s.heap.size ∧ va_X G.2.1 G.2.2.1 G.2.2.2.1 s s.heap ∧ G.2.1 < G.1 ∧ G.2.2.1 = X.1 ∧ ∀ j : Nat, j < X.1 → G.2.2.2.1 j = Int32.ofInt (X.2 j)
def zSt (G : zG) (Rm : Room) (s : State) (H : Heap) (locs : List Loc) (cells slots k w : Nat) (sh : zH) (I L : zI2) (R : zR2) : Prop :=
  va_P G.2.2.2.2.1 vwCl (zw G sh I L R) H ∧ va_S (fun q => G.1 ≤ q) s.heap H locs ∧ s.heap.size + cells = G.1 + sh.length ∧ cells + k = Rm.cells ∧ slots + w ≤ Rm.slots
/-- a returning instruction at pc, for the answer r -/
def zRt (M : zM) (pc : Nat) (r : List zV) : Prop :=
  (∃ x ty, r = [zI x] ∧ zmr M = some ty ∧ narrow ty (.int (Int32.ofInt x)) = .int (Int32.ofInt x) ∧ decode (zmc M) pc = .ok (.ireturn, 1)) ∨ (∃ x, r = [zL x] ∧ zmr M = some .long ∧ decode (zmc M) pc = .ok (.lreturn, 1)) ∨ (r = [] ∧ zmr M = none ∧ decode (zmc M) pc = .ok (.return_, 1))
abbrev zQ : Type := List zV → zH → zI2 → zI2 → zR2 → Prop
/-- from pc on, with these locals, this stack and this memory, the method comes to its end with an answer and a memory of Q -/
def zE (X : zXs) (M : zM) (k w pc : Nat) (ls st : List zV) (sh : zH) (I L : zI2) (R : zR2) (Q : zQ) : Prop :=
  ∀ (G : zG) (p : Program) (l : Launch) (e : Env) (Rm : Room) (s : State) (m : MethodId) (args : Array Value) (below : List Frame) (meth : Method) (c : Code) (H : Heap) (locs : List Loc) (cells slots : Nat) (Qf : State → Prop) (arr : Array Slot),
    zFr X M G p Rm s m args meth c → zSt G Rm s H locs cells slots k w sh I L R → lv_has arr (zml M) (zlp G 0 ls) →
    (∀ (r : List zV) (sh' : zH) (I' L' : zI2) (R' : zR2) (H' : Heap) (locs' : List Loc) (cells' slots' w' pc' : Nat) (arr' : Array Slot), Q r sh' I' L' R' → zRt M pc' r → zSt G Rm s H' locs' cells' slots' 0 w' sh' I' L' R' →
      W p l e Rm s m args below meth c H' locs' cells' slots' Qf (F0 m pc' arr' (r.map (zc G)))) →
    W p l e Rm s m args below meth c H locs cells slots Qf (F0 m pc arr (st.map (zc G)))
/-- the answer and the memory are just these -/
def zEq (r : List zV) (sh : zH) (I L : zI2) (R : zR2) : zQ := fun r' sh' I' L' R' => r' = r ∧ sh' = sh ∧ I' = I ∧ L' = L ∧ R' = R
/-- an instruction that touches locals and stack alone -/
theorem zE_step {X : zXs} {M : zM} {k w pc nx : Nat} {ls st ls' st' : List zV} {sh : zH} {I L : zI2} {R : zR2} {Q : zQ}
    (h : ∀ (G : zG) (p : Program) (l : Launch) (e : Env) (Rm : Room) (s : State) (m : MethodId) (args : Array Value) (below : List Frame) (meth : Method) (c : Code) (H : Heap) (locs : List Loc) (cells slots : Nat) (Qf : State → Prop) (arr : Array Slot),
      zFr X M G p Rm s m args meth c → lv_has arr (zml M) (zlp G 0 ls) → (∀ arr', lv_has arr' (zml M) (zlp G 0 ls') → W p l e Rm s m args below meth c H locs cells slots Qf (F0 m nx arr' (st'.map (zc G)))) → W p l e Rm s m args below meth c H locs cells slots Qf (F0 m pc arr (st.map (zc G))))
    (kk : zE X M k w nx ls' st' sh I L R Q) : zE X M k w pc ls st sh I L R Q := by
  intro G p l e Rm s m args below meth c H locs cells slots Qf arr F S hl kend
  exact h G p l e Rm s m args below meth c H locs cells slots Qf arr F hl (fun arr' hl' => kk G p l e Rm s m args below meth c H locs cells slots Qf arr' F S hl' kend)
end
section
/-! ===== numbers ===== -/
theorem zn_T {x : Int} (h : -2147483648 ≤ x ∧ x ≤ 2147483647) : (Int32.ofInt x).toInt = x := Int32.toInt_ofInt_of_le (by omega) (by omega)
theorem zn_TL {x : Int} (h : -9223372036854775808 ≤ x ∧ x ≤ 9223372036854775807) : (Int64.ofInt x).toInt = x := Int64.toInt_ofInt_of_le (by omega) (by omega)
theorem zn_lt {x y : Int} (hx : -2147483648 ≤ x ∧ x ≤ 2147483647) (hy : -2147483648 ≤ y ∧ y ≤ 2147483647) : Int32.ofInt x < Int32.ofInt y ↔ x < y := by rw [Int32.lt_iff_toInt_lt, zn_T hx, zn_T hy]
theorem zn_le {x y : Int} (hx : -2147483648 ≤ x ∧ x ≤ 2147483647) (hy : -2147483648 ≤ y ∧ y ≤ 2147483647) : Int32.ofInt x ≤ Int32.ofInt y ↔ x ≤ y := by rw [Int32.le_iff_toInt_le, zn_T hx, zn_T hy]
theorem zn_eq {x y : Int} (hx : -2147483648 ≤ x ∧ x ≤ 2147483647) (hy : -2147483648 ≤ y ∧ y ≤ 2147483647) : Int32.ofInt x = Int32.ofInt y ↔ x = y := by rw [← Int32.toInt_inj, zn_T hx, zn_T hy]
theorem zn_lt0 {x : Int} (hx : -2147483648 ≤ x ∧ x ≤ 2147483647) : Int32.ofInt x < 0 ↔ x < 0 := zn_lt (y := 0) hx (by omega)
theorem zn_le0 {x : Int} (hx : -2147483648 ≤ x ∧ x ≤ 2147483647) : Int32.ofInt x ≤ 0 ↔ x ≤ 0 := zn_le (y := 0) hx (by omega)
theorem zn_gt0 {x : Int} (hx : -2147483648 ≤ x ∧ x ≤ 2147483647) : 0 < Int32.ofInt x ↔ 0 < x := zn_lt (x := 0) (by omega) hx
theorem zn_ge0 {x : Int} (hx : -2147483648 ≤ x ∧ x ≤ 2147483647) : 0 ≤ Int32.ofInt x ↔ 0 ≤ x := zn_le (x := 0) (by omega) hx
theorem zn_eq0 {x : Int} (hx : -2147483648 ≤ x ∧ x ≤ 2147483647) : Int32.ofInt x = 0 ↔ x = 0 := zn_eq (y := 0) hx (by omega)
theorem zn_ltL {x y : Int} (hx : -9223372036854775808 ≤ x ∧ x ≤ 9223372036854775807) (hy : -9223372036854775808 ≤ y ∧ y ≤ 9223372036854775807) : Int64.ofInt x < Int64.ofInt y ↔ x < y := by rw [Int64.lt_iff_toInt_lt, zn_TL hx, zn_TL hy]
theorem zn_eqL {x y : Int} (hx : -9223372036854775808 ≤ x ∧ x ≤ 9223372036854775807) (hy : -9223372036854775808 ≤ y ∧ y ≤ 9223372036854775807) : Int64.ofInt x = Int64.ofInt y ↔ x = y := by rw [← Int64.toInt_inj, zn_TL hx, zn_TL hy]
theorem zn_div {x y : Int} (hx : 0 ≤ x ∧ x ≤ 2147483647) (hy : 0 < y ∧ y ≤ 2147483647) : Int32.ofInt x / Int32.ofInt y = Int32.ofInt (x / y) := by
  rw [← Int.tdiv_eq_ediv_of_nonneg hx.1]
  exact (Int32.ofInt_tdiv (by show -2147483648 ≤ x; omega) (by show x ≤ 2147483647; omega) (by show -2147483648 ≤ y; omega) (by show y ≤ 2147483647; omega)).symm
theorem zn_divL {x y : Int} (hx : 0 ≤ x ∧ x ≤ 9223372036854775807) (hy : 0 < y ∧ y ≤ 9223372036854775807) : Int64.ofInt x / Int64.ofInt y = Int64.ofInt (x / y) := by
  rw [← Int.tdiv_eq_ediv_of_nonneg hx.1]
  exact (Int64.ofInt_tdiv (by show -9223372036854775808 ≤ x; omega) (by show x ≤ 9223372036854775807; omega) (by show -9223372036854775808 ≤ y; omega) (by show y ≤ 9223372036854775807; omega)).symm
theorem zn_mod {x y : Int} (hx : 0 ≤ x ∧ x ≤ 2147483647) (hy : 0 < y ∧ y ≤ 2147483647) : Int32.ofInt x - Int32.ofInt x / Int32.ofInt y * Int32.ofInt y = Int32.ofInt (x % y) := by
  rw [zn_div hx hy, ← Int32.ofInt_mul, ← Int32.ofInt_sub, Int.emod_def, Int.mul_comm]
theorem zn_modL {x y : Int} (hx : 0 ≤ x ∧ x ≤ 9223372036854775807) (hy : 0 < y ∧ y ≤ 9223372036854775807) : Int64.ofInt x - Int64.ofInt x / Int64.ofInt y * Int64.ofInt y = Int64.ofInt (x % y) := by
  rw [zn_divL hx hy, ← Int64.ofInt_mul, ← Int64.ofInt_sub, Int.emod_def, Int.mul_comm]
theorem zn_i2l {x : Int} (hx : -2147483648 ≤ x ∧ x ≤ 2147483647) : (Int32.ofInt x).toInt64 = Int64.ofInt x := Int64.toInt_inj.mp (by rw [Int32.toInt_toInt64, zn_T hx, zn_TL (by omega)])
def zand (x y : Int) : Int := (Int32.ofInt x &&& Int32.ofInt y).toInt
def zor (x y : Int) : Int := (Int32.ofInt x ||| Int32.ofInt y).toInt
def zshl (x y : Int) : Int := (Int32.ofInt x <<< (Int32.ofInt y &&& 31)).toInt
def zshr (x y : Int) : Int := (Int32.ofInt x >>> (Int32.ofInt y &&& 31)).toInt
def zushr (x y : Int) : Int := ((Int32.ofInt x).toUInt32 >>> ((Int32.ofInt y).toUInt32 &&& Int32.toUInt32 31)).toInt32.toInt
def zandL (x y : Int) : Int := (Int64.ofInt x &&& Int64.ofInt y).toInt
def zorL (x y : Int) : Int := (Int64.ofInt x ||| Int64.ofInt y).toInt
def zshlL (x y : Int) : Int := (Int64.ofInt x <<< ((Int32.ofInt y).toInt64 &&& 63)).toInt
def zl2i (x : Int) : Int := (Int64.ofInt x).toInt32.toInt
def zi2b (x : Int) : Int := (Int32.ofInt x).toInt8.toInt32.toInt
def zi2s (x : Int) : Int := (Int32.ofInt x).toInt16.toInt32.toInt
def zcmpL (x y : Int) : Int := if y < x then 1 else if x = y then 0 else -1
theorem zn_cmpL {x y : Int} (hx : -9223372036854775808 ≤ x ∧ x ≤ 9223372036854775807) (hy : -9223372036854775808 ≤ y ∧ y ≤ 9223372036854775807) : lg_cmp (Int64.ofInt x) (Int64.ofInt y) = Int32.ofInt (zcmpL x y) := by
  unfold lg_cmp zcmpL
  simp only [gt_iff_lt, zn_ltL hy hx, zn_eqL hx hy]
  split
  · rfl
  · split <;> rfl
section ZROWS
variable {X : zXs} {M : zM} {k w pc : Nat} {ls st : List zV} {sh : zH} {I L : zI2} {R : zR2} {Q : zQ}
theorem z_iconst (nx : Nat) {n : Int} (hd : decode (zmc M) pc = .ok (.iconst n, 1)) (hn : pc + 1 = nx) (kk : zE X M k w nx ls (zI n :: st) sh I L R Q) : zE X M k w pc ls st sh I L R Q := by
  subst hn
  exact zE_step (fun G p l e Rm s m args below meth c H locs cells slots Qf arr F hl kk => lv_iconst F.1 F.2.1 hd rfl (kk arr hl)) kk
theorem z_bipush (nx : Nat) {n : Int} (hd : decode (zmc M) pc = .ok (.bipush n, 2)) (hv : (Int8.ofInt n).toInt32 = Int32.ofInt n) (hn : pc + 2 = nx) (kk : zE X M k w nx ls (zI n :: st) sh I L R Q) : zE X M k w pc ls st sh I L R Q := by
  subst hn
  exact zE_step (fun G p l e Rm s m args below meth c H locs cells slots Qf arr F hl kk => lv_bipush F.1 F.2.1 hd hv (kk arr hl)) kk
theorem z_sipush (nx : Nat) {n : Int} (hd : decode (zmc M) pc = .ok (.sipush n, 3)) (hv : (Int16.ofInt n).toInt32 = Int32.ofInt n) (hn : pc + 3 = nx) (kk : zE X M k w nx ls (zI n :: st) sh I L R Q) : zE X M k w pc ls st sh I L R Q := by
  subst hn
  exact zE_step (fun G p l e Rm s m args below meth c H locs cells slots Qf arr F hl kk => lv_sipush F.1 F.2.1 hd hv (kk arr hl)) kk
theorem z_lconst0 (nx : Nat) (hd : decode (zmc M) pc = .ok (.lconst 0, 1)) (hn : pc + 1 = nx) (kk : zE X M k w nx ls (zL 0 :: st) sh I L R Q) : zE X M k w pc ls st sh I L R Q := by
  subst hn
  exact zE_step (fun G p l e Rm s m args below meth c H locs cells slots Qf arr F hl kk => lv_lconst F.1 F.2.1 hd (by decide) (kk arr hl)) kk
theorem z_lconst1 (nx : Nat) (hd : decode (zmc M) pc = .ok (.lconst 1, 1)) (hn : pc + 1 = nx) (kk : zE X M k w nx ls (zL 1 :: st) sh I L R Q) : zE X M k w pc ls st sh I L R Q := by
  subst hn
  exact zE_step (fun G p l e Rm s m args below meth c H locs cells slots Qf arr F hl kk => lv_lconst F.1 F.2.1 hd (by decide) (kk arr hl)) kk
theorem z_ldc (nx : Nat) {idx : Nat} {x : Int} (hd : decode (zmc M) pc = .ok (.ldc idx, 2)) (hw : Jvm.Cond.constant (zmo M) idx (Int32.ofInt x) ∈ zgood) (hn : pc + 2 = nx) (kk : zE X M k w nx ls (zI x :: st) sh I L R Q) : zE X M k w pc ls st sh I L R Q := by
  subst hn
  exact zE_step (fun G p l e Rm s m args below meth c H locs cells slots Qf arr F hl kk => lv_ldc F.1 F.2.1 F.2.2.2.1 (F.2.2.2.2.1 _ hw) hd (kk arr hl)) kk
theorem z_ldc2 (nx : Nat) {idx : Nat} {x : Int} (hd : decode (zmc M) pc = .ok (.ldc2_w idx, 3)) (hw : Jvm.Cond.constantLong (zmo M) idx (Int64.ofInt x) ∈ zgood) (hn : pc + 3 = nx) (kk : zE X M k w nx ls (zL x :: st) sh I L R Q) : zE X M k w pc ls st sh I L R Q := by
  subst hn
  exact zE_step (fun G p l e Rm s m args below meth c H locs cells slots Qf arr F hl kk => lv_ldc2 F.1 F.2.1 F.2.2.2.1 (F.2.2.2.2.1 _ hw) hd (kk arr hl)) kk
theorem z_iload0 (nx : Nat) {tl : List zV} {x : Int} (hd : decode (zmc M) pc = .ok (.iload_n 0, 1)) (hn : pc + 1 = nx) (kk : zE X M k w nx (zI x :: tl) (zI x :: st) sh I L R Q) : zE X M k w pc (zI x :: tl) st sh I L R Q := by
  subst hn
  exact zE_step (fun G p l e Rm s m args below meth c H locs cells slots Qf arr F hl kk => lv_iload_n F.1 F.2.1 hd rfl (zlp_at hl (i := 0) (v := zI x) rfl rfl) (kk arr hl)) kk
theorem z_lload0 (nx : Nat) {tl : List zV} {x : Int} (hd : decode (zmc M) pc = .ok (.lload_n 0, 1)) (hn : pc + 1 = nx) (kk : zE X M k w nx (zL x :: tl) (zL x :: st) sh I L R Q) : zE X M k w pc (zL x :: tl) st sh I L R Q := by
  subst hn
  exact zE_step (fun G p l e Rm s m args below meth c H locs cells slots Qf arr F hl kk => lv_lload_n F.1 F.2.1 hd rfl (zlp_at hl (i := 0) (v := zL x) rfl rfl) (kk arr hl)) kk
theorem z_aload0 (nx : Nat) {tl : List zV} {x : Nat} (hd : decode (zmc M) pc = .ok (.aload_n 0, 1)) (hn : pc + 1 = nx) (kk : zE X M k w nx (zR x :: tl) (zR x :: st) sh I L R Q) : zE X M k w pc (zR x :: tl) st sh I L R Q := by
  subst hn
  exact zE_step (fun G p l e Rm s m args below meth c H locs cells slots Qf arr F hl kk => lv_aload_n F.1 F.2.1 hd rfl (zlp_at hl (i := 0) (v := zR x) rfl rfl) (kk arr hl)) kk
theorem z_aloadS0 (nx : Nat) {tl : List zV} (hd : decode (zmc M) pc = .ok (.aload_n 0, 1)) (hn : pc + 1 = nx) (kk : zE X M k w nx (zS :: tl) (zS :: st) sh I L R Q) : zE X M k w pc (zS :: tl) st sh I L R Q := by
  subst hn
  exact zE_step (fun G p l e Rm s m args below meth c H locs cells slots Qf arr F hl kk => lv_aload_n F.1 F.2.1 hd rfl (zlp_at hl (i := 0) (v := zS) rfl rfl) (kk arr hl)) kk
theorem z_istore0 (nx : Nat) {c : zV} {tl : List zV} {x : Int} (hd : decode (zmc M) pc = .ok (.istore_n 0, 1)) (hi : 0 < zml M) (hn : pc + 1 = nx) (kk : zE X M k w nx (zI x :: tl) st sh I L R Q) : zE X M k w pc (c :: tl) (zI x :: st) sh I L R Q := by
  subst hn
  exact zE_step (fun G p l e Rm s m args below meth c H locs cells slots Qf arr F hl kk => lv_istore_n F.1 F.2.1 hd rfl hl hi rfl (fun arr' hl' => kk arr' (lv_mono hl' (zst1_sub (zst1_pat0))))) kk
theorem z_astore0 (nx : Nat) {c : zV} {tl : List zV} {x : Nat} (hd : decode (zmc M) pc = .ok (.astore_n 0, 1)) (hi : 0 < zml M) (hn : pc + 1 = nx) (kk : zE X M k w nx (zR x :: tl) st sh I L R Q) : zE X M k w pc (c :: tl) (zR x :: st) sh I L R Q := by
  subst hn
  exact zE_step (fun G p l e Rm s m args below meth c H locs cells slots Qf arr F hl kk => lv_astore_n F.1 F.2.1 hd rfl hl hi rfl (fun arr' hl' => kk arr' (lv_mono hl' (zst1_sub (zst1_pat0))))) kk
theorem z_iinc0 (nx : Nat) {tl : List zV} {x n : Int} (hd : decode (zmc M) pc = .ok (.iinc 0 n, 3)) (hi : 0 < zml M) (hn : pc + 3 = nx) (kk : zE X M k w nx (zI (x + n) :: tl) st sh I L R Q) : zE X M k w pc (zI x :: tl) st sh I L R Q := by
  subst hn
  exact zE_step (fun G p l e Rm s m args below meth c H locs cells slots Qf arr F hl kk => (by
    obtain ⟨kx, hkx⟩ := List.getElem?_of_mem (zlp_mem (G := G) (i := 0) (ls := (zI x :: tl)) (j := 0) (v := zI x) rfl rfl)
    exact lv_iinc (v := Int32.ofInt (x + n)) F.1 F.2.1 hd hl (k := kx) (by rw [Nat.zero_add] at hkx; exact hkx) (by rw [Int32.ofInt_add]) hi rfl (fun arr' hl' => kk arr' (lv_mono hl' (zst1_sub (zst1_pat0)))))) kk
theorem z_iload1 (nx : Nat) {a0 : zV} {tl : List zV} {x : Int} (hd : decode (zmc M) pc = .ok (.iload_n 1, 1)) (hn : pc + 1 = nx) (kk : zE X M k w nx (a0 :: zI x :: tl) (zI x :: st) sh I L R Q) : zE X M k w pc (a0 :: zI x :: tl) st sh I L R Q := by
  subst hn
  exact zE_step (fun G p l e Rm s m args below meth c H locs cells slots Qf arr F hl kk => lv_iload_n F.1 F.2.1 hd rfl (zlp_at hl (i := 1) (v := zI x) rfl rfl) (kk arr hl)) kk
theorem z_lload1 (nx : Nat) {a0 : zV} {tl : List zV} {x : Int} (hd : decode (zmc M) pc = .ok (.lload_n 1, 1)) (hn : pc + 1 = nx) (kk : zE X M k w nx (a0 :: zL x :: tl) (zL x :: st) sh I L R Q) : zE X M k w pc (a0 :: zL x :: tl) st sh I L R Q := by
  subst hn
  exact zE_step (fun G p l e Rm s m args below meth c H locs cells slots Qf arr F hl kk => lv_lload_n F.1 F.2.1 hd rfl (zlp_at hl (i := 1) (v := zL x) rfl rfl) (kk arr hl)) kk
theorem z_aload1 (nx : Nat) {a0 : zV} {tl : List zV} {x : Nat} (hd : decode (zmc M) pc = .ok (.aload_n 1, 1)) (hn : pc + 1 = nx) (kk : zE X M k w nx (a0 :: zR x :: tl) (zR x :: st) sh I L R Q) : zE X M k w pc (a0 :: zR x :: tl) st sh I L R Q := by
  subst hn
  exact zE_step (fun G p l e Rm s m args below meth c H locs cells slots Qf arr F hl kk => lv_aload_n F.1 F.2.1 hd rfl (zlp_at hl (i := 1) (v := zR x) rfl rfl) (kk arr hl)) kk
theorem z_istore1 (nx : Nat) {b c : zV} {tl : List zV} {x : Int} (hd : decode (zmc M) pc = .ok (.istore_n 1, 1)) (hi : 1 < zml M) (hb : zl b = false) (hn : pc + 1 = nx) (kk : zE X M k w nx (b :: zI x :: tl) st sh I L R Q) : zE X M k w pc (b :: c :: tl) (zI x :: st) sh I L R Q := by
  subst hn
  exact zE_step (fun G p l e Rm s m args below meth c H locs cells slots Qf arr F hl kk => lv_istore_n F.1 F.2.1 hd rfl hl hi rfl (fun arr' hl' => kk arr' (lv_mono hl' (zst1_sub (zst1_pat [] hb))))) kk
theorem z_astore1 (nx : Nat) {b c : zV} {tl : List zV} {x : Nat} (hd : decode (zmc M) pc = .ok (.astore_n 1, 1)) (hi : 1 < zml M) (hb : zl b = false) (hn : pc + 1 = nx) (kk : zE X M k w nx (b :: zR x :: tl) st sh I L R Q) : zE X M k w pc (b :: c :: tl) (zR x :: st) sh I L R Q := by
  subst hn
  exact zE_step (fun G p l e Rm s m args below meth c H locs cells slots Qf arr F hl kk => lv_astore_n F.1 F.2.1 hd rfl hl hi rfl (fun arr' hl' => kk arr' (lv_mono hl' (zst1_sub (zst1_pat [] hb))))) kk
theorem z_lstore1 (nx : Nat) {b c d : zV} {tl : List zV} {x : Int} (hd : decode (zmc M) pc = .ok (.lstore_n 1, 1)) (hi : 1+1 < zml M) (hb : zl b = false) (hn : pc + 1 = nx) (kk : zE X M k w nx (b :: zL x :: zX :: tl) st sh I L R Q) : zE X M k w pc (b :: c :: d :: tl) (zL x :: st) sh I L R Q := by
  subst hn
  exact zE_step (fun G p l e Rm s m args below meth c H locs cells slots Qf arr F hl kk => lv_lstore_n F.1 F.2.1 hd rfl hl hi rfl (fun arr' hl' => kk arr' (lv_mono hl' (zst2_sub (zst2_pat [] hb))))) kk
theorem z_iinc1 (nx : Nat) {b : zV} {tl : List zV} {x n : Int} (hd : decode (zmc M) pc = .ok (.iinc 1 n, 3)) (hi : 1 < zml M) (hb : zl b = false) (hn : pc + 3 = nx) (kk : zE X M k w nx (b :: zI (x + n) :: tl) st sh I L R Q) : zE X M k w pc (b :: zI x :: tl) st sh I L R Q := by
  subst hn
  exact zE_step (fun G p l e Rm s m args below meth c H locs cells slots Qf arr F hl kk => (by
    obtain ⟨kx, hkx⟩ := List.getElem?_of_mem (zlp_mem (G := G) (i := 0) (ls := (b :: zI x :: tl)) (j := 1) (v := zI x) rfl rfl)
    exact lv_iinc (v := Int32.ofInt (x + n)) F.1 F.2.1 hd hl (k := kx) (by rw [Nat.zero_add] at hkx; exact hkx) (by rw [Int32.ofInt_add]) hi rfl (fun arr' hl' => kk arr' (lv_mono hl' (zst1_sub (zst1_pat [] hb)))))) kk
theorem z_iload2 (nx : Nat) {a0 a1 : zV} {tl : List zV} {x : Int} (hd : decode (zmc M) pc = .ok (.iload_n 2, 1)) (hn : pc + 1 = nx) (kk : zE X M k w nx (a0 :: a1 :: zI x :: tl) (zI x :: st) sh I L R Q) : zE X M k w pc (a0 :: a1 :: zI x :: tl) st sh I L R Q := by
  subst hn
  exact zE_step (fun G p l e Rm s m args below meth c H locs cells slots Qf arr F hl kk => lv_iload_n F.1 F.2.1 hd rfl (zlp_at hl (i := 2) (v := zI x) rfl rfl) (kk arr hl)) kk
theorem z_lload2 (nx : Nat) {a0 a1 : zV} {tl : List zV} {x : Int} (hd : decode (zmc M) pc = .ok (.lload_n 2, 1)) (hn : pc + 1 = nx) (kk : zE X M k w nx (a0 :: a1 :: zL x :: tl) (zL x :: st) sh I L R Q) : zE X M k w pc (a0 :: a1 :: zL x :: tl) st sh I L R Q := by
  subst hn
  exact zE_step (fun G p l e Rm s m args below meth c H locs cells slots Qf arr F hl kk => lv_lload_n F.1 F.2.1 hd rfl (zlp_at hl (i := 2) (v := zL x) rfl rfl) (kk arr hl)) kk
theorem z_aload2 (nx : Nat) {a0 a1 : zV} {tl : List zV} {x : Nat} (hd : decode (zmc M) pc = .ok (.aload_n 2, 1)) (hn : pc + 1 = nx) (kk : zE X M k w nx (a0 :: a1 :: zR x :: tl) (zR x :: st) sh I L R Q) : zE X M k w pc (a0 :: a1 :: zR x :: tl) st sh I L R Q := by
  subst hn
  exact zE_step (fun G p l e Rm s m args below meth c H locs cells slots Qf arr F hl kk => lv_aload_n F.1 F.2.1 hd rfl (zlp_at hl (i := 2) (v := zR x) rfl rfl) (kk arr hl)) kk
theorem z_istore2 (nx : Nat) {a0 b c : zV} {tl : List zV} {x : Int} (hd : decode (zmc M) pc = .ok (.istore_n 2, 1)) (hi : 2 < zml M) (hb : zl b = false) (hn : pc + 1 = nx) (kk : zE X M k w nx (a0 :: b :: zI x :: tl) st sh I L R Q) : zE X M k w pc (a0 :: b :: c :: tl) (zI x :: st) sh I L R Q := by
  subst hn
  exact zE_step (fun G p l e Rm s m args below meth c H locs cells slots Qf arr F hl kk => lv_istore_n F.1 F.2.1 hd rfl hl hi rfl (fun arr' hl' => kk arr' (lv_mono hl' (zst1_sub (zst1_pat [a0] hb))))) kk
theorem z_astore2 (nx : Nat) {a0 b c : zV} {tl : List zV} {x : Nat} (hd : decode (zmc M) pc = .ok (.astore_n 2, 1)) (hi : 2 < zml M) (hb : zl b = false) (hn : pc + 1 = nx) (kk : zE X M k w nx (a0 :: b :: zR x :: tl) st sh I L R Q) : zE X M k w pc (a0 :: b :: c :: tl) (zR x :: st) sh I L R Q := by
  subst hn
  exact zE_step (fun G p l e Rm s m args below meth c H locs cells slots Qf arr F hl kk => lv_astore_n F.1 F.2.1 hd rfl hl hi rfl (fun arr' hl' => kk arr' (lv_mono hl' (zst1_sub (zst1_pat [a0] hb))))) kk
theorem z_lstore2 (nx : Nat) {a0 b c d : zV} {tl : List zV} {x : Int} (hd : decode (zmc M) pc = .ok (.lstore_n 2, 1)) (hi : 2+1 < zml M) (hb : zl b = false) (hn : pc + 1 = nx) (kk : zE X M k w nx (a0 :: b :: zL x :: zX :: tl) st sh I L R Q) : zE X M k w pc (a0 :: b :: c :: d :: tl) (zL x :: st) sh I L R Q := by
  subst hn
  exact zE_step (fun G p l e Rm s m args below meth c H locs cells slots Qf arr F hl kk => lv_lstore_n F.1 F.2.1 hd rfl hl hi rfl (fun arr' hl' => kk arr' (lv_mono hl' (zst2_sub (zst2_pat [a0] hb))))) kk
theorem z_iinc2 (nx : Nat) {a0 b : zV} {tl : List zV} {x n : Int} (hd : decode (zmc M) pc = .ok (.iinc 2 n, 3)) (hi : 2 < zml M) (hb : zl b = false) (hn : pc + 3 = nx) (kk : zE X M k w nx (a0 :: b :: zI (x + n) :: tl) st sh I L R Q) : zE X M k w pc (a0 :: b :: zI x :: tl) st sh I L R Q := by
  subst hn
  exact zE_step (fun G p l e Rm s m args below meth c H locs cells slots Qf arr F hl kk => (by
    obtain ⟨kx, hkx⟩ := List.getElem?_of_mem (zlp_mem (G := G) (i := 0) (ls := (a0 :: b :: zI x :: tl)) (j := 2) (v := zI x) rfl rfl)
    exact lv_iinc (v := Int32.ofInt (x + n)) F.1 F.2.1 hd hl (k := kx) (by rw [Nat.zero_add] at hkx; exact hkx) (by rw [Int32.ofInt_add]) hi rfl (fun arr' hl' => kk arr' (lv_mono hl' (zst1_sub (zst1_pat [a0] hb)))))) kk
theorem z_iload3 (nx : Nat) {a0 a1 a2 : zV} {tl : List zV} {x : Int} (hd : decode (zmc M) pc = .ok (.iload_n 3, 1)) (hn : pc + 1 = nx) (kk : zE X M k w nx (a0 :: a1 :: a2 :: zI x :: tl) (zI x :: st) sh I L R Q) : zE X M k w pc (a0 :: a1 :: a2 :: zI x :: tl) st sh I L R Q := by
  subst hn
  exact zE_step (fun G p l e Rm s m args below meth c H locs cells slots Qf arr F hl kk => lv_iload_n F.1 F.2.1 hd rfl (zlp_at hl (i := 3) (v := zI x) rfl rfl) (kk arr hl)) kk
theorem z_lload3 (nx : Nat) {a0 a1 a2 : zV} {tl : List zV} {x : Int} (hd : decode (zmc M) pc = .ok (.lload_n 3, 1)) (hn : pc + 1 = nx) (kk : zE X M k w nx (a0 :: a1 :: a2 :: zL x :: tl) (zL x :: st) sh I L R Q) : zE X M k w pc (a0 :: a1 :: a2 :: zL x :: tl) st sh I L R Q := by
  subst hn
  exact zE_step (fun G p l e Rm s m args below meth c H locs cells slots Qf arr F hl kk => lv_lload_n F.1 F.2.1 hd rfl (zlp_at hl (i := 3) (v := zL x) rfl rfl) (kk arr hl)) kk
theorem z_aload3 (nx : Nat) {a0 a1 a2 : zV} {tl : List zV} {x : Nat} (hd : decode (zmc M) pc = .ok (.aload_n 3, 1)) (hn : pc + 1 = nx) (kk : zE X M k w nx (a0 :: a1 :: a2 :: zR x :: tl) (zR x :: st) sh I L R Q) : zE X M k w pc (a0 :: a1 :: a2 :: zR x :: tl) st sh I L R Q := by
  subst hn
  exact zE_step (fun G p l e Rm s m args below meth c H locs cells slots Qf arr F hl kk => lv_aload_n F.1 F.2.1 hd rfl (zlp_at hl (i := 3) (v := zR x) rfl rfl) (kk arr hl)) kk
theorem z_istore3 (nx : Nat) {a0 a1 b c : zV} {tl : List zV} {x : Int} (hd : decode (zmc M) pc = .ok (.istore_n 3, 1)) (hi : 3 < zml M) (hb : zl b = false) (hn : pc + 1 = nx) (kk : zE X M k w nx (a0 :: a1 :: b :: zI x :: tl) st sh I L R Q) : zE X M k w pc (a0 :: a1 :: b :: c :: tl) (zI x :: st) sh I L R Q := by
  subst hn
  exact zE_step (fun G p l e Rm s m args below meth c H locs cells slots Qf arr F hl kk => lv_istore_n F.1 F.2.1 hd rfl hl hi rfl (fun arr' hl' => kk arr' (lv_mono hl' (zst1_sub (zst1_pat [a0, a1] hb))))) kk
theorem z_astore3 (nx : Nat) {a0 a1 b c : zV} {tl : List zV} {x : Nat} (hd : decode (zmc M) pc = .ok (.astore_n 3, 1)) (hi : 3 < zml M) (hb : zl b = false) (hn : pc + 1 = nx) (kk : zE X M k w nx (a0 :: a1 :: b :: zR x :: tl) st sh I L R Q) : zE X M k w pc (a0 :: a1 :: b :: c :: tl) (zR x :: st) sh I L R Q := by
  subst hn
  exact zE_step (fun G p l e Rm s m args below meth c H locs cells slots Qf arr F hl kk => lv_astore_n F.1 F.2.1 hd rfl hl hi rfl (fun arr' hl' => kk arr' (lv_mono hl' (zst1_sub (zst1_pat [a0, a1] hb))))) kk
theorem z_lstore3 (nx : Nat) {a0 a1 b c d : zV} {tl : List zV} {x : Int} (hd : decode (zmc M) pc = .ok (.lstore_n 3, 1)) (hi : 3+1 < zml M) (hb : zl b = false) (hn : pc + 1 = nx) (kk : zE X M k w nx (a0 :: a1 :: b :: zL x :: zX :: tl) st sh I L R Q) : zE X M k w pc (a0 :: a1 :: b :: c :: d :: tl) (zL x :: st) sh I L R Q := by
  subst hn
  exact zE_step (fun G p l e Rm s m args below meth c H locs cells slots Qf arr F hl kk => lv_lstore_n F.1 F.2.1 hd rfl hl hi rfl (fun arr' hl' => kk arr' (lv_mono hl' (zst2_sub (zst2_pat [a0, a1] hb))))) kk
theorem z_iinc3 (nx : Nat) {a0 a1 b : zV} {tl : List zV} {x n : Int} (hd : decode (zmc M) pc = .ok (.iinc 3 n, 3)) (hi : 3 < zml M) (hb : zl b = false) (hn : pc + 3 = nx) (kk : zE X M k w nx (a0 :: a1 :: b :: zI (x + n) :: tl) st sh I L R Q) : zE X M k w pc (a0 :: a1 :: b :: zI x :: tl) st sh I L R Q := by
  subst hn
  exact zE_step (fun G p l e Rm s m args below meth c H locs cells slots Qf arr F hl kk => (by
    obtain ⟨kx, hkx⟩ := List.getElem?_of_mem (zlp_mem (G := G) (i := 0) (ls := (a0 :: a1 :: b :: zI x :: tl)) (j := 3) (v := zI x) rfl rfl)
    exact lv_iinc (v := Int32.ofInt (x + n)) F.1 F.2.1 hd hl (k := kx) (by rw [Nat.zero_add] at hkx; exact hkx) (by rw [Int32.ofInt_add]) hi rfl (fun arr' hl' => kk arr' (lv_mono hl' (zst1_sub (zst1_pat [a0, a1] hb)))))) kk
theorem z_iload4 (nx : Nat) {a0 a1 a2 a3 : zV} {tl : List zV} {x : Int} (hd : decode (zmc M) pc = .ok (.iload 4, 2)) (hn : pc + 2 = nx) (kk : zE X M k w nx (a0 :: a1 :: a2 :: a3 :: zI x :: tl) (zI x :: st) sh I L R Q) : zE X M k w pc (a0 :: a1 :: a2 :: a3 :: zI x :: tl) st sh I L R Q := by
  subst hn
  exact zE_step (fun G p l e Rm s m args below meth c H locs cells slots Qf arr F hl kk => lv_iload F.1 F.2.1 hd (zlp_at hl (i := 4) (v := zI x) rfl rfl) (kk arr hl)) kk
theorem z_lload4 (nx : Nat) {a0 a1 a2 a3 : zV} {tl : List zV} {x : Int} (hd : decode (zmc M) pc = .ok (.lload 4, 2)) (hn : pc + 2 = nx) (kk : zE X M k w nx (a0 :: a1 :: a2 :: a3 :: zL x :: tl) (zL x :: st) sh I L R Q) : zE X M k w pc (a0 :: a1 :: a2 :: a3 :: zL x :: tl) st sh I L R Q := by
  subst hn
  exact zE_step (fun G p l e Rm s m args below meth c H locs cells slots Qf arr F hl kk => lv_lload F.1 F.2.1 hd (zlp_at hl (i := 4) (v := zL x) rfl rfl) (kk arr hl)) kk
theorem z_aload4 (nx : Nat) {a0 a1 a2 a3 : zV} {tl : List zV} {x : Nat} (hd : decode (zmc M) pc = .ok (.aload 4, 2)) (hn : pc + 2 = nx) (kk : zE X M k w nx (a0 :: a1 :: a2 :: a3 :: zR x :: tl) (zR x :: st) sh I L R Q) : zE X M k w pc (a0 :: a1 :: a2 :: a3 :: zR x :: tl) st sh I L R Q := by
  subst hn
  exact zE_step (fun G p l e Rm s m args below meth c H locs cells slots Qf arr F hl kk => lv_aload F.1 F.2.1 hd (zlp_at hl (i := 4) (v := zR x) rfl rfl) (kk arr hl)) kk
theorem z_istore4 (nx : Nat) {a0 a1 a2 b c : zV} {tl : List zV} {x : Int} (hd : decode (zmc M) pc = .ok (.istore 4, 2)) (hi : 4 < zml M) (hb : zl b = false) (hn : pc + 2 = nx) (kk : zE X M k w nx (a0 :: a1 :: a2 :: b :: zI x :: tl) st sh I L R Q) : zE X M k w pc (a0 :: a1 :: a2 :: b :: c :: tl) (zI x :: st) sh I L R Q := by
  subst hn
  exact zE_step (fun G p l e Rm s m args below meth c H locs cells slots Qf arr F hl kk => lv_istore F.1 F.2.1 hd hl hi rfl (fun arr' hl' => kk arr' (lv_mono hl' (zst1_sub (zst1_pat [a0, a1, a2] hb))))) kk
theorem z_astore4 (nx : Nat) {a0 a1 a2 b c : zV} {tl : List zV} {x : Nat} (hd : decode (zmc M) pc = .ok (.astore 4, 2)) (hi : 4 < zml M) (hb : zl b = false) (hn : pc + 2 = nx) (kk : zE X M k w nx (a0 :: a1 :: a2 :: b :: zR x :: tl) st sh I L R Q) : zE X M k w pc (a0 :: a1 :: a2 :: b :: c :: tl) (zR x :: st) sh I L R Q := by
  subst hn
  exact zE_step (fun G p l e Rm s m args below meth c H locs cells slots Qf arr F hl kk => lv_astore F.1 F.2.1 hd hl hi rfl (fun arr' hl' => kk arr' (lv_mono hl' (zst1_sub (zst1_pat [a0, a1, a2] hb))))) kk
theorem z_lstore4 (nx : Nat) {a0 a1 a2 b c d : zV} {tl : List zV} {x : Int} (hd : decode (zmc M) pc = .ok (.lstore 4, 2)) (hi : 4+1 < zml M) (hb : zl b = false) (hn : pc + 2 = nx) (kk : zE X M k w nx (a0 :: a1 :: a2 :: b :: zL x :: zX :: tl) st sh I L R Q) : zE X M k w pc (a0 :: a1 :: a2 :: b :: c :: d :: tl) (zL x :: st) sh I L R Q := by
  subst hn
  exact zE_step (fun G p l e Rm s m args below meth c H locs cells slots Qf arr F hl kk => lv_lstore F.1 F.2.1 hd hl hi rfl (fun arr' hl' => kk arr' (lv_mono hl' (zst2_sub (zst2_pat [a0, a1, a2] hb))))) kk
theorem z_iinc4 (nx : Nat) {a0 a1 a2 b : zV} {tl : List zV} {x n : Int} (hd : decode (zmc M) pc = .ok (.iinc 4 n, 3)) (hi : 4 < zml M) (hb : zl b = false) (hn : pc + 3 = nx) (kk : zE X M k w nx (a0 :: a1 :: a2 :: b :: zI (x + n) :: tl) st sh I L R Q) : zE X M k w pc (a0 :: a1 :: a2 :: b :: zI x :: tl) st sh I L R Q := by
  subst hn
  exact zE_step (fun G p l e Rm s m args below meth c H locs cells slots Qf arr F hl kk => (by
    obtain ⟨kx, hkx⟩ := List.getElem?_of_mem (zlp_mem (G := G) (i := 0) (ls := (a0 :: a1 :: a2 :: b :: zI x :: tl)) (j := 4) (v := zI x) rfl rfl)
    exact lv_iinc (v := Int32.ofInt (x + n)) F.1 F.2.1 hd hl (k := kx) (by rw [Nat.zero_add] at hkx; exact hkx) (by rw [Int32.ofInt_add]) hi rfl (fun arr' hl' => kk arr' (lv_mono hl' (zst1_sub (zst1_pat [a0, a1, a2] hb)))))) kk
theorem z_iload5 (nx : Nat) {a0 a1 a2 a3 a4 : zV} {tl : List zV} {x : Int} (hd : decode (zmc M) pc = .ok (.iload 5, 2)) (hn : pc + 2 = nx) (kk : zE X M k w nx (a0 :: a1 :: a2 :: a3 :: a4 :: zI x :: tl) (zI x :: st) sh I L R Q) : zE X M k w pc (a0 :: a1 :: a2 :: a3 :: a4 :: zI x :: tl) st sh I L R Q := by
  subst hn
  exact zE_step (fun G p l e Rm s m args below meth c H locs cells slots Qf arr F hl kk => lv_iload F.1 F.2.1 hd (zlp_at hl (i := 5) (v := zI x) rfl rfl) (kk arr hl)) kk
theorem z_lload5 (nx : Nat) {a0 a1 a2 a3 a4 : zV} {tl : List zV} {x : Int} (hd : decode (zmc M) pc = .ok (.lload 5, 2)) (hn : pc + 2 = nx) (kk : zE X M k w nx (a0 :: a1 :: a2 :: a3 :: a4 :: zL x :: tl) (zL x :: st) sh I L R Q) : zE X M k w pc (a0 :: a1 :: a2 :: a3 :: a4 :: zL x :: tl) st sh I L R Q := by
  subst hn
  exact zE_step (fun G p l e Rm s m args below meth c H locs cells slots Qf arr F hl kk => lv_lload F.1 F.2.1 hd (zlp_at hl (i := 5) (v := zL x) rfl rfl) (kk arr hl)) kk
theorem z_aload5 (nx : Nat) {a0 a1 a2 a3 a4 : zV} {tl : List zV} {x : Nat} (hd : decode (zmc M) pc = .ok (.aload 5, 2)) (hn : pc + 2 = nx) (kk : zE X M k w nx (a0 :: a1 :: a2 :: a3 :: a4 :: zR x :: tl) (zR x :: st) sh I L R Q) : zE X M k w pc (a0 :: a1 :: a2 :: a3 :: a4 :: zR x :: tl) st sh I L R Q := by
  subst hn
  exact zE_step (fun G p l e Rm s m args below meth c H locs cells slots Qf arr F hl kk => lv_aload F.1 F.2.1 hd (zlp_at hl (i := 5) (v := zR x) rfl rfl) (kk arr hl)) kk
theorem z_istore5 (nx : Nat) {a0 a1 a2 a3 b c : zV} {tl : List zV} {x : Int} (hd : decode (zmc M) pc = .ok (.istore 5, 2)) (hi : 5 < zml M) (hb : zl b = false) (hn : pc + 2 = nx) (kk : zE X M k w nx (a0 :: a1 :: a2 :: a3 :: b :: zI x :: tl) st sh I L R Q) : zE X M k w pc (a0 :: a1 :: a2 :: a3 :: b :: c :: tl) (zI x :: st) sh I L R Q := by
  subst hn
  exact zE_step (fun G p l e Rm s m args below meth c H locs cells slots Qf arr F hl kk => lv_istore F.1 F.2.1 hd hl hi rfl (fun arr' hl' => kk arr' (lv_mono hl' (zst1_sub (zst1_pat [a0, a1, a2, a3] hb))))) kk
theorem z_astore5 (nx : Nat) {a0 a1 a2 a3 b c : zV} {tl : List zV} {x : Nat} (hd : decode (zmc M) pc = .ok (.astore 5, 2)) (hi : 5 < zml M) (hb : zl b = false) (hn : pc + 2 = nx) (kk : zE X M k w nx (a0 :: a1 :: a2 :: a3 :: b :: zR x :: tl) st sh I L R Q) : zE X M k w pc (a0 :: a1 :: a2 :: a3 :: b :: c :: tl) (zR x :: st) sh I L R Q := by
  subst hn
  exact zE_step (fun G p l e Rm s m args below meth c H locs cells slots Qf arr F hl kk => lv_astore F.1 F.2.1 hd hl hi rfl (fun arr' hl' => kk arr' (lv_mono hl' (zst1_sub (zst1_pat [a0, a1, a2, a3] hb))))) kk
theorem z_lstore5 (nx : Nat) {a0 a1 a2 a3 b c d : zV} {tl : List zV} {x : Int} (hd : decode (zmc M) pc = .ok (.lstore 5, 2)) (hi : 5+1 < zml M) (hb : zl b = false) (hn : pc + 2 = nx) (kk : zE X M k w nx (a0 :: a1 :: a2 :: a3 :: b :: zL x :: zX :: tl) st sh I L R Q) : zE X M k w pc (a0 :: a1 :: a2 :: a3 :: b :: c :: d :: tl) (zL x :: st) sh I L R Q := by
  subst hn
  exact zE_step (fun G p l e Rm s m args below meth c H locs cells slots Qf arr F hl kk => lv_lstore F.1 F.2.1 hd hl hi rfl (fun arr' hl' => kk arr' (lv_mono hl' (zst2_sub (zst2_pat [a0, a1, a2, a3] hb))))) kk
theorem z_iinc5 (nx : Nat) {a0 a1 a2 a3 b : zV} {tl : List zV} {x n : Int} (hd : decode (zmc M) pc = .ok (.iinc 5 n, 3)) (hi : 5 < zml M) (hb : zl b = false) (hn : pc + 3 = nx) (kk : zE X M k w nx (a0 :: a1 :: a2 :: a3 :: b :: zI (x + n) :: tl) st sh I L R Q) : zE X M k w pc (a0 :: a1 :: a2 :: a3 :: b :: zI x :: tl) st sh I L R Q := by
  subst hn
  exact zE_step (fun G p l e Rm s m args below meth c H locs cells slots Qf arr F hl kk => (by
    obtain ⟨kx, hkx⟩ := List.getElem?_of_mem (zlp_mem (G := G) (i := 0) (ls := (a0 :: a1 :: a2 :: a3 :: b :: zI x :: tl)) (j := 5) (v := zI x) rfl rfl)
    exact lv_iinc (v := Int32.ofInt (x + n)) F.1 F.2.1 hd hl (k := kx) (by rw [Nat.zero_add] at hkx; exact hkx) (by rw [Int32.ofInt_add]) hi rfl (fun arr' hl' => kk arr' (lv_mono hl' (zst1_sub (zst1_pat [a0, a1, a2, a3] hb)))))) kk
theorem z_iload6 (nx : Nat) {a0 a1 a2 a3 a4 a5 : zV} {tl : List zV} {x : Int} (hd : decode (zmc M) pc = .ok (.iload 6, 2)) (hn : pc + 2 = nx) (kk : zE X M k w nx (a0 :: a1 :: a2 :: a3 :: a4 :: a5 :: zI x :: tl) (zI x :: st) sh I L R Q) : zE X M k w pc (a0 :: a1 :: a2 :: a3 :: a4 :: a5 :: zI x :: tl) st sh I L R Q := by
  subst hn
  exact zE_step (fun G p l e Rm s m args below meth c H locs cells slots Qf arr F hl kk => lv_iload F.1 F.2.1 hd (zlp_at hl (i := 6) (v := zI x) rfl rfl) (kk arr hl)) kk
theorem z_lload6 (nx : Nat) {a0 a1 a2 a3 a4 a5 : zV} {tl : List zV} {x : Int} (hd : decode (zmc M) pc = .ok (.lload 6, 2)) (hn : pc + 2 = nx) (kk : zE X M k w nx (a0 :: a1 :: a2 :: a3 :: a4 :: a5 :: zL x :: tl) (zL x :: st) sh I L R Q) : zE X M k w pc (a0 :: a1 :: a2 :: a3 :: a4 :: a5 :: zL x :: tl) st sh I L R Q := by
  subst hn
  exact zE_step (fun G p l e Rm s m args below meth c H locs cells slots Qf arr F hl kk => lv_lload F.1 F.2.1 hd (zlp_at hl (i := 6) (v := zL x) rfl rfl) (kk arr hl)) kk
theorem z_aload6 (nx : Nat) {a0 a1 a2 a3 a4 a5 : zV} {tl : List zV} {x : Nat} (hd : decode (zmc M) pc = .ok (.aload 6, 2)) (hn : pc + 2 = nx) (kk : zE X M k w nx (a0 :: a1 :: a2 :: a3 :: a4 :: a5 :: zR x :: tl) (zR x :: st) sh I L R Q) : zE X M k w pc (a0 :: a1 :: a2 :: a3 :: a4 :: a5 :: zR x :: tl) st sh I L R Q := by
  subst hn
  exact zE_step (fun G p l e Rm s m args below meth c H locs cells slots Qf arr F hl kk => lv_aload F.1 F.2.1 hd (zlp_at hl (i := 6) (v := zR x) rfl rfl) (kk arr hl)) kk
theorem z_istore6 (nx : Nat) {a0 a1 a2 a3 a4 b c : zV} {tl : List zV} {x : Int} (hd : decode (zmc M) pc = .ok (.istore 6, 2)) (hi : 6 < zml M) (hb : zl b = false) (hn : pc + 2 = nx) (kk : zE X M k w nx (a0 :: a1 :: a2 :: a3 :: a4 :: b :: zI x :: tl) st sh I L R Q) : zE X M k w pc (a0 :: a1 :: a2 :: a3 :: a4 :: b :: c :: tl) (zI x :: st) sh I L R Q := by
  subst hn
  exact zE_step (fun G p l e Rm s m args below meth c H locs cells slots Qf arr F hl kk => lv_istore F.1 F.2.1 hd hl hi rfl (fun arr' hl' => kk arr' (lv_mono hl' (zst1_sub (zst1_pat [a0, a1, a2, a3, a4] hb))))) kk
theorem z_astore6 (nx : Nat) {a0 a1 a2 a3 a4 b c : zV} {tl : List zV} {x : Nat} (hd : decode (zmc M) pc = .ok (.astore 6, 2)) (hi : 6 < zml M) (hb : zl b = false) (hn : pc + 2 = nx) (kk : zE X M k w nx (a0 :: a1 :: a2 :: a3 :: a4 :: b :: zR x :: tl) st sh I L R Q) : zE X M k w pc (a0 :: a1 :: a2 :: a3 :: a4 :: b :: c :: tl) (zR x :: st) sh I L R Q := by
  subst hn
  exact zE_step (fun G p l e Rm s m args below meth c H locs cells slots Qf arr F hl kk => lv_astore F.1 F.2.1 hd hl hi rfl (fun arr' hl' => kk arr' (lv_mono hl' (zst1_sub (zst1_pat [a0, a1, a2, a3, a4] hb))))) kk
theorem z_lstore6 (nx : Nat) {a0 a1 a2 a3 a4 b c d : zV} {tl : List zV} {x : Int} (hd : decode (zmc M) pc = .ok (.lstore 6, 2)) (hi : 6+1 < zml M) (hb : zl b = false) (hn : pc + 2 = nx) (kk : zE X M k w nx (a0 :: a1 :: a2 :: a3 :: a4 :: b :: zL x :: zX :: tl) st sh I L R Q) : zE X M k w pc (a0 :: a1 :: a2 :: a3 :: a4 :: b :: c :: d :: tl) (zL x :: st) sh I L R Q := by
  subst hn
  exact zE_step (fun G p l e Rm s m args below meth c H locs cells slots Qf arr F hl kk => lv_lstore F.1 F.2.1 hd hl hi rfl (fun arr' hl' => kk arr' (lv_mono hl' (zst2_sub (zst2_pat [a0, a1, a2, a3, a4] hb))))) kk
theorem z_iinc6 (nx : Nat) {a0 a1 a2 a3 a4 b : zV} {tl : List zV} {x n : Int} (hd : decode (zmc M) pc = .ok (.iinc 6 n, 3)) (hi : 6 < zml M) (hb : zl b = false) (hn : pc + 3 = nx) (kk : zE X M k w nx (a0 :: a1 :: a2 :: a3 :: a4 :: b :: zI (x + n) :: tl) st sh I L R Q) : zE X M k w pc (a0 :: a1 :: a2 :: a3 :: a4 :: b :: zI x :: tl) st sh I L R Q := by
  subst hn
  exact zE_step (fun G p l e Rm s m args below meth c H locs cells slots Qf arr F hl kk => (by
    obtain ⟨kx, hkx⟩ := List.getElem?_of_mem (zlp_mem (G := G) (i := 0) (ls := (a0 :: a1 :: a2 :: a3 :: a4 :: b :: zI x :: tl)) (j := 6) (v := zI x) rfl rfl)
    exact lv_iinc (v := Int32.ofInt (x + n)) F.1 F.2.1 hd hl (k := kx) (by rw [Nat.zero_add] at hkx; exact hkx) (by rw [Int32.ofInt_add]) hi rfl (fun arr' hl' => kk arr' (lv_mono hl' (zst1_sub (zst1_pat [a0, a1, a2, a3, a4] hb)))))) kk
theorem z_iload7 (nx : Nat) {a0 a1 a2 a3 a4 a5 a6 : zV} {tl : List zV} {x : Int} (hd : decode (zmc M) pc = .ok (.iload 7, 2)) (hn : pc + 2 = nx) (kk : zE X M k w nx (a0 :: a1 :: a2 :: a3 :: a4 :: a5 :: a6 :: zI x :: tl) (zI x :: st) sh I L R Q) : zE X M k w pc (a0 :: a1 :: a2 :: a3 :: a4 :: a5 :: a6 :: zI x :: tl) st sh I L R Q := by
  subst hn
  exact zE_step (fun G p l e Rm s m args below meth c H locs cells slots Qf arr F hl kk => lv_iload F.1 F.2.1 hd (zlp_at hl (i := 7) (v := zI x) rfl rfl) (kk arr hl)) kk
theorem z_lload7 (nx : Nat) {a0 a1 a2 a3 a4 a5 a6 : zV} {tl : List zV} {x : Int} (hd : decode (zmc M) pc = .ok (.lload 7, 2)) (hn : pc + 2 = nx) (kk : zE X M k w nx (a0 :: a1 :: a2 :: a3 :: a4 :: a5 :: a6 :: zL x :: tl) (zL x :: st) sh I L R Q) : zE X M k w pc (a0 :: a1 :: a2 :: a3 :: a4 :: a5 :: a6 :: zL x :: tl) st sh I L R Q := by
  subst hn
  exact zE_step (fun G p l e Rm s m args below meth c H locs cells slots Qf arr F hl kk => lv_lload F.1 F.2.1 hd (zlp_at hl (i := 7) (v := zL x) rfl rfl) (kk arr hl)) kk
theorem z_aload7 (nx : Nat) {a0 a1 a2 a3 a4 a5 a6 : zV} {tl : List zV} {x : Nat} (hd : decode (zmc M) pc = .ok (.aload 7, 2)) (hn : pc + 2 = nx) (kk : zE X M k w nx (a0 :: a1 :: a2 :: a3 :: a4 :: a5 :: a6 :: zR x :: tl) (zR x :: st) sh I L R Q) : zE X M k w pc (a0 :: a1 :: a2 :: a3 :: a4 :: a5 :: a6 :: zR x :: tl) st sh I L R Q := by
  subst hn
  exact zE_step (fun G p l e Rm s m args below meth c H locs cells slots Qf arr F hl kk => lv_aload F.1 F.2.1 hd (zlp_at hl (i := 7) (v := zR x) rfl rfl) (kk arr hl)) kk
theorem z_istore7 (nx : Nat) {a0 a1 a2 a3 a4 a5 b c : zV} {tl : List zV} {x : Int} (hd : decode (zmc M) pc = .ok (.istore 7, 2)) (hi : 7 < zml M) (hb : zl b = false) (hn : pc + 2 = nx) (kk : zE X M k w nx (a0 :: a1 :: a2 :: a3 :: a4 :: a5 :: b :: zI x :: tl) st sh I L R Q) : zE X M k w pc (a0 :: a1 :: a2 :: a3 :: a4 :: a5 :: b :: c :: tl) (zI x :: st) sh I L R Q := by
  subst hn
  exact zE_step (fun G p l e Rm s m args below meth c H locs cells slots Qf arr F hl kk => lv_istore F.1 F.2.1 hd hl hi rfl (fun arr' hl' => kk arr' (lv_mono hl' (zst1_sub (zst1_pat [a0, a1, a2, a3, a4, a5] hb))))) kk
theorem z_astore7 (nx : Nat) {a0 a1 a2 a3 a4 a5 b c : zV} {tl : List zV} {x : Nat} (hd : decode (zmc M) pc = .ok (.astore 7, 2)) (hi : 7 < zml M) (hb : zl b = false) (hn : pc + 2 = nx) (kk : zE X M k w nx (a0 :: a1 :: a2 :: a3 :: a4 :: a5 :: b :: zR x :: tl) st sh I L R Q) : zE X M k w pc (a0 :: a1 :: a2 :: a3 :: a4 :: a5 :: b :: c :: tl) (zR x :: st) sh I L R Q := by
  subst hn
  exact zE_step (fun G p l e Rm s m args below meth c H locs cells slots Qf arr F hl kk => lv_astore F.1 F.2.1 hd hl hi rfl (fun arr' hl' => kk arr' (lv_mono hl' (zst1_sub (zst1_pat [a0, a1, a2, a3, a4, a5] hb))))) kk
theorem z_lstore7 (nx : Nat) {a0 a1 a2 a3 a4 a5 b c d : zV} {tl : List zV} {x : Int} (hd : decode (zmc M) pc = .ok (.lstore 7, 2)) (hi : 7+1 < zml M) (hb : zl b = false) (hn : pc + 2 = nx) (kk : zE X M k w nx (a0 :: a1 :: a2 :: a3 :: a4 :: a5 :: b :: zL x :: zX :: tl) st sh I L R Q) : zE X M k w pc (a0 :: a1 :: a2 :: a3 :: a4 :: a5 :: b :: c :: d :: tl) (zL x :: st) sh I L R Q := by
  subst hn
  exact zE_step (fun G p l e Rm s m args below meth c H locs cells slots Qf arr F hl kk => lv_lstore F.1 F.2.1 hd hl hi rfl (fun arr' hl' => kk arr' (lv_mono hl' (zst2_sub (zst2_pat [a0, a1, a2, a3, a4, a5] hb))))) kk
theorem z_iinc7 (nx : Nat) {a0 a1 a2 a3 a4 a5 b : zV} {tl : List zV} {x n : Int} (hd : decode (zmc M) pc = .ok (.iinc 7 n, 3)) (hi : 7 < zml M) (hb : zl b = false) (hn : pc + 3 = nx) (kk : zE X M k w nx (a0 :: a1 :: a2 :: a3 :: a4 :: a5 :: b :: zI (x + n) :: tl) st sh I L R Q) : zE X M k w pc (a0 :: a1 :: a2 :: a3 :: a4 :: a5 :: b :: zI x :: tl) st sh I L R Q := by
  subst hn
  exact zE_step (fun G p l e Rm s m args below meth c H locs cells slots Qf arr F hl kk => (by
    obtain ⟨kx, hkx⟩ := List.getElem?_of_mem (zlp_mem (G := G) (i := 0) (ls := (a0 :: a1 :: a2 :: a3 :: a4 :: a5 :: b :: zI x :: tl)) (j := 7) (v := zI x) rfl rfl)
    exact lv_iinc (v := Int32.ofInt (x + n)) F.1 F.2.1 hd hl (k := kx) (by rw [Nat.zero_add] at hkx; exact hkx) (by rw [Int32.ofInt_add]) hi rfl (fun arr' hl' => kk arr' (lv_mono hl' (zst1_sub (zst1_pat [a0, a1, a2, a3, a4, a5] hb)))))) kk
theorem z_iload8 (nx : Nat) {a0 a1 a2 a3 a4 a5 a6 a7 : zV} {tl : List zV} {x : Int} (hd : decode (zmc M) pc = .ok (.iload 8, 2)) (hn : pc + 2 = nx) (kk : zE X M k w nx (a0 :: a1 :: a2 :: a3 :: a4 :: a5 :: a6 :: a7 :: zI x :: tl) (zI x :: st) sh I L R Q) : zE X M k w pc (a0 :: a1 :: a2 :: a3 :: a4 :: a5 :: a6 :: a7 :: zI x :: tl) st sh I L R Q := by
  subst hn
  exact zE_step (fun G p l e Rm s m args below meth c H locs cells slots Qf arr F hl kk => lv_iload F.1 F.2.1 hd (zlp_at hl (i := 8) (v := zI x) rfl rfl) (kk arr hl)) kk
theorem z_lload8 (nx : Nat) {a0 a1 a2 a3 a4 a5 a6 a7 : zV} {tl : List zV} {x : Int} (hd : decode (zmc M) pc = .ok (.lload 8, 2)) (hn : pc + 2 = nx) (kk : zE X M k w nx (a0 :: a1 :: a2 :: a3 :: a4 :: a5 :: a6 :: a7 :: zL x :: tl) (zL x :: st) sh I L R Q) : zE X M k w pc (a0 :: a1 :: a2 :: a3 :: a4 :: a5 :: a6 :: a7 :: zL x :: tl) st sh I L R Q := by
  subst hn
  exact zE_step (fun G p l e Rm s m args below meth c H locs cells slots Qf arr F hl kk => lv_lload F.1 F.2.1 hd (zlp_at hl (i := 8) (v := zL x) rfl rfl) (kk arr hl)) kk
theorem z_aload8 (nx : Nat) {a0 a1 a2 a3 a4 a5 a6 a7 : zV} {tl : List zV} {x : Nat} (hd : decode (zmc M) pc = .ok (.aload 8, 2)) (hn : pc + 2 = nx) (kk : zE X M k w nx (a0 :: a1 :: a2 :: a3 :: a4 :: a5 :: a6 :: a7 :: zR x :: tl) (zR x :: st) sh I L R Q) : zE X M k w pc (a0 :: a1 :: a2 :: a3 :: a4 :: a5 :: a6 :: a7 :: zR x :: tl) st sh I L R Q := by
  subst hn
  exact zE_step (fun G p l e Rm s m args below meth c H locs cells slots Qf arr F hl kk => lv_aload F.1 F.2.1 hd (zlp_at hl (i := 8) (v := zR x) rfl rfl) (kk arr hl)) kk
theorem z_istore8 (nx : Nat) {a0 a1 a2 a3 a4 a5 a6 b c : zV} {tl : List zV} {x : Int} (hd : decode (zmc M) pc = .ok (.istore 8, 2)) (hi : 8 < zml M) (hb : zl b = false) (hn : pc + 2 = nx) (kk : zE X M k w nx (a0 :: a1 :: a2 :: a3 :: a4 :: a5 :: a6 :: b :: zI x :: tl) st sh I L R Q) : zE X M k w pc (a0 :: a1 :: a2 :: a3 :: a4 :: a5 :: a6 :: b :: c :: tl) (zI x :: st) sh I L R Q := by
  subst hn
  exact zE_step (fun G p l e Rm s m args below meth c H locs cells slots Qf arr F hl kk => lv_istore F.1 F.2.1 hd hl hi rfl (fun arr' hl' => kk arr' (lv_mono hl' (zst1_sub (zst1_pat [a0, a1, a2, a3, a4, a5, a6] hb))))) kk
theorem z_astore8 (nx : Nat) {a0 a1 a2 a3 a4 a5 a6 b c : zV} {tl : List zV} {x : Nat} (hd : decode (zmc M) pc = .ok (.astore 8, 2)) (hi : 8 < zml M) (hb : zl b = false) (hn : pc + 2 = nx) (kk : zE X M k w nx (a0 :: a1 :: a2 :: a3 :: a4 :: a5 :: a6 :: b :: zR x :: tl) st sh I L R Q) : zE X M k w pc (a0 :: a1 :: a2 :: a3 :: a4 :: a5 :: a6 :: b :: c :: tl) (zR x :: st) sh I L R Q := by
  subst hn
  exact zE_step (fun G p l e Rm s m args below meth c H locs cells slots Qf arr F hl kk => lv_astore F.1 F.2.1 hd hl hi rfl (fun arr' hl' => kk arr' (lv_mono hl' (zst1_sub (zst1_pat [a0, a1, a2, a3, a4, a5, a6] hb))))) kk
theorem z_lstore8 (nx : Nat) {a0 a1 a2 a3 a4 a5 a6 b c d : zV} {tl : List zV} {x : Int} (hd : decode (zmc M) pc = .ok (.lstore 8, 2)) (hi : 8+1 < zml M) (hb : zl b = false) (hn : pc + 2 = nx) (kk : zE X M k w nx (a0 :: a1 :: a2 :: a3 :: a4 :: a5 :: a6 :: b :: zL x :: zX :: tl) st sh I L R Q) : zE X M k w pc (a0 :: a1 :: a2 :: a3 :: a4 :: a5 :: a6 :: b :: c :: d :: tl) (zL x :: st) sh I L R Q := by
  subst hn
  exact zE_step (fun G p l e Rm s m args below meth c H locs cells slots Qf arr F hl kk => lv_lstore F.1 F.2.1 hd hl hi rfl (fun arr' hl' => kk arr' (lv_mono hl' (zst2_sub (zst2_pat [a0, a1, a2, a3, a4, a5, a6] hb))))) kk
theorem z_iinc8 (nx : Nat) {a0 a1 a2 a3 a4 a5 a6 b : zV} {tl : List zV} {x n : Int} (hd : decode (zmc M) pc = .ok (.iinc 8 n, 3)) (hi : 8 < zml M) (hb : zl b = false) (hn : pc + 3 = nx) (kk : zE X M k w nx (a0 :: a1 :: a2 :: a3 :: a4 :: a5 :: a6 :: b :: zI (x + n) :: tl) st sh I L R Q) : zE X M k w pc (a0 :: a1 :: a2 :: a3 :: a4 :: a5 :: a6 :: b :: zI x :: tl) st sh I L R Q := by
  subst hn
  exact zE_step (fun G p l e Rm s m args below meth c H locs cells slots Qf arr F hl kk => (by
    obtain ⟨kx, hkx⟩ := List.getElem?_of_mem (zlp_mem (G := G) (i := 0) (ls := (a0 :: a1 :: a2 :: a3 :: a4 :: a5 :: a6 :: b :: zI x :: tl)) (j := 8) (v := zI x) rfl rfl)
    exact lv_iinc (v := Int32.ofInt (x + n)) F.1 F.2.1 hd hl (k := kx) (by rw [Nat.zero_add] at hkx; exact hkx) (by rw [Int32.ofInt_add]) hi rfl (fun arr' hl' => kk arr' (lv_mono hl' (zst1_sub (zst1_pat [a0, a1, a2, a3, a4, a5, a6] hb)))))) kk
theorem z_iload9 (nx : Nat) {a0 a1 a2 a3 a4 a5 a6 a7 a8 : zV} {tl : List zV} {x : Int} (hd : decode (zmc M) pc = .ok (.iload 9, 2)) (hn : pc + 2 = nx) (kk : zE X M k w nx (a0 :: a1 :: a2 :: a3 :: a4 :: a5 :: a6 :: a7 :: a8 :: zI x :: tl) (zI x :: st) sh I L R Q) : zE X M k w pc (a0 :: a1 :: a2 :: a3 :: a4 :: a5 :: a6 :: a7 :: a8 :: zI x :: tl) st sh I L R Q := by
  subst hn
  exact zE_step (fun G p l e Rm s m args below meth c H locs cells slots Qf arr F hl kk => lv_iload F.1 F.2.1 hd (zlp_at hl (i := 9) (v := zI x) rfl rfl) (kk arr hl)) kk
theorem z_lload9 (nx : Nat) {a0 a1 a2 a3 a4 a5 a6 a7 a8 : zV} {tl : List zV} {x : Int} (hd : decode (zmc M) pc = .ok (.lload 9, 2)) (hn : pc + 2 = nx) (kk : zE X M k w nx (a0 :: a1 :: a2 :: a3 :: a4 :: a5 :: a6 :: a7 :: a8 :: zL x :: tl) (zL x :: st) sh I L R Q) : zE X M k w pc (a0 :: a1 :: a2 :: a3 :: a4 :: a5 :: a6 :: a7 :: a8 :: zL x :: tl) st sh I L R Q := by
  subst hn
  exact zE_step (fun G p l e Rm s m args below meth c H locs cells slots Qf arr F hl kk => lv_lload F.1 F.2.1 hd (zlp_at hl (i := 9) (v := zL x) rfl rfl) (kk arr hl)) kk
theorem z_aload9 (nx : Nat) {a0 a1 a2 a3 a4 a5 a6 a7 a8 : zV} {tl : List zV} {x : Nat} (hd : decode (zmc M) pc = .ok (.aload 9, 2)) (hn : pc + 2 = nx) (kk : zE X M k w nx (a0 :: a1 :: a2 :: a3 :: a4 :: a5 :: a6 :: a7 :: a8 :: zR x :: tl) (zR x :: st) sh I L R Q) : zE X M k w pc (a0 :: a1 :: a2 :: a3 :: a4 :: a5 :: a6 :: a7 :: a8 :: zR x :: tl) st sh I L R Q := by
  subst hn
  exact zE_step (fun G p l e Rm s m args below meth c H locs cells slots Qf arr F hl kk => lv_aload F.1 F.2.1 hd (zlp_at hl (i := 9) (v := zR x) rfl rfl) (kk arr hl)) kk
theorem z_istore9 (nx : Nat) {a0 a1 a2 a3 a4 a5 a6 a7 b c : zV} {tl : List zV} {x : Int} (hd : decode (zmc M) pc = .ok (.istore 9, 2)) (hi : 9 < zml M) (hb : zl b = false) (hn : pc + 2 = nx) (kk : zE X M k w nx (a0 :: a1 :: a2 :: a3 :: a4 :: a5 :: a6 :: a7 :: b :: zI x :: tl) st sh I L R Q) : zE X M k w pc (a0 :: a1 :: a2 :: a3 :: a4 :: a5 :: a6 :: a7 :: b :: c :: tl) (zI x :: st) sh I L R Q := by
  subst hn
  exact zE_step (fun G p l e Rm s m args below meth c H locs cells slots Qf arr F hl kk => lv_istore F.1 F.2.1 hd hl hi rfl (fun arr' hl' => kk arr' (lv_mono hl' (zst1_sub (zst1_pat [a0, a1, a2, a3, a4, a5, a6, a7] hb))))) kk
theorem z_astore9 (nx : Nat) {a0 a1 a2 a3 a4 a5 a6 a7 b c : zV} {tl : List zV} {x : Nat} (hd : decode (zmc M) pc = .ok (.astore 9, 2)) (hi : 9 < zml M) (hb : zl b = false) (hn : pc + 2 = nx) (kk : zE X M k w nx (a0 :: a1 :: a2 :: a3 :: a4 :: a5 :: a6 :: a7 :: b :: zR x :: tl) st sh I L R Q) : zE X M k w pc (a0 :: a1 :: a2 :: a3 :: a4 :: a5 :: a6 :: a7 :: b :: c :: tl) (zR x :: st) sh I L R Q := by
  subst hn
  exact zE_step (fun G p l e Rm s m args below meth c H locs cells slots Qf arr F hl kk => lv_astore F.1 F.2.1 hd hl hi rfl (fun arr' hl' => kk arr' (lv_mono hl' (zst1_sub (zst1_pat [a0, a1, a2, a3, a4, a5, a6, a7] hb))))) kk
theorem z_lstore9 (nx : Nat) {a0 a1 a2 a3 a4 a5 a6 a7 b c d : zV} {tl : List zV} {x : Int} (hd : decode (zmc M) pc = .ok (.lstore 9, 2)) (hi : 9+1 < zml M) (hb : zl b = false) (hn : pc + 2 = nx) (kk : zE X M k w nx (a0 :: a1 :: a2 :: a3 :: a4 :: a5 :: a6 :: a7 :: b :: zL x :: zX :: tl) st sh I L R Q) : zE X M k w pc (a0 :: a1 :: a2 :: a3 :: a4 :: a5 :: a6 :: a7 :: b :: c :: d :: tl) (zL x :: st) sh I L R Q := by
  subst hn
  exact zE_step (fun G p l e Rm s m args below meth c H locs cells slots Qf arr F hl kk => lv_lstore F.1 F.2.1 hd hl hi rfl (fun arr' hl' => kk arr' (lv_mono hl' (zst2_sub (zst2_pat [a0, a1, a2, a3, a4, a5, a6, a7] hb))))) kk
theorem z_iinc9 (nx : Nat) {a0 a1 a2 a3 a4 a5 a6 a7 b : zV} {tl : List zV} {x n : Int} (hd : decode (zmc M) pc = .ok (.iinc 9 n, 3)) (hi : 9 < zml M) (hb : zl b = false) (hn : pc + 3 = nx) (kk : zE X M k w nx (a0 :: a1 :: a2 :: a3 :: a4 :: a5 :: a6 :: a7 :: b :: zI (x + n) :: tl) st sh I L R Q) : zE X M k w pc (a0 :: a1 :: a2 :: a3 :: a4 :: a5 :: a6 :: a7 :: b :: zI x :: tl) st sh I L R Q := by
  subst hn
  exact zE_step (fun G p l e Rm s m args below meth c H locs cells slots Qf arr F hl kk => (by
    obtain ⟨kx, hkx⟩ := List.getElem?_of_mem (zlp_mem (G := G) (i := 0) (ls := (a0 :: a1 :: a2 :: a3 :: a4 :: a5 :: a6 :: a7 :: b :: zI x :: tl)) (j := 9) (v := zI x) rfl rfl)
    exact lv_iinc (v := Int32.ofInt (x + n)) F.1 F.2.1 hd hl (k := kx) (by rw [Nat.zero_add] at hkx; exact hkx) (by rw [Int32.ofInt_add]) hi rfl (fun arr' hl' => kk arr' (lv_mono hl' (zst1_sub (zst1_pat [a0, a1, a2, a3, a4, a5, a6, a7] hb)))))) kk
theorem z_iload10 (nx : Nat) {a0 a1 a2 a3 a4 a5 a6 a7 a8 a9 : zV} {tl : List zV} {x : Int} (hd : decode (zmc M) pc = .ok (.iload 10, 2)) (hn : pc + 2 = nx) (kk : zE X M k w nx (a0 :: a1 :: a2 :: a3 :: a4 :: a5 :: a6 :: a7 :: a8 :: a9 :: zI x :: tl) (zI x :: st) sh I L R Q) : zE X M k w pc (a0 :: a1 :: a2 :: a3 :: a4 :: a5 :: a6 :: a7 :: a8 :: a9 :: zI x :: tl) st sh I L R Q := by
  subst hn
  exact zE_step (fun G p l e Rm s m args below meth c H locs cells slots Qf arr F hl kk => lv_iload F.1 F.2.1 hd (zlp_at hl (i := 10) (v := zI x) rfl rfl) (kk arr hl)) kk
theorem z_lload10 (nx : Nat) {a0 a1 a2 a3 a4 a5 a6 a7 a8 a9 : zV} {tl : List zV} {x : Int} (hd : decode (zmc M) pc = .ok (.lload 10, 2)) (hn : pc + 2 = nx) (kk : zE X M k w nx (a0 :: a1 :: a2 :: a3 :: a4 :: a5 :: a6 :: a7 :: a8 :: a9 :: zL x :: tl) (zL x :: st) sh I L R Q) : zE X M k w pc (a0 :: a1 :: a2 :: a3 :: a4 :: a5 :: a6 :: a7 :: a8 :: a9 :: zL x :: tl) st sh I L R Q := by
  subst hn
  exact zE_step (fun G p l e Rm s m args below meth c H locs cells slots Qf arr F hl kk => lv_lload F.1 F.2.1 hd (zlp_at hl (i := 10) (v := zL x) rfl rfl) (kk arr hl)) kk
theorem z_aload10 (nx : Nat) {a0 a1 a2 a3 a4 a5 a6 a7 a8 a9 : zV} {tl : List zV} {x : Nat} (hd : decode (zmc M) pc = .ok (.aload 10, 2)) (hn : pc + 2 = nx) (kk : zE X M k w nx (a0 :: a1 :: a2 :: a3 :: a4 :: a5 :: a6 :: a7 :: a8 :: a9 :: zR x :: tl) (zR x :: st) sh I L R Q) : zE X M k w pc (a0 :: a1 :: a2 :: a3 :: a4 :: a5 :: a6 :: a7 :: a8 :: a9 :: zR x :: tl) st sh I L R Q := by
  subst hn
  exact zE_step (fun G p l e Rm s m args below meth c H locs cells slots Qf arr F hl kk => lv_aload F.1 F.2.1 hd (zlp_at hl (i := 10) (v := zR x) rfl rfl) (kk arr hl)) kk
theorem z_istore10 (nx : Nat) {a0 a1 a2 a3 a4 a5 a6 a7 a8 b c : zV} {tl : List zV} {x : Int} (hd : decode (zmc M) pc = .ok (.istore 10, 2)) (hi : 10 < zml M) (hb : zl b = false) (hn : pc + 2 = nx) (kk : zE X M k w nx (a0 :: a1 :: a2 :: a3 :: a4 :: a5 :: a6 :: a7 :: a8 :: b :: zI x :: tl) st sh I L R Q) : zE X M k w pc (a0 :: a1 :: a2 :: a3 :: a4 :: a5 :: a6 :: a7 :: a8 :: b :: c :: tl) (zI x :: st) sh I L R Q := by
  subst hn
  exact zE_step (fun G p l e Rm s m args below meth c H locs cells slots Qf arr F hl kk => lv_istore F.1 F.2.1 hd hl hi rfl (fun arr' hl' => kk arr' (lv_mono hl' (zst1_sub (zst1_pat [a0, a1, a2, a3, a4, a5, a6, a7, a8] hb))))) kk
theorem z_astore10 (nx : Nat) {a0 a1 a2 a3 a4 a5 a6 a7 a8 b c : zV} {tl : List zV} {x : Nat} (hd : decode (zmc M) pc = .ok (.astore 10, 2)) (hi : 10 < zml M) (hb : zl b = false) (hn : pc + 2 = nx) (kk : zE X M k w nx (a0 :: a1 :: a2 :: a3 :: a4 :: a5 :: a6 :: a7 :: a8 :: b :: zR x :: tl) st sh I L R Q) : zE X M k w pc (a0 :: a1 :: a2 :: a3 :: a4 :: a5 :: a6 :: a7 :: a8 :: b :: c :: tl) (zR x :: st) sh I L R Q := by
  subst hn
  exact zE_step (fun G p l e Rm s m args below meth c H locs cells slots Qf arr F hl kk => lv_astore F.1 F.2.1 hd hl hi rfl (fun arr' hl' => kk arr' (lv_mono hl' (zst1_sub (zst1_pat [a0, a1, a2, a3, a4, a5, a6, a7, a8] hb))))) kk
theorem z_lstore10 (nx : Nat) {a0 a1 a2 a3 a4 a5 a6 a7 a8 b c d : zV} {tl : List zV} {x : Int} (hd : decode (zmc M) pc = .ok (.lstore 10, 2)) (hi : 10+1 < zml M) (hb : zl b = false) (hn : pc + 2 = nx) (kk : zE X M k w nx (a0 :: a1 :: a2 :: a3 :: a4 :: a5 :: a6 :: a7 :: a8 :: b :: zL x :: zX :: tl) st sh I L R Q) : zE X M k w pc (a0 :: a1 :: a2 :: a3 :: a4 :: a5 :: a6 :: a7 :: a8 :: b :: c :: d :: tl) (zL x :: st) sh I L R Q := by
  subst hn
  exact zE_step (fun G p l e Rm s m args below meth c H locs cells slots Qf arr F hl kk => lv_lstore F.1 F.2.1 hd hl hi rfl (fun arr' hl' => kk arr' (lv_mono hl' (zst2_sub (zst2_pat [a0, a1, a2, a3, a4, a5, a6, a7, a8] hb))))) kk
theorem z_iinc10 (nx : Nat) {a0 a1 a2 a3 a4 a5 a6 a7 a8 b : zV} {tl : List zV} {x n : Int} (hd : decode (zmc M) pc = .ok (.iinc 10 n, 3)) (hi : 10 < zml M) (hb : zl b = false) (hn : pc + 3 = nx) (kk : zE X M k w nx (a0 :: a1 :: a2 :: a3 :: a4 :: a5 :: a6 :: a7 :: a8 :: b :: zI (x + n) :: tl) st sh I L R Q) : zE X M k w pc (a0 :: a1 :: a2 :: a3 :: a4 :: a5 :: a6 :: a7 :: a8 :: b :: zI x :: tl) st sh I L R Q := by
  subst hn
  exact zE_step (fun G p l e Rm s m args below meth c H locs cells slots Qf arr F hl kk => (by
    obtain ⟨kx, hkx⟩ := List.getElem?_of_mem (zlp_mem (G := G) (i := 0) (ls := (a0 :: a1 :: a2 :: a3 :: a4 :: a5 :: a6 :: a7 :: a8 :: b :: zI x :: tl)) (j := 10) (v := zI x) rfl rfl)
    exact lv_iinc (v := Int32.ofInt (x + n)) F.1 F.2.1 hd hl (k := kx) (by rw [Nat.zero_add] at hkx; exact hkx) (by rw [Int32.ofInt_add]) hi rfl (fun arr' hl' => kk arr' (lv_mono hl' (zst1_sub (zst1_pat [a0, a1, a2, a3, a4, a5, a6, a7, a8] hb)))))) kk
theorem z_iload11 (nx : Nat) {a0 a1 a2 a3 a4 a5 a6 a7 a8 a9 a10 : zV} {tl : List zV} {x : Int} (hd : decode (zmc M) pc = .ok (.iload 11, 2)) (hn : pc + 2 = nx) (kk : zE X M k w nx (a0 :: a1 :: a2 :: a3 :: a4 :: a5 :: a6 :: a7 :: a8 :: a9 :: a10 :: zI x :: tl) (zI x :: st) sh I L R Q) : zE X M k w pc (a0 :: a1 :: a2 :: a3 :: a4 :: a5 :: a6 :: a7 :: a8 :: a9 :: a10 :: zI x :: tl) st sh I L R Q := by
  subst hn
  exact zE_step (fun G p l e Rm s m args below meth c H locs cells slots Qf arr F hl kk => lv_iload F.1 F.2.1 hd (zlp_at hl (i := 11) (v := zI x) rfl rfl) (kk arr hl)) kk
theorem z_lload11 (nx : Nat) {a0 a1 a2 a3 a4 a5 a6 a7 a8 a9 a10 : zV} {tl : List zV} {x : Int} (hd : decode (zmc M) pc = .ok (.lload 11, 2)) (hn : pc + 2 = nx) (kk : zE X M k w nx (a0 :: a1 :: a2 :: a3 :: a4 :: a5 :: a6 :: a7 :: a8 :: a9 :: a10 :: zL x :: tl) (zL x :: st) sh I L R Q) : zE X M k w pc (a0 :: a1 :: a2 :: a3 :: a4 :: a5 :: a6 :: a7 :: a8 :: a9 :: a10 :: zL x :: tl) st sh I L R Q := by
  subst hn
  exact zE_step (fun G p l e Rm s m args below meth c H locs cells slots Qf arr F hl kk => lv_lload F.1 F.2.1 hd (zlp_at hl (i := 11) (v := zL x) rfl rfl) (kk arr hl)) kk
theorem z_aload11 (nx : Nat) {a0 a1 a2 a3 a4 a5 a6 a7 a8 a9 a10 : zV} {tl : List zV} {x : Nat} (hd : decode (zmc M) pc = .ok (.aload 11, 2)) (hn : pc + 2 = nx) (kk : zE X M k w nx (a0 :: a1 :: a2 :: a3 :: a4 :: a5 :: a6 :: a7 :: a8 :: a9 :: a10 :: zR x :: tl) (zR x :: st) sh I L R Q) : zE X M k w pc (a0 :: a1 :: a2 :: a3 :: a4 :: a5 :: a6 :: a7 :: a8 :: a9 :: a10 :: zR x :: tl) st sh I L R Q := by
  subst hn
  exact zE_step (fun G p l e Rm s m args below meth c H locs cells slots Qf arr F hl kk => lv_aload F.1 F.2.1 hd (zlp_at hl (i := 11) (v := zR x) rfl rfl) (kk arr hl)) kk
theorem z_istore11 (nx : Nat) {a0 a1 a2 a3 a4 a5 a6 a7 a8 a9 b c : zV} {tl : List zV} {x : Int} (hd : decode (zmc M) pc = .ok (.istore 11, 2)) (hi : 11 < zml M) (hb : zl b = false) (hn : pc + 2 = nx) (kk : zE X M k w nx (a0 :: a1 :: a2 :: a3 :: a4 :: a5 :: a6 :: a7 :: a8 :: a9 :: b :: zI x :: tl) st sh I L R Q) : zE X M k w pc (a0 :: a1 :: a2 :: a3 :: a4 :: a5 :: a6 :: a7 :: a8 :: a9 :: b :: c :: tl) (zI x :: st) sh I L R Q := by
  subst hn
  exact zE_step (fun G p l e Rm s m args below meth c H locs cells slots Qf arr F hl kk => lv_istore F.1 F.2.1 hd hl hi rfl (fun arr' hl' => kk arr' (lv_mono hl' (zst1_sub (zst1_pat [a0, a1, a2, a3, a4, a5, a6, a7, a8, a9] hb))))) kk
theorem z_astore11 (nx : Nat) {a0 a1 a2 a3 a4 a5 a6 a7 a8 a9 b c : zV} {tl : List zV} {x : Nat} (hd : decode (zmc M) pc = .ok (.astore 11, 2)) (hi : 11 < zml M) (hb : zl b = false) (hn : pc + 2 = nx) (kk : zE X M k w nx (a0 :: a1 :: a2 :: a3 :: a4 :: a5 :: a6 :: a7 :: a8 :: a9 :: b :: zR x :: tl) st sh I L R Q) : zE X M k w pc (a0 :: a1 :: a2 :: a3 :: a4 :: a5 :: a6 :: a7 :: a8 :: a9 :: b :: c :: tl) (zR x :: st) sh I L R Q := by
  subst hn
  exact zE_step (fun G p l e Rm s m args below meth c H locs cells slots Qf arr F hl kk => lv_astore F.1 F.2.1 hd hl hi rfl (fun arr' hl' => kk arr' (lv_mono hl' (zst1_sub (zst1_pat [a0, a1, a2, a3, a4, a5, a6, a7, a8, a9] hb))))) kk
theorem z_lstore11 (nx : Nat) {a0 a1 a2 a3 a4 a5 a6 a7 a8 a9 b c d : zV} {tl : List zV} {x : Int} (hd : decode (zmc M) pc = .ok (.lstore 11, 2)) (hi : 11+1 < zml M) (hb : zl b = false) (hn : pc + 2 = nx) (kk : zE X M k w nx (a0 :: a1 :: a2 :: a3 :: a4 :: a5 :: a6 :: a7 :: a8 :: a9 :: b :: zL x :: zX :: tl) st sh I L R Q) : zE X M k w pc (a0 :: a1 :: a2 :: a3 :: a4 :: a5 :: a6 :: a7 :: a8 :: a9 :: b :: c :: d :: tl) (zL x :: st) sh I L R Q := by
  subst hn
  exact zE_step (fun G p l e Rm s m args below meth c H locs cells slots Qf arr F hl kk => lv_lstore F.1 F.2.1 hd hl hi rfl (fun arr' hl' => kk arr' (lv_mono hl' (zst2_sub (zst2_pat [a0, a1, a2, a3, a4, a5, a6, a7, a8, a9] hb))))) kk
theorem z_iinc11 (nx : Nat) {a0 a1 a2 a3 a4 a5 a6 a7 a8 a9 b : zV} {tl : List zV} {x n : Int} (hd : decode (zmc M) pc = .ok (.iinc 11 n, 3)) (hi : 11 < zml M) (hb : zl b = false) (hn : pc + 3 = nx) (kk : zE X M k w nx (a0 :: a1 :: a2 :: a3 :: a4 :: a5 :: a6 :: a7 :: a8 :: a9 :: b :: zI (x + n) :: tl) st sh I L R Q) : zE X M k w pc (a0 :: a1 :: a2 :: a3 :: a4 :: a5 :: a6 :: a7 :: a8 :: a9 :: b :: zI x :: tl) st sh I L R Q := by
  subst hn
  exact zE_step (fun G p l e Rm s m args below meth c H locs cells slots Qf arr F hl kk => (by
    obtain ⟨kx, hkx⟩ := List.getElem?_of_mem (zlp_mem (G := G) (i := 0) (ls := (a0 :: a1 :: a2 :: a3 :: a4 :: a5 :: a6 :: a7 :: a8 :: a9 :: b :: zI x :: tl)) (j := 11) (v := zI x) rfl rfl)
    exact lv_iinc (v := Int32.ofInt (x + n)) F.1 F.2.1 hd hl (k := kx) (by rw [Nat.zero_add] at hkx; exact hkx) (by rw [Int32.ofInt_add]) hi rfl (fun arr' hl' => kk arr' (lv_mono hl' (zst1_sub (zst1_pat [a0, a1, a2, a3, a4, a5, a6, a7, a8, a9] hb)))))) kk
theorem z_iload12 (nx : Nat) {a0 a1 a2 a3 a4 a5 a6 a7 a8 a9 a10 a11 : zV} {tl : List zV} {x : Int} (hd : decode (zmc M) pc = .ok (.iload 12, 2)) (hn : pc + 2 = nx) (kk : zE X M k w nx (a0 :: a1 :: a2 :: a3 :: a4 :: a5 :: a6 :: a7 :: a8 :: a9 :: a10 :: a11 :: zI x :: tl) (zI x :: st) sh I L R Q) : zE X M k w pc (a0 :: a1 :: a2 :: a3 :: a4 :: a5 :: a6 :: a7 :: a8 :: a9 :: a10 :: a11 :: zI x :: tl) st sh I L R Q := by
  subst hn
  exact zE_step (fun G p l e Rm s m args below meth c H locs cells slots Qf arr F hl kk => lv_iload F.1 F.2.1 hd (zlp_at hl (i := 12) (v := zI x) rfl rfl) (kk arr hl)) kk
theorem z_lload12 (nx : Nat) {a0 a1 a2 a3 a4 a5 a6 a7 a8 a9 a10 a11 : zV} {tl : List zV} {x : Int} (hd : decode (zmc M) pc = .ok (.lload 12, 2)) (hn : pc + 2 = nx) (kk : zE X M k w nx (a0 :: a1 :: a2 :: a3 :: a4 :: a5 :: a6 :: a7 :: a8 :: a9 :: a10 :: a11 :: zL x :: tl) (zL x :: st) sh I L R Q) : zE X M k w pc (a0 :: a1 :: a2 :: a3 :: a4 :: a5 :: a6 :: a7 :: a8 :: a9 :: a10 :: a11 :: zL x :: tl) st sh I L R Q := by
  subst hn
  exact zE_step (fun G p l e Rm s m args below meth c H locs cells slots Qf arr F hl kk => lv_lload F.1 F.2.1 hd (zlp_at hl (i := 12) (v := zL x) rfl rfl) (kk arr hl)) kk
theorem z_aload12 (nx : Nat) {a0 a1 a2 a3 a4 a5 a6 a7 a8 a9 a10 a11 : zV} {tl : List zV} {x : Nat} (hd : decode (zmc M) pc = .ok (.aload 12, 2)) (hn : pc + 2 = nx) (kk : zE X M k w nx (a0 :: a1 :: a2 :: a3 :: a4 :: a5 :: a6 :: a7 :: a8 :: a9 :: a10 :: a11 :: zR x :: tl) (zR x :: st) sh I L R Q) : zE X M k w pc (a0 :: a1 :: a2 :: a3 :: a4 :: a5 :: a6 :: a7 :: a8 :: a9 :: a10 :: a11 :: zR x :: tl) st sh I L R Q := by
  subst hn
  exact zE_step (fun G p l e Rm s m args below meth c H locs cells slots Qf arr F hl kk => lv_aload F.1 F.2.1 hd (zlp_at hl (i := 12) (v := zR x) rfl rfl) (kk arr hl)) kk
theorem z_istore12 (nx : Nat) {a0 a1 a2 a3 a4 a5 a6 a7 a8 a9 a10 b c : zV} {tl : List zV} {x : Int} (hd : decode (zmc M) pc = .ok (.istore 12, 2)) (hi : 12 < zml M) (hb : zl b = false) (hn : pc + 2 = nx) (kk : zE X M k w nx (a0 :: a1 :: a2 :: a3 :: a4 :: a5 :: a6 :: a7 :: a8 :: a9 :: a10 :: b :: zI x :: tl) st sh I L R Q) : zE X M k w pc (a0 :: a1 :: a2 :: a3 :: a4 :: a5 :: a6 :: a7 :: a8 :: a9 :: a10 :: b :: c :: tl) (zI x :: st) sh I L R Q := by
  subst hn
  exact zE_step (fun G p l e Rm s m args below meth c H locs cells slots Qf arr F hl kk => lv_istore F.1 F.2.1 hd hl hi rfl (fun arr' hl' => kk arr' (lv_mono hl' (zst1_sub (zst1_pat [a0, a1, a2, a3, a4, a5, a6, a7, a8, a9, a10] hb))))) kk
theorem z_astore12 (nx : Nat) {a0 a1 a2 a3 a4 a5 a6 a7 a8 a9 a10 b c : zV} {tl : List zV} {x : Nat} (hd : decode (zmc M) pc = .ok (.astore 12, 2)) (hi : 12 < zml M) (hb : zl b = false) (hn : pc + 2 = nx) (kk : zE X M k w nx (a0 :: a1 :: a2 :: a3 :: a4 :: a5 :: a6 :: a7 :: a8 :: a9 :: a10 :: b :: zR x :: tl) st sh I L R Q) : zE X M k w pc (a0 :: a1 :: a2 :: a3 :: a4 :: a5 :: a6 :: a7 :: a8 :: a9 :: a10 :: b :: c :: tl) (zR x :: st) sh I L R Q := by
  subst hn
  exact zE_step (fun G p l e Rm s m args below meth c H locs cells slots Qf arr F hl kk => lv_astore F.1 F.2.1 hd hl hi rfl (fun arr' hl' => kk arr' (lv_mono hl' (zst1_sub (zst1_pat [a0, a1, a2, a3, a4, a5, a6, a7, a8, a9, a10] hb))))) kk
theorem z_lstore12 (nx : Nat) {a0 a1 a2 a3 a4 a5 a6 a7 a8 a9 a10 b c d : zV} {tl : List zV} {x : Int} (hd : decode (zmc M) pc = .ok (.lstore 12, 2)) (hi : 12+1 < zml M) (hb : zl b = false) (hn : pc + 2 = nx) (kk : zE X M k w nx (a0 :: a1 :: a2 :: a3 :: a4 :: a5 :: a6 :: a7 :: a8 :: a9 :: a10 :: b :: zL x :: zX :: tl) st sh I L R Q) : zE X M k w pc (a0 :: a1 :: a2 :: a3 :: a4 :: a5 :: a6 :: a7 :: a8 :: a9 :: a10 :: b :: c :: d :: tl) (zL x :: st) sh I L R Q := by
  subst hn
  exact zE_step (fun G p l e Rm s m args below meth c H locs cells slots Qf arr F hl kk => lv_lstore F.1 F.2.1 hd hl hi rfl (fun arr' hl' => kk arr' (lv_mono hl' (zst2_sub (zst2_pat [a0, a1, a2, a3, a4, a5, a6, a7, a8, a9, a10] hb))))) kk
theorem z_iinc12 (nx : Nat) {a0 a1 a2 a3 a4 a5 a6 a7 a8 a9 a10 b : zV} {tl : List zV} {x n : Int} (hd : decode (zmc M) pc = .ok (.iinc 12 n, 3)) (hi : 12 < zml M) (hb : zl b = false) (hn : pc + 3 = nx) (kk : zE X M k w nx (a0 :: a1 :: a2 :: a3 :: a4 :: a5 :: a6 :: a7 :: a8 :: a9 :: a10 :: b :: zI (x + n) :: tl) st sh I L R Q) : zE X M k w pc (a0 :: a1 :: a2 :: a3 :: a4 :: a5 :: a6 :: a7 :: a8 :: a9 :: a10 :: b :: zI x :: tl) st sh I L R Q := by
  subst hn
  exact zE_step (fun G p l e Rm s m args below meth c H locs cells slots Qf arr F hl kk => (by
    obtain ⟨kx, hkx⟩ := List.getElem?_of_mem (zlp_mem (G := G) (i := 0) (ls := (a0 :: a1 :: a2 :: a3 :: a4 :: a5 :: a6 :: a7 :: a8 :: a9 :: a10 :: b :: zI x :: tl)) (j := 12) (v := zI x) rfl rfl)
    exact lv_iinc (v := Int32.ofInt (x + n)) F.1 F.2.1 hd hl (k := kx) (by rw [Nat.zero_add] at hkx; exact hkx) (by rw [Int32.ofInt_add]) hi rfl (fun arr' hl' => kk arr' (lv_mono hl' (zst1_sub (zst1_pat [a0, a1, a2, a3, a4, a5, a6, a7, a8, a9, a10] hb)))))) kk
theorem z_iload13 (nx : Nat) {a0 a1 a2 a3 a4 a5 a6 a7 a8 a9 a10 a11 a12 : zV} {tl : List zV} {x : Int} (hd : decode (zmc M) pc = .ok (.iload 13, 2)) (hn : pc + 2 = nx) (kk : zE X M k w nx (a0 :: a1 :: a2 :: a3 :: a4 :: a5 :: a6 :: a7 :: a8 :: a9 :: a10 :: a11 :: a12 :: zI x :: tl) (zI x :: st) sh I L R Q) : zE X M k w pc (a0 :: a1 :: a2 :: a3 :: a4 :: a5 :: a6 :: a7 :: a8 :: a9 :: a10 :: a11 :: a12 :: zI x :: tl) st sh I L R Q := by
  subst hn
  exact zE_step (fun G p l e Rm s m args below meth c H locs cells slots Qf arr F hl kk => lv_iload F.1 F.2.1 hd (zlp_at hl (i := 13) (v := zI x) rfl rfl) (kk arr hl)) kk
theorem z_lload13 (nx : Nat) {a0 a1 a2 a3 a4 a5 a6 a7 a8 a9 a10 a11 a12 : zV} {tl : List zV} {x : Int} (hd : decode (zmc M) pc = .ok (.lload 13, 2)) (hn : pc + 2 = nx) (kk : zE X M k w nx (a0 :: a1 :: a2 :: a3 :: a4 :: a5 :: a6 :: a7 :: a8 :: a9 :: a10 :: a11 :: a12 :: zL x :: tl) (zL x :: st) sh I L R Q) : zE X M k w pc (a0 :: a1 :: a2 :: a3 :: a4 :: a5 :: a6 :: a7 :: a8 :: a9 :: a10 :: a11 :: a12 :: zL x :: tl) st sh I L R Q := by
  subst hn
  exact zE_step (fun G p l e Rm s m args below meth c H locs cells slots Qf arr F hl kk => lv_lload F.1 F.2.1 hd (zlp_at hl (i := 13) (v := zL x) rfl rfl) (kk arr hl)) kk
theorem z_aload13 (nx : Nat) {a0 a1 a2 a3 a4 a5 a6 a7 a8 a9 a10 a11 a12 : zV} {tl : List zV} {x : Nat} (hd : decode (zmc M) pc = .ok (.aload 13, 2)) (hn : pc + 2 = nx) (kk : zE X M k w nx (a0 :: a1 :: a2 :: a3 :: a4 :: a5 :: a6 :: a7 :: a8 :: a9 :: a10 :: a11 :: a12 :: zR x :: tl) (zR x :: st) sh I L R Q) : zE X M k w pc (a0 :: a1 :: a2 :: a3 :: a4 :: a5 :: a6 :: a7 :: a8 :: a9 :: a10 :: a11 :: a12 :: zR x :: tl) st sh I L R Q := by
  subst hn
  exact zE_step (fun G p l e Rm s m args below meth c H locs cells slots Qf arr F hl kk => lv_aload F.1 F.2.1 hd (zlp_at hl (i := 13) (v := zR x) rfl rfl) (kk arr hl)) kk
theorem z_istore13 (nx : Nat) {a0 a1 a2 a3 a4 a5 a6 a7 a8 a9 a10 a11 b c : zV} {tl : List zV} {x : Int} (hd : decode (zmc M) pc = .ok (.istore 13, 2)) (hi : 13 < zml M) (hb : zl b = false) (hn : pc + 2 = nx) (kk : zE X M k w nx (a0 :: a1 :: a2 :: a3 :: a4 :: a5 :: a6 :: a7 :: a8 :: a9 :: a10 :: a11 :: b :: zI x :: tl) st sh I L R Q) : zE X M k w pc (a0 :: a1 :: a2 :: a3 :: a4 :: a5 :: a6 :: a7 :: a8 :: a9 :: a10 :: a11 :: b :: c :: tl) (zI x :: st) sh I L R Q := by
  subst hn
  exact zE_step (fun G p l e Rm s m args below meth c H locs cells slots Qf arr F hl kk => lv_istore F.1 F.2.1 hd hl hi rfl (fun arr' hl' => kk arr' (lv_mono hl' (zst1_sub (zst1_pat [a0, a1, a2, a3, a4, a5, a6, a7, a8, a9, a10, a11] hb))))) kk
theorem z_astore13 (nx : Nat) {a0 a1 a2 a3 a4 a5 a6 a7 a8 a9 a10 a11 b c : zV} {tl : List zV} {x : Nat} (hd : decode (zmc M) pc = .ok (.astore 13, 2)) (hi : 13 < zml M) (hb : zl b = false) (hn : pc + 2 = nx) (kk : zE X M k w nx (a0 :: a1 :: a2 :: a3 :: a4 :: a5 :: a6 :: a7 :: a8 :: a9 :: a10 :: a11 :: b :: zR x :: tl) st sh I L R Q) : zE X M k w pc (a0 :: a1 :: a2 :: a3 :: a4 :: a5 :: a6 :: a7 :: a8 :: a9 :: a10 :: a11 :: b :: c :: tl) (zR x :: st) sh I L R Q := by
  subst hn
  exact zE_step (fun G p l e Rm s m args below meth c H locs cells slots Qf arr F hl kk => lv_astore F.1 F.2.1 hd hl hi rfl (fun arr' hl' => kk arr' (lv_mono hl' (zst1_sub (zst1_pat [a0, a1, a2, a3, a4, a5, a6, a7, a8, a9, a10, a11] hb))))) kk
theorem z_lstore13 (nx : Nat) {a0 a1 a2 a3 a4 a5 a6 a7 a8 a9 a10 a11 b c d : zV} {tl : List zV} {x : Int} (hd : decode (zmc M) pc = .ok (.lstore 13, 2)) (hi : 13+1 < zml M) (hb : zl b = false) (hn : pc + 2 = nx) (kk : zE X M k w nx (a0 :: a1 :: a2 :: a3 :: a4 :: a5 :: a6 :: a7 :: a8 :: a9 :: a10 :: a11 :: b :: zL x :: zX :: tl) st sh I L R Q) : zE X M k w pc (a0 :: a1 :: a2 :: a3 :: a4 :: a5 :: a6 :: a7 :: a8 :: a9 :: a10 :: a11 :: b :: c :: d :: tl) (zL x :: st) sh I L R Q := by
  subst hn
  exact zE_step (fun G p l e Rm s m args below meth c H locs cells slots Qf arr F hl kk => lv_lstore F.1 F.2.1 hd hl hi rfl (fun arr' hl' => kk arr' (lv_mono hl' (zst2_sub (zst2_pat [a0, a1, a2, a3, a4, a5, a6, a7, a8, a9, a10, a11] hb))))) kk
theorem z_iinc13 (nx : Nat) {a0 a1 a2 a3 a4 a5 a6 a7 a8 a9 a10 a11 b : zV} {tl : List zV} {x n : Int} (hd : decode (zmc M) pc = .ok (.iinc 13 n, 3)) (hi : 13 < zml M) (hb : zl b = false) (hn : pc + 3 = nx) (kk : zE X M k w nx (a0 :: a1 :: a2 :: a3 :: a4 :: a5 :: a6 :: a7 :: a8 :: a9 :: a10 :: a11 :: b :: zI (x + n) :: tl) st sh I L R Q) : zE X M k w pc (a0 :: a1 :: a2 :: a3 :: a4 :: a5 :: a6 :: a7 :: a8 :: a9 :: a10 :: a11 :: b :: zI x :: tl) st sh I L R Q := by
  subst hn
  exact zE_step (fun G p l e Rm s m args below meth c H locs cells slots Qf arr F hl kk => (by
    obtain ⟨kx, hkx⟩ := List.getElem?_of_mem (zlp_mem (G := G) (i := 0) (ls := (a0 :: a1 :: a2 :: a3 :: a4 :: a5 :: a6 :: a7 :: a8 :: a9 :: a10 :: a11 :: b :: zI x :: tl)) (j := 13) (v := zI x) rfl rfl)
    exact lv_iinc (v := Int32.ofInt (x + n)) F.1 F.2.1 hd hl (k := kx) (by rw [Nat.zero_add] at hkx; exact hkx) (by rw [Int32.ofInt_add]) hi rfl (fun arr' hl' => kk arr' (lv_mono hl' (zst1_sub (zst1_pat [a0, a1, a2, a3, a4, a5, a6, a7, a8, a9, a10, a11] hb)))))) kk
theorem z_iload14 (nx : Nat) {a0 a1 a2 a3 a4 a5 a6 a7 a8 a9 a10 a11 a12 a13 : zV} {tl : List zV} {x : Int} (hd : decode (zmc M) pc = .ok (.iload 14, 2)) (hn : pc + 2 = nx) (kk : zE X M k w nx (a0 :: a1 :: a2 :: a3 :: a4 :: a5 :: a6 :: a7 :: a8 :: a9 :: a10 :: a11 :: a12 :: a13 :: zI x :: tl) (zI x :: st) sh I L R Q) : zE X M k w pc (a0 :: a1 :: a2 :: a3 :: a4 :: a5 :: a6 :: a7 :: a8 :: a9 :: a10 :: a11 :: a12 :: a13 :: zI x :: tl) st sh I L R Q := by
  subst hn
  exact zE_step (fun G p l e Rm s m args below meth c H locs cells slots Qf arr F hl kk => lv_iload F.1 F.2.1 hd (zlp_at hl (i := 14) (v := zI x) rfl rfl) (kk arr hl)) kk
theorem z_lload14 (nx : Nat) {a0 a1 a2 a3 a4 a5 a6 a7 a8 a9 a10 a11 a12 a13 : zV} {tl : List zV} {x : Int} (hd : decode (zmc M) pc = .ok (.lload 14, 2)) (hn : pc + 2 = nx) (kk : zE X M k w nx (a0 :: a1 :: a2 :: a3 :: a4 :: a5 :: a6 :: a7 :: a8 :: a9 :: a10 :: a11 :: a12 :: a13 :: zL x :: tl) (zL x :: st) sh I L R Q) : zE X M k w pc (a0 :: a1 :: a2 :: a3 :: a4 :: a5 :: a6 :: a7 :: a8 :: a9 :: a10 :: a11 :: a12 :: a13 :: zL x :: tl) st sh I L R Q := by
  subst hn
  exact zE_step (fun G p l e Rm s m args below meth c H locs cells slots Qf arr F hl kk => lv_lload F.1 F.2.1 hd (zlp_at hl (i := 14) (v := zL x) rfl rfl) (kk arr hl)) kk
theorem z_aload14 (nx : Nat) {a0 a1 a2 a3 a4 a5 a6 a7 a8 a9 a10 a11 a12 a13 : zV} {tl : List zV} {x : Nat} (hd : decode (zmc M) pc = .ok (.aload 14, 2)) (hn : pc + 2 = nx) (kk : zE X M k w nx (a0 :: a1 :: a2 :: a3 :: a4 :: a5 :: a6 :: a7 :: a8 :: a9 :: a10 :: a11 :: a12 :: a13 :: zR x :: tl) (zR x :: st) sh I L R Q) : zE X M k w pc (a0 :: a1 :: a2 :: a3 :: a4 :: a5 :: a6 :: a7 :: a8 :: a9 :: a10 :: a11 :: a12 :: a13 :: zR x :: tl) st sh I L R Q := by
  subst hn
  exact zE_step (fun G p l e Rm s m args below meth c H locs cells slots Qf arr F hl kk => lv_aload F.1 F.2.1 hd (zlp_at hl (i := 14) (v := zR x) rfl rfl) (kk arr hl)) kk
theorem z_istore14 (nx : Nat) {a0 a1 a2 a3 a4 a5 a6 a7 a8 a9 a10 a11 a12 b c : zV} {tl : List zV} {x : Int} (hd : decode (zmc M) pc = .ok (.istore 14, 2)) (hi : 14 < zml M) (hb : zl b = false) (hn : pc + 2 = nx) (kk : zE X M k w nx (a0 :: a1 :: a2 :: a3 :: a4 :: a5 :: a6 :: a7 :: a8 :: a9 :: a10 :: a11 :: a12 :: b :: zI x :: tl) st sh I L R Q) : zE X M k w pc (a0 :: a1 :: a2 :: a3 :: a4 :: a5 :: a6 :: a7 :: a8 :: a9 :: a10 :: a11 :: a12 :: b :: c :: tl) (zI x :: st) sh I L R Q := by
  subst hn
  exact zE_step (fun G p l e Rm s m args below meth c H locs cells slots Qf arr F hl kk => lv_istore F.1 F.2.1 hd hl hi rfl (fun arr' hl' => kk arr' (lv_mono hl' (zst1_sub (zst1_pat [a0, a1, a2, a3, a4, a5, a6, a7, a8, a9, a10, a11, a12] hb))))) kk
theorem z_astore14 (nx : Nat) {a0 a1 a2 a3 a4 a5 a6 a7 a8 a9 a10 a11 a12 b c : zV} {tl : List zV} {x : Nat} (hd : decode (zmc M) pc = .ok (.astore 14, 2)) (hi : 14 < zml M) (hb : zl b = false) (hn : pc + 2 = nx) (kk : zE X M k w nx (a0 :: a1 :: a2 :: a3 :: a4 :: a5 :: a6 :: a7 :: a8 :: a9 :: a10 :: a11 :: a12 :: b :: zR x :: tl) st sh I L R Q) : zE X M k w pc (a0 :: a1 :: a2 :: a3 :: a4 :: a5 :: a6 :: a7 :: a8 :: a9 :: a10 :: a11 :: a12 :: b :: c :: tl) (zR x :: st) sh I L R Q := by
  subst hn
  exact zE_step (fun G p l e Rm s m args below meth c H locs cells slots Qf arr F hl kk => lv_astore F.1 F.2.1 hd hl hi rfl (fun arr' hl' => kk arr' (lv_mono hl' (zst1_sub (zst1_pat [a0, a1, a2, a3, a4, a5, a6, a7, a8, a9, a10, a11, a12] hb))))) kk
theorem z_lstore14 (nx : Nat) {a0 a1 a2 a3 a4 a5 a6 a7 a8 a9 a10 a11 a12 b c d : zV} {tl : List zV} {x : Int} (hd : decode (zmc M) pc = .ok (.lstore 14, 2)) (hi : 14+1 < zml M) (hb : zl b = false) (hn : pc + 2 = nx) (kk : zE X M k w nx (a0 :: a1 :: a2 :: a3 :: a4 :: a5 :: a6 :: a7 :: a8 :: a9 :: a10 :: a11 :: a12 :: b :: zL x :: zX :: tl) st sh I L R Q) : zE X M k w pc (a0 :: a1 :: a2 :: a3 :: a4 :: a5 :: a6 :: a7 :: a8 :: a9 :: a10 :: a11 :: a12 :: b :: c :: d :: tl) (zL x :: st) sh I L R Q := by
  subst hn
  exact zE_step (fun G p l e Rm s m args below meth c H locs cells slots Qf arr F hl kk => lv_lstore F.1 F.2.1 hd hl hi rfl (fun arr' hl' => kk arr' (lv_mono hl' (zst2_sub (zst2_pat [a0, a1, a2, a3, a4, a5, a6, a7, a8, a9, a10, a11, a12] hb))))) kk
theorem z_iinc14 (nx : Nat) {a0 a1 a2 a3 a4 a5 a6 a7 a8 a9 a10 a11 a12 b : zV} {tl : List zV} {x n : Int} (hd : decode (zmc M) pc = .ok (.iinc 14 n, 3)) (hi : 14 < zml M) (hb : zl b = false) (hn : pc + 3 = nx) (kk : zE X M k w nx (a0 :: a1 :: a2 :: a3 :: a4 :: a5 :: a6 :: a7 :: a8 :: a9 :: a10 :: a11 :: a12 :: b :: zI (x + n) :: tl) st sh I L R Q) : zE X M k w pc (a0 :: a1 :: a2 :: a3 :: a4 :: a5 :: a6 :: a7 :: a8 :: a9 :: a10 :: a11 :: a12 :: b :: zI x :: tl) st sh I L R Q := by
  subst hn
  exact zE_step (fun G p l e Rm s m args below meth c H locs cells slots Qf arr F hl kk => (by
    obtain ⟨kx, hkx⟩ := List.getElem?_of_mem (zlp_mem (G := G) (i := 0) (ls := (a0 :: a1 :: a2 :: a3 :: a4 :: a5 :: a6 :: a7 :: a8 :: a9 :: a10 :: a11 :: a12 :: b :: zI x :: tl)) (j := 14) (v := zI x) rfl rfl)
    exact lv_iinc (v := Int32.ofInt (x + n)) F.1 F.2.1 hd hl (k := kx) (by rw [Nat.zero_add] at hkx; exact hkx) (by rw [Int32.ofInt_add]) hi rfl (fun arr' hl' => kk arr' (lv_mono hl' (zst1_sub (zst1_pat [a0, a1, a2, a3, a4, a5, a6, a7, a8, a9, a10, a11, a12] hb)))))) kk
theorem z_iload15 (nx : Nat) {a0 a1 a2 a3 a4 a5 a6 a7 a8 a9 a10 a11 a12 a13 a14 : zV} {tl : List zV} {x : Int} (hd : decode (zmc M) pc = .ok (.iload 15, 2)) (hn : pc + 2 = nx) (kk : zE X M k w nx (a0 :: a1 :: a2 :: a3 :: a4 :: a5 :: a6 :: a7 :: a8 :: a9 :: a10 :: a11 :: a12 :: a13 :: a14 :: zI x :: tl) (zI x :: st) sh I L R Q) : zE X M k w pc (a0 :: a1 :: a2 :: a3 :: a4 :: a5 :: a6 :: a7 :: a8 :: a9 :: a10 :: a11 :: a12 :: a13 :: a14 :: zI x :: tl) st sh I L R Q := by
  subst hn
  exact zE_step (fun G p l e Rm s m args below meth c H locs cells slots Qf arr F hl kk => lv_iload F.1 F.2.1 hd (zlp_at hl (i := 15) (v := zI x) rfl rfl) (kk arr hl)) kk
theorem z_lload15 (nx : Nat) {a0 a1 a2 a3 a4 a5 a6 a7 a8 a9 a10 a11 a12 a13 a14 : zV} {tl : List zV} {x : Int} (hd : decode (zmc M) pc = .ok (.lload 15, 2)) (hn : pc + 2 = nx) (kk : zE X M k w nx (a0 :: a1 :: a2 :: a3 :: a4 :: a5 :: a6 :: a7 :: a8 :: a9 :: a10 :: a11 :: a12 :: a13 :: a14 :: zL x :: tl) (zL x :: st) sh I L R Q) : zE X M k w pc (a0 :: a1 :: a2 :: a3 :: a4 :: a5 :: a6 :: a7 :: a8 :: a9 :: a10 :: a11 :: a12 :: a13 :: a14 :: zL x :: tl) st sh I L R Q := by
  subst hn
  exact zE_step (fun G p l e Rm s m args below meth c H locs cells slots Qf arr F hl kk => lv_lload F.1 F.2.1 hd (zlp_at hl (i := 15) (v := zL x) rfl rfl) (kk arr hl)) kk
theorem z_aload15 (nx : Nat) {a0 a1 a2 a3 a4 a5 a6 a7 a8 a9 a10 a11 a12 a13 a14 : zV} {tl : List zV} {x : Nat} (hd : decode (zmc M) pc = .ok (.aload 15, 2)) (hn : pc + 2 = nx) (kk : zE X M k w nx (a0 :: a1 :: a2 :: a3 :: a4 :: a5 :: a6 :: a7 :: a8 :: a9 :: a10 :: a11 :: a12 :: a13 :: a14 :: zR x :: tl) (zR x :: st) sh I L R Q) : zE X M k w pc (a0 :: a1 :: a2 :: a3 :: a4 :: a5 :: a6 :: a7 :: a8 :: a9 :: a10 :: a11 :: a12 :: a13 :: a14 :: zR x :: tl) st sh I L R Q := by
  subst hn
  exact zE_step (fun G p l e Rm s m args below meth c H locs cells slots Qf arr F hl kk => lv_aload F.1 F.2.1 hd (zlp_at hl (i := 15) (v := zR x) rfl rfl) (kk arr hl)) kk
theorem z_istore15 (nx : Nat) {a0 a1 a2 a3 a4 a5 a6 a7 a8 a9 a10 a11 a12 a13 b c : zV} {tl : List zV} {x : Int} (hd : decode (zmc M) pc = .ok (.istore 15, 2)) (hi : 15 < zml M) (hb : zl b = false) (hn : pc + 2 = nx) (kk : zE X M k w nx (a0 :: a1 :: a2 :: a3 :: a4 :: a5 :: a6 :: a7 :: a8 :: a9 :: a10 :: a11 :: a12 :: a13 :: b :: zI x :: tl) st sh I L R Q) : zE X M k w pc (a0 :: a1 :: a2 :: a3 :: a4 :: a5 :: a6 :: a7 :: a8 :: a9 :: a10 :: a11 :: a12 :: a13 :: b :: c :: tl) (zI x :: st) sh I L R Q := by
  subst hn
  exact zE_step (fun G p l e Rm s m args below meth c H locs cells slots Qf arr F hl kk => lv_istore F.1 F.2.1 hd hl hi rfl (fun arr' hl' => kk arr' (lv_mono hl' (zst1_sub (zst1_pat [a0, a1, a2, a3, a4, a5, a6, a7, a8, a9, a10, a11, a12, a13] hb))))) kk
theorem z_astore15 (nx : Nat) {a0 a1 a2 a3 a4 a5 a6 a7 a8 a9 a10 a11 a12 a13 b c : zV} {tl : List zV} {x : Nat} (hd : decode (zmc M) pc = .ok (.astore 15, 2)) (hi : 15 < zml M) (hb : zl b = false) (hn : pc + 2 = nx) (kk : zE X M k w nx (a0 :: a1 :: a2 :: a3 :: a4 :: a5 :: a6 :: a7 :: a8 :: a9 :: a10 :: a11 :: a12 :: a13 :: b :: zR x :: tl) st sh I L R Q) : zE X M k w pc (a0 :: a1 :: a2 :: a3 :: a4 :: a5 :: a6 :: a7 :: a8 :: a9 :: a10 :: a11 :: a12 :: a13 :: b :: c :: tl) (zR x :: st) sh I L R Q := by
  subst hn
  exact zE_step (fun G p l e Rm s m args below meth c H locs cells slots Qf arr F hl kk => lv_astore F.1 F.2.1 hd hl hi rfl (fun arr' hl' => kk arr' (lv_mono hl' (zst1_sub (zst1_pat [a0, a1, a2, a3, a4, a5, a6, a7, a8, a9, a10, a11, a12, a13] hb))))) kk
theorem z_lstore15 (nx : Nat) {a0 a1 a2 a3 a4 a5 a6 a7 a8 a9 a10 a11 a12 a13 b c d : zV} {tl : List zV} {x : Int} (hd : decode (zmc M) pc = .ok (.lstore 15, 2)) (hi : 15+1 < zml M) (hb : zl b = false) (hn : pc + 2 = nx) (kk : zE X M k w nx (a0 :: a1 :: a2 :: a3 :: a4 :: a5 :: a6 :: a7 :: a8 :: a9 :: a10 :: a11 :: a12 :: a13 :: b :: zL x :: zX :: tl) st sh I L R Q) : zE X M k w pc (a0 :: a1 :: a2 :: a3 :: a4 :: a5 :: a6 :: a7 :: a8 :: a9 :: a10 :: a11 :: a12 :: a13 :: b :: c :: d :: tl) (zL x :: st) sh I L R Q := by
  subst hn
  exact zE_step (fun G p l e Rm s m args below meth c H locs cells slots Qf arr F hl kk => lv_lstore F.1 F.2.1 hd hl hi rfl (fun arr' hl' => kk arr' (lv_mono hl' (zst2_sub (zst2_pat [a0, a1, a2, a3, a4, a5, a6, a7, a8, a9, a10, a11, a12, a13] hb))))) kk
theorem z_iinc15 (nx : Nat) {a0 a1 a2 a3 a4 a5 a6 a7 a8 a9 a10 a11 a12 a13 b : zV} {tl : List zV} {x n : Int} (hd : decode (zmc M) pc = .ok (.iinc 15 n, 3)) (hi : 15 < zml M) (hb : zl b = false) (hn : pc + 3 = nx) (kk : zE X M k w nx (a0 :: a1 :: a2 :: a3 :: a4 :: a5 :: a6 :: a7 :: a8 :: a9 :: a10 :: a11 :: a12 :: a13 :: b :: zI (x + n) :: tl) st sh I L R Q) : zE X M k w pc (a0 :: a1 :: a2 :: a3 :: a4 :: a5 :: a6 :: a7 :: a8 :: a9 :: a10 :: a11 :: a12 :: a13 :: b :: zI x :: tl) st sh I L R Q := by
  subst hn
  exact zE_step (fun G p l e Rm s m args below meth c H locs cells slots Qf arr F hl kk => (by
    obtain ⟨kx, hkx⟩ := List.getElem?_of_mem (zlp_mem (G := G) (i := 0) (ls := (a0 :: a1 :: a2 :: a3 :: a4 :: a5 :: a6 :: a7 :: a8 :: a9 :: a10 :: a11 :: a12 :: a13 :: b :: zI x :: tl)) (j := 15) (v := zI x) rfl rfl)
    exact lv_iinc (v := Int32.ofInt (x + n)) F.1 F.2.1 hd hl (k := kx) (by rw [Nat.zero_add] at hkx; exact hkx) (by rw [Int32.ofInt_add]) hi rfl (fun arr' hl' => kk arr' (lv_mono hl' (zst1_sub (zst1_pat [a0, a1, a2, a3, a4, a5, a6, a7, a8, a9, a10, a11, a12, a13] hb)))))) kk
theorem z_iload16 (nx : Nat) {a0 a1 a2 a3 a4 a5 a6 a7 a8 a9 a10 a11 a12 a13 a14 a15 : zV} {tl : List zV} {x : Int} (hd : decode (zmc M) pc = .ok (.iload 16, 2)) (hn : pc + 2 = nx) (kk : zE X M k w nx (a0 :: a1 :: a2 :: a3 :: a4 :: a5 :: a6 :: a7 :: a8 :: a9 :: a10 :: a11 :: a12 :: a13 :: a14 :: a15 :: zI x :: tl) (zI x :: st) sh I L R Q) : zE X M k w pc (a0 :: a1 :: a2 :: a3 :: a4 :: a5 :: a6 :: a7 :: a8 :: a9 :: a10 :: a11 :: a12 :: a13 :: a14 :: a15 :: zI x :: tl) st sh I L R Q := by
  subst hn
  exact zE_step (fun G p l e Rm s m args below meth c H locs cells slots Qf arr F hl kk => lv_iload F.1 F.2.1 hd (zlp_at hl (i := 16) (v := zI x) rfl rfl) (kk arr hl)) kk
theorem z_lload16 (nx : Nat) {a0 a1 a2 a3 a4 a5 a6 a7 a8 a9 a10 a11 a12 a13 a14 a15 : zV} {tl : List zV} {x : Int} (hd : decode (zmc M) pc = .ok (.lload 16, 2)) (hn : pc + 2 = nx) (kk : zE X M k w nx (a0 :: a1 :: a2 :: a3 :: a4 :: a5 :: a6 :: a7 :: a8 :: a9 :: a10 :: a11 :: a12 :: a13 :: a14 :: a15 :: zL x :: tl) (zL x :: st) sh I L R Q) : zE X M k w pc (a0 :: a1 :: a2 :: a3 :: a4 :: a5 :: a6 :: a7 :: a8 :: a9 :: a10 :: a11 :: a12 :: a13 :: a14 :: a15 :: zL x :: tl) st sh I L R Q := by
  subst hn
  exact zE_step (fun G p l e Rm s m args below meth c H locs cells slots Qf arr F hl kk => lv_lload F.1 F.2.1 hd (zlp_at hl (i := 16) (v := zL x) rfl rfl) (kk arr hl)) kk
theorem z_aload16 (nx : Nat) {a0 a1 a2 a3 a4 a5 a6 a7 a8 a9 a10 a11 a12 a13 a14 a15 : zV} {tl : List zV} {x : Nat} (hd : decode (zmc M) pc = .ok (.aload 16, 2)) (hn : pc + 2 = nx) (kk : zE X M k w nx (a0 :: a1 :: a2 :: a3 :: a4 :: a5 :: a6 :: a7 :: a8 :: a9 :: a10 :: a11 :: a12 :: a13 :: a14 :: a15 :: zR x :: tl) (zR x :: st) sh I L R Q) : zE X M k w pc (a0 :: a1 :: a2 :: a3 :: a4 :: a5 :: a6 :: a7 :: a8 :: a9 :: a10 :: a11 :: a12 :: a13 :: a14 :: a15 :: zR x :: tl) st sh I L R Q := by
  subst hn
  exact zE_step (fun G p l e Rm s m args below meth c H locs cells slots Qf arr F hl kk => lv_aload F.1 F.2.1 hd (zlp_at hl (i := 16) (v := zR x) rfl rfl) (kk arr hl)) kk
theorem z_istore16 (nx : Nat) {a0 a1 a2 a3 a4 a5 a6 a7 a8 a9 a10 a11 a12 a13 a14 b c : zV} {tl : List zV} {x : Int} (hd : decode (zmc M) pc = .ok (.istore 16, 2)) (hi : 16 < zml M) (hb : zl b = false) (hn : pc + 2 = nx) (kk : zE X M k w nx (a0 :: a1 :: a2 :: a3 :: a4 :: a5 :: a6 :: a7 :: a8 :: a9 :: a10 :: a11 :: a12 :: a13 :: a14 :: b :: zI x :: tl) st sh I L R Q) : zE X M k w pc (a0 :: a1 :: a2 :: a3 :: a4 :: a5 :: a6 :: a7 :: a8 :: a9 :: a10 :: a11 :: a12 :: a13 :: a14 :: b :: c :: tl) (zI x :: st) sh I L R Q := by
  subst hn
  exact zE_step (fun G p l e Rm s m args below meth c H locs cells slots Qf arr F hl kk => lv_istore F.1 F.2.1 hd hl hi rfl (fun arr' hl' => kk arr' (lv_mono hl' (zst1_sub (zst1_pat [a0, a1, a2, a3, a4, a5, a6, a7, a8, a9, a10, a11, a12, a13, a14] hb))))) kk
theorem z_astore16 (nx : Nat) {a0 a1 a2 a3 a4 a5 a6 a7 a8 a9 a10 a11 a12 a13 a14 b c : zV} {tl : List zV} {x : Nat} (hd : decode (zmc M) pc = .ok (.astore 16, 2)) (hi : 16 < zml M) (hb : zl b = false) (hn : pc + 2 = nx) (kk : zE X M k w nx (a0 :: a1 :: a2 :: a3 :: a4 :: a5 :: a6 :: a7 :: a8 :: a9 :: a10 :: a11 :: a12 :: a13 :: a14 :: b :: zR x :: tl) st sh I L R Q) : zE X M k w pc (a0 :: a1 :: a2 :: a3 :: a4 :: a5 :: a6 :: a7 :: a8 :: a9 :: a10 :: a11 :: a12 :: a13 :: a14 :: b :: c :: tl) (zR x :: st) sh I L R Q := by
  subst hn
  exact zE_step (fun G p l e Rm s m args below meth c H locs cells slots Qf arr F hl kk => lv_astore F.1 F.2.1 hd hl hi rfl (fun arr' hl' => kk arr' (lv_mono hl' (zst1_sub (zst1_pat [a0, a1, a2, a3, a4, a5, a6, a7, a8, a9, a10, a11, a12, a13, a14] hb))))) kk
theorem z_lstore16 (nx : Nat) {a0 a1 a2 a3 a4 a5 a6 a7 a8 a9 a10 a11 a12 a13 a14 b c d : zV} {tl : List zV} {x : Int} (hd : decode (zmc M) pc = .ok (.lstore 16, 2)) (hi : 16+1 < zml M) (hb : zl b = false) (hn : pc + 2 = nx) (kk : zE X M k w nx (a0 :: a1 :: a2 :: a3 :: a4 :: a5 :: a6 :: a7 :: a8 :: a9 :: a10 :: a11 :: a12 :: a13 :: a14 :: b :: zL x :: zX :: tl) st sh I L R Q) : zE X M k w pc (a0 :: a1 :: a2 :: a3 :: a4 :: a5 :: a6 :: a7 :: a8 :: a9 :: a10 :: a11 :: a12 :: a13 :: a14 :: b :: c :: d :: tl) (zL x :: st) sh I L R Q := by
  subst hn
  exact zE_step (fun G p l e Rm s m args below meth c H locs cells slots Qf arr F hl kk => lv_lstore F.1 F.2.1 hd hl hi rfl (fun arr' hl' => kk arr' (lv_mono hl' (zst2_sub (zst2_pat [a0, a1, a2, a3, a4, a5, a6, a7, a8, a9, a10, a11, a12, a13, a14] hb))))) kk
theorem z_iinc16 (nx : Nat) {a0 a1 a2 a3 a4 a5 a6 a7 a8 a9 a10 a11 a12 a13 a14 b : zV} {tl : List zV} {x n : Int} (hd : decode (zmc M) pc = .ok (.iinc 16 n, 3)) (hi : 16 < zml M) (hb : zl b = false) (hn : pc + 3 = nx) (kk : zE X M k w nx (a0 :: a1 :: a2 :: a3 :: a4 :: a5 :: a6 :: a7 :: a8 :: a9 :: a10 :: a11 :: a12 :: a13 :: a14 :: b :: zI (x + n) :: tl) st sh I L R Q) : zE X M k w pc (a0 :: a1 :: a2 :: a3 :: a4 :: a5 :: a6 :: a7 :: a8 :: a9 :: a10 :: a11 :: a12 :: a13 :: a14 :: b :: zI x :: tl) st sh I L R Q := by
  subst hn
  exact zE_step (fun G p l e Rm s m args below meth c H locs cells slots Qf arr F hl kk => (by
    obtain ⟨kx, hkx⟩ := List.getElem?_of_mem (zlp_mem (G := G) (i := 0) (ls := (a0 :: a1 :: a2 :: a3 :: a4 :: a5 :: a6 :: a7 :: a8 :: a9 :: a10 :: a11 :: a12 :: a13 :: a14 :: b :: zI x :: tl)) (j := 16) (v := zI x) rfl rfl)
    exact lv_iinc (v := Int32.ofInt (x + n)) F.1 F.2.1 hd hl (k := kx) (by rw [Nat.zero_add] at hkx; exact hkx) (by rw [Int32.ofInt_add]) hi rfl (fun arr' hl' => kk arr' (lv_mono hl' (zst1_sub (zst1_pat [a0, a1, a2, a3, a4, a5, a6, a7, a8, a9, a10, a11, a12, a13, a14] hb)))))) kk
theorem z_iload17 (nx : Nat) {a0 a1 a2 a3 a4 a5 a6 a7 a8 a9 a10 a11 a12 a13 a14 a15 a16 : zV} {tl : List zV} {x : Int} (hd : decode (zmc M) pc = .ok (.iload 17, 2)) (hn : pc + 2 = nx) (kk : zE X M k w nx (a0 :: a1 :: a2 :: a3 :: a4 :: a5 :: a6 :: a7 :: a8 :: a9 :: a10 :: a11 :: a12 :: a13 :: a14 :: a15 :: a16 :: zI x :: tl) (zI x :: st) sh I L R Q) : zE X M k w pc (a0 :: a1 :: a2 :: a3 :: a4 :: a5 :: a6 :: a7 :: a8 :: a9 :: a10 :: a11 :: a12 :: a13 :: a14 :: a15 :: a16 :: zI x :: tl) st sh I L R Q := by
  subst hn
  exact zE_step (fun G p l e Rm s m args below meth c H locs cells slots Qf arr F hl kk => lv_iload F.1 F.2.1 hd (zlp_at hl (i := 17) (v := zI x) rfl rfl) (kk arr hl)) kk
theorem z_lload17 (nx : Nat) {a0 a1 a2 a3 a4 a5 a6 a7 a8 a9 a10 a11 a12 a13 a14 a15 a16 : zV} {tl : List zV} {x : Int} (hd : decode (zmc M) pc = .ok (.lload 17, 2)) (hn : pc + 2 = nx) (kk : zE X M k w nx (a0 :: a1 :: a2 :: a3 :: a4 :: a5 :: a6 :: a7 :: a8 :: a9 :: a10 :: a11 :: a12 :: a13 :: a14 :: a15 :: a16 :: zL x :: tl) (zL x :: st) sh I L R Q) : zE X M k w pc (a0 :: a1 :: a2 :: a3 :: a4 :: a5 :: a6 :: a7 :: a8 :: a9 :: a10 :: a11 :: a12 :: a13 :: a14 :: a15 :: a16 :: zL x :: tl) st sh I L R Q := by
  subst hn
  exact zE_step (fun G p l e Rm s m args below meth c H locs cells slots Qf arr F hl kk => lv_lload F.1 F.2.1 hd (zlp_at hl (i := 17) (v := zL x) rfl rfl) (kk arr hl)) kk
theorem z_aload17 (nx : Nat) {a0 a1 a2 a3 a4 a5 a6 a7 a8 a9 a10 a11 a12 a13 a14 a15 a16 : zV} {tl : List zV} {x : Nat} (hd : decode (zmc M) pc = .ok (.aload 17, 2)) (hn : pc + 2 = nx) (kk : zE X M k w nx (a0 :: a1 :: a2 :: a3 :: a4 :: a5 :: a6 :: a7 :: a8 :: a9 :: a10 :: a11 :: a12 :: a13 :: a14 :: a15 :: a16 :: zR x :: tl) (zR x :: st) sh I L R Q) : zE X M k w pc (a0 :: a1 :: a2 :: a3 :: a4 :: a5 :: a6 :: a7 :: a8 :: a9 :: a10 :: a11 :: a12 :: a13 :: a14 :: a15 :: a16 :: zR x :: tl) st sh I L R Q := by
  subst hn
  exact zE_step (fun G p l e Rm s m args below meth c H locs cells slots Qf arr F hl kk => lv_aload F.1 F.2.1 hd (zlp_at hl (i := 17) (v := zR x) rfl rfl) (kk arr hl)) kk
theorem z_istore17 (nx : Nat) {a0 a1 a2 a3 a4 a5 a6 a7 a8 a9 a10 a11 a12 a13 a14 a15 b c : zV} {tl : List zV} {x : Int} (hd : decode (zmc M) pc = .ok (.istore 17, 2)) (hi : 17 < zml M) (hb : zl b = false) (hn : pc + 2 = nx) (kk : zE X M k w nx (a0 :: a1 :: a2 :: a3 :: a4 :: a5 :: a6 :: a7 :: a8 :: a9 :: a10 :: a11 :: a12 :: a13 :: a14 :: a15 :: b :: zI x :: tl) st sh I L R Q) : zE X M k w pc (a0 :: a1 :: a2 :: a3 :: a4 :: a5 :: a6 :: a7 :: a8 :: a9 :: a10 :: a11 :: a12 :: a13 :: a14 :: a15 :: b :: c :: tl) (zI x :: st) sh I L R Q := by
  subst hn
  exact zE_step (fun G p l e Rm s m args below meth c H locs cells slots Qf arr F hl kk => lv_istore F.1 F.2.1 hd hl hi rfl (fun arr' hl' => kk arr' (lv_mono hl' (zst1_sub (zst1_pat [a0, a1, a2, a3, a4, a5, a6, a7, a8, a9, a10, a11, a12, a13, a14, a15] hb))))) kk
theorem z_astore17 (nx : Nat) {a0 a1 a2 a3 a4 a5 a6 a7 a8 a9 a10 a11 a12 a13 a14 a15 b c : zV} {tl : List zV} {x : Nat} (hd : decode (zmc M) pc = .ok (.astore 17, 2)) (hi : 17 < zml M) (hb : zl b = false) (hn : pc + 2 = nx) (kk : zE X M k w nx (a0 :: a1 :: a2 :: a3 :: a4 :: a5 :: a6 :: a7 :: a8 :: a9 :: a10 :: a11 :: a12 :: a13 :: a14 :: a15 :: b :: zR x :: tl) st sh I L R Q) : zE X M k w pc (a0 :: a1 :: a2 :: a3 :: a4 :: a5 :: a6 :: a7 :: a8 :: a9 :: a10 :: a11 :: a12 :: a13 :: a14 :: a15 :: b :: c :: tl) (zR x :: st) sh I L R Q := by
  subst hn
  exact zE_step (fun G p l e Rm s m args below meth c H locs cells slots Qf arr F hl kk => lv_astore F.1 F.2.1 hd hl hi rfl (fun arr' hl' => kk arr' (lv_mono hl' (zst1_sub (zst1_pat [a0, a1, a2, a3, a4, a5, a6, a7, a8, a9, a10, a11, a12, a13, a14, a15] hb))))) kk
theorem z_lstore17 (nx : Nat) {a0 a1 a2 a3 a4 a5 a6 a7 a8 a9 a10 a11 a12 a13 a14 a15 b c d : zV} {tl : List zV} {x : Int} (hd : decode (zmc M) pc = .ok (.lstore 17, 2)) (hi : 17+1 < zml M) (hb : zl b = false) (hn : pc + 2 = nx) (kk : zE X M k w nx (a0 :: a1 :: a2 :: a3 :: a4 :: a5 :: a6 :: a7 :: a8 :: a9 :: a10 :: a11 :: a12 :: a13 :: a14 :: a15 :: b :: zL x :: zX :: tl) st sh I L R Q) : zE X M k w pc (a0 :: a1 :: a2 :: a3 :: a4 :: a5 :: a6 :: a7 :: a8 :: a9 :: a10 :: a11 :: a12 :: a13 :: a14 :: a15 :: b :: c :: d :: tl) (zL x :: st) sh I L R Q := by
  subst hn
  exact zE_step (fun G p l e Rm s m args below meth c H locs cells slots Qf arr F hl kk => lv_lstore F.1 F.2.1 hd hl hi rfl (fun arr' hl' => kk arr' (lv_mono hl' (zst2_sub (zst2_pat [a0, a1, a2, a3, a4, a5, a6, a7, a8, a9, a10, a11, a12, a13, a14, a15] hb))))) kk
theorem z_iinc17 (nx : Nat) {a0 a1 a2 a3 a4 a5 a6 a7 a8 a9 a10 a11 a12 a13 a14 a15 b : zV} {tl : List zV} {x n : Int} (hd : decode (zmc M) pc = .ok (.iinc 17 n, 3)) (hi : 17 < zml M) (hb : zl b = false) (hn : pc + 3 = nx) (kk : zE X M k w nx (a0 :: a1 :: a2 :: a3 :: a4 :: a5 :: a6 :: a7 :: a8 :: a9 :: a10 :: a11 :: a12 :: a13 :: a14 :: a15 :: b :: zI (x + n) :: tl) st sh I L R Q) : zE X M k w pc (a0 :: a1 :: a2 :: a3 :: a4 :: a5 :: a6 :: a7 :: a8 :: a9 :: a10 :: a11 :: a12 :: a13 :: a14 :: a15 :: b :: zI x :: tl) st sh I L R Q := by
  subst hn
  exact zE_step (fun G p l e Rm s m args below meth c H locs cells slots Qf arr F hl kk => (by
    obtain ⟨kx, hkx⟩ := List.getElem?_of_mem (zlp_mem (G := G) (i := 0) (ls := (a0 :: a1 :: a2 :: a3 :: a4 :: a5 :: a6 :: a7 :: a8 :: a9 :: a10 :: a11 :: a12 :: a13 :: a14 :: a15 :: b :: zI x :: tl)) (j := 17) (v := zI x) rfl rfl)
    exact lv_iinc (v := Int32.ofInt (x + n)) F.1 F.2.1 hd hl (k := kx) (by rw [Nat.zero_add] at hkx; exact hkx) (by rw [Int32.ofInt_add]) hi rfl (fun arr' hl' => kk arr' (lv_mono hl' (zst1_sub (zst1_pat [a0, a1, a2, a3, a4, a5, a6, a7, a8, a9, a10, a11, a12, a13, a14, a15] hb)))))) kk
theorem z_iadd (nx : Nat) {x y : Int} (hd : decode (zmc M) pc = .ok (.iadd, 1)) (hn : pc + 1 = nx) (kk : zE X M k w nx ls (zI (x + y) :: st) sh I L R Q) : zE X M k w pc ls (zI y :: zI x :: st) sh I L R Q := by
  subst hn
  exact zE_step (fun G p l e Rm s m args below meth c H locs cells slots Qf arr F hl kk => lv_iadd F.1 F.2.1 hd (by rw [← Int32.ofInt_add]; exact kk arr hl)) kk
theorem z_isub (nx : Nat) {x y : Int} (hd : decode (zmc M) pc = .ok (.isub, 1)) (hn : pc + 1 = nx) (kk : zE X M k w nx ls (zI (x - y) :: st) sh I L R Q) : zE X M k w pc ls (zI y :: zI x :: st) sh I L R Q := by
  subst hn
  exact zE_step (fun G p l e Rm s m args below meth c H locs cells slots Qf arr F hl kk => lv_isub F.1 F.2.1 hd (by rw [← Int32.ofInt_sub]; exact kk arr hl)) kk
theorem z_imul (nx : Nat) {x y : Int} (hd : decode (zmc M) pc = .ok (.imul, 1)) (hn : pc + 1 = nx) (kk : zE X M k w nx ls (zI (x * y) :: st) sh I L R Q) : zE X M k w pc ls (zI y :: zI x :: st) sh I L R Q := by
  subst hn
  exact zE_step (fun G p l e Rm s m args below meth c H locs cells slots Qf arr F hl kk => lv_imul F.1 F.2.1 hd (by rw [← Int32.ofInt_mul]; exact kk arr hl)) kk
theorem z_ladd (nx : Nat) {x y : Int} (hd : decode (zmc M) pc = .ok (.ladd, 1)) (hn : pc + 1 = nx) (kk : zE X M k w nx ls (zL (x + y) :: st) sh I L R Q) : zE X M k w pc ls (zL y :: zL x :: st) sh I L R Q := by
  subst hn
  exact zE_step (fun G p l e Rm s m args below meth c H locs cells slots Qf arr F hl kk => lv_ladd F.1 F.2.1 hd (by rw [← Int64.ofInt_add]; exact kk arr hl)) kk
theorem z_lsub (nx : Nat) {x y : Int} (hd : decode (zmc M) pc = .ok (.lsub, 1)) (hn : pc + 1 = nx) (kk : zE X M k w nx ls (zL (x - y) :: st) sh I L R Q) : zE X M k w pc ls (zL y :: zL x :: st) sh I L R Q := by
  subst hn
  exact zE_step (fun G p l e Rm s m args below meth c H locs cells slots Qf arr F hl kk => lv_lsub F.1 F.2.1 hd (by rw [← Int64.ofInt_sub]; exact kk arr hl)) kk
theorem z_lmul (nx : Nat) {x y : Int} (hd : decode (zmc M) pc = .ok (.lmul, 1)) (hn : pc + 1 = nx) (kk : zE X M k w nx ls (zL (x * y) :: st) sh I L R Q) : zE X M k w pc ls (zL y :: zL x :: st) sh I L R Q := by
  subst hn
  exact zE_step (fun G p l e Rm s m args below meth c H locs cells slots Qf arr F hl kk => lv_lmul F.1 F.2.1 hd (by rw [← Int64.ofInt_mul]; exact kk arr hl)) kk
theorem z_idiv (nx : Nat) {x y : Int} (hd : decode (zmc M) pc = .ok (.idiv, 1)) (hx : 0 ≤ x ∧ x ≤ 2147483647) (hy : 0 < y ∧ y ≤ 2147483647) (hn : pc + 1 = nx) (kk : zE X M k w nx ls (zI (x / y) :: st) sh I L R Q) : zE X M k w pc ls (zI y :: zI x :: st) sh I L R Q := by
  subst hn
  exact zE_step (fun G p l e Rm s m args below meth c H locs cells slots Qf arr F hl kk => lv_idiv F.1 F.2.1 hd (fun h => by have := (zn_eq0 (by omega)).mp h; omega) (by rw [zn_div hx hy]; exact kk arr hl)) kk
theorem z_irem (nx : Nat) {x y : Int} (hd : decode (zmc M) pc = .ok (.irem, 1)) (hx : 0 ≤ x ∧ x ≤ 2147483647) (hy : 0 < y ∧ y ≤ 2147483647) (hn : pc + 1 = nx) (kk : zE X M k w nx ls (zI (x % y) :: st) sh I L R Q) : zE X M k w pc ls (zI y :: zI x :: st) sh I L R Q := by
  subst hn
  exact zE_step (fun G p l e Rm s m args below meth c H locs cells slots Qf arr F hl kk => lv_irem F.1 F.2.1 hd (fun h => by have := (zn_eq0 (by omega)).mp h; omega) (by rw [zn_mod hx hy]; exact kk arr hl)) kk
theorem z_ldiv (nx : Nat) {x y : Int} (hd : decode (zmc M) pc = .ok (.ldiv, 1)) (hx : 0 ≤ x ∧ x ≤ 9223372036854775807) (hy : 0 < y ∧ y ≤ 9223372036854775807) (hn : pc + 1 = nx) (kk : zE X M k w nx ls (zL (x / y) :: st) sh I L R Q) : zE X M k w pc ls (zL y :: zL x :: st) sh I L R Q := by
  subst hn
  exact zE_step (fun G p l e Rm s m args below meth c H locs cells slots Qf arr F hl kk => lv_ldiv F.1 F.2.1 hd (fun h => by have := (zn_eqL (y := 0) (by omega) (by omega)).mp h; omega) (by rw [zn_divL hx hy]; exact kk arr hl)) kk
theorem z_lrem (nx : Nat) {x y : Int} (hd : decode (zmc M) pc = .ok (.lrem, 1)) (hx : 0 ≤ x ∧ x ≤ 9223372036854775807) (hy : 0 < y ∧ y ≤ 9223372036854775807) (hn : pc + 1 = nx) (kk : zE X M k w nx ls (zL (x % y) :: st) sh I L R Q) : zE X M k w pc ls (zL y :: zL x :: st) sh I L R Q := by
  subst hn
  exact zE_step (fun G p l e Rm s m args below meth c H locs cells slots Qf arr F hl kk => lv_lrem F.1 F.2.1 hd (fun h => by have := (zn_eqL (y := 0) (by omega) (by omega)).mp h; omega) (by rw [zn_modL hx hy]; exact kk arr hl)) kk
theorem z_iand (nx : Nat) {x y : Int} (hd : decode (zmc M) pc = .ok (.iand, 1)) (hn : pc + 1 = nx) (kk : zE X M k w nx ls (zI (zand x y) :: st) sh I L R Q) : zE X M k w pc ls (zI y :: zI x :: st) sh I L R Q := by
  subst hn
  exact zE_step (fun G p l e Rm s m args below meth c H locs cells slots Qf arr F hl kk => lv_iand F.1 F.2.1 hd (by have := kk arr hl; simp only [List.map_cons, zc_I, zand, Int32.ofInt_toInt] at this ⊢; exact this)) kk
theorem z_ior (nx : Nat) {x y : Int} (hd : decode (zmc M) pc = .ok (.ior, 1)) (hn : pc + 1 = nx) (kk : zE X M k w nx ls (zI (zor x y) :: st) sh I L R Q) : zE X M k w pc ls (zI y :: zI x :: st) sh I L R Q := by
  subst hn
  exact zE_step (fun G p l e Rm s m args below meth c H locs cells slots Qf arr F hl kk => lv_ior F.1 F.2.1 hd (by have := kk arr hl; simp only [List.map_cons, zc_I, zor, Int32.ofInt_toInt] at this ⊢; exact this)) kk
theorem z_ishl (nx : Nat) {x y : Int} (hd : decode (zmc M) pc = .ok (.ishl, 1)) (hn : pc + 1 = nx) (kk : zE X M k w nx ls (zI (zshl x y) :: st) sh I L R Q) : zE X M k w pc ls (zI y :: zI x :: st) sh I L R Q := by
  subst hn
  exact zE_step (fun G p l e Rm s m args below meth c H locs cells slots Qf arr F hl kk => lv_ishl F.1 F.2.1 hd (by have := kk arr hl; simp only [List.map_cons, zc_I, zshl, Int32.ofInt_toInt] at this ⊢; exact this)) kk
theorem z_ishr (nx : Nat) {x y : Int} (hd : decode (zmc M) pc = .ok (.ishr, 1)) (hn : pc + 1 = nx) (kk : zE X M k w nx ls (zI (zshr x y) :: st) sh I L R Q) : zE X M k w pc ls (zI y :: zI x :: st) sh I L R Q := by
  subst hn
  exact zE_step (fun G p l e Rm s m args below meth c H locs cells slots Qf arr F hl kk => lv_ishr F.1 F.2.1 hd (by have := kk arr hl; simp only [List.map_cons, zc_I, zshr, Int32.ofInt_toInt] at this ⊢; exact this)) kk
theorem z_iushr (nx : Nat) {x y : Int} (hd : decode (zmc M) pc = .ok (.iushr, 1)) (hn : pc + 1 = nx) (kk : zE X M k w nx ls (zI (zushr x y) :: st) sh I L R Q) : zE X M k w pc ls (zI y :: zI x :: st) sh I L R Q := by
  subst hn
  exact zE_step (fun G p l e Rm s m args below meth c H locs cells slots Qf arr F hl kk => lv_iushr F.1 F.2.1 hd (v := Int32.ofInt (zushr x y)) (by simp only [zushr, Int32.ofInt_toInt]) (kk arr hl)) kk
theorem z_land (nx : Nat) {x y : Int} (hd : decode (zmc M) pc = .ok (.land, 1)) (hn : pc + 1 = nx) (kk : zE X M k w nx ls (zL (zandL x y) :: st) sh I L R Q) : zE X M k w pc ls (zL y :: zL x :: st) sh I L R Q := by
  subst hn
  exact zE_step (fun G p l e Rm s m args below meth c H locs cells slots Qf arr F hl kk => lv_land F.1 F.2.1 hd (by have := kk arr hl; simp only [List.map_cons, zc_L, zandL, Int64.ofInt_toInt] at this ⊢; exact this)) kk
theorem z_lor (nx : Nat) {x y : Int} (hd : decode (zmc M) pc = .ok (.lor, 1)) (hn : pc + 1 = nx) (kk : zE X M k w nx ls (zL (zorL x y) :: st) sh I L R Q) : zE X M k w pc ls (zL y :: zL x :: st) sh I L R Q := by
  subst hn
  exact zE_step (fun G p l e Rm s m args below meth c H locs cells slots Qf arr F hl kk => lv_lor F.1 F.2.1 hd (by have := kk arr hl; simp only [List.map_cons, zc_L, zorL, Int64.ofInt_toInt] at this ⊢; exact this)) kk
theorem z_lshl (nx : Nat) {x y : Int} (hd : decode (zmc M) pc = .ok (.lshl, 1)) (hn : pc + 1 = nx) (kk : zE X M k w nx ls (zL (zshlL x y) :: st) sh I L R Q) : zE X M k w pc ls (zI y :: zL x :: st) sh I L R Q := by
  subst hn
  exact zE_step (fun G p l e Rm s m args below meth c H locs cells slots Qf arr F hl kk => lv_lshl F.1 F.2.1 hd (v := Int64.ofInt (zshlL x y)) (by simp only [zshlL, Int64.ofInt_toInt]) (kk arr hl)) kk
theorem z_i2l (nx : Nat) {x : Int} (hd : decode (zmc M) pc = .ok (.i2l, 1)) (hx : -2147483648 ≤ x ∧ x ≤ 2147483647) (hn : pc + 1 = nx) (kk : zE X M k w nx ls (zL x :: st) sh I L R Q) : zE X M k w pc ls (zI x :: st) sh I L R Q := by
  subst hn
  exact zE_step (fun G p l e Rm s m args below meth c H locs cells slots Qf arr F hl kk => lv_i2l F.1 F.2.1 hd (v := Int64.ofInt x) (zn_i2l hx) (kk arr hl)) kk
theorem z_l2i (nx : Nat) {x : Int} (hd : decode (zmc M) pc = .ok (.l2i, 1)) (hn : pc + 1 = nx) (kk : zE X M k w nx ls (zI (zl2i x) :: st) sh I L R Q) : zE X M k w pc ls (zL x :: st) sh I L R Q := by
  subst hn
  exact zE_step (fun G p l e Rm s m args below meth c H locs cells slots Qf arr F hl kk => lv_l2i F.1 F.2.1 hd (v := Int32.ofInt (zl2i x)) (by simp only [zl2i, Int32.ofInt_toInt]) (kk arr hl)) kk
theorem z_i2b (nx : Nat) {x : Int} (hd : decode (zmc M) pc = .ok (.i2b, 1)) (hn : pc + 1 = nx) (kk : zE X M k w nx ls (zI (zi2b x) :: st) sh I L R Q) : zE X M k w pc ls (zI x :: st) sh I L R Q := by
  subst hn
  exact zE_step (fun G p l e Rm s m args below meth c H locs cells slots Qf arr F hl kk => lv_i2b F.1 F.2.1 hd (v := Int32.ofInt (zi2b x)) (by simp only [zi2b, Int32.ofInt_toInt]) (kk arr hl)) kk
theorem z_i2s (nx : Nat) {x : Int} (hd : decode (zmc M) pc = .ok (.i2s, 1)) (hn : pc + 1 = nx) (kk : zE X M k w nx ls (zI (zi2s x) :: st) sh I L R Q) : zE X M k w pc ls (zI x :: st) sh I L R Q := by
  subst hn
  exact zE_step (fun G p l e Rm s m args below meth c H locs cells slots Qf arr F hl kk => lv_i2s F.1 F.2.1 hd (v := Int32.ofInt (zi2s x)) (by simp only [zi2s, Int32.ofInt_toInt]) (kk arr hl)) kk
theorem z_lcmp (nx : Nat) {x y : Int} (hd : decode (zmc M) pc = .ok (.lcmp, 1)) (hx : -9223372036854775808 ≤ x ∧ x ≤ 9223372036854775807) (hy : -9223372036854775808 ≤ y ∧ y ≤ 9223372036854775807) (hn : pc + 1 = nx) (kk : zE X M k w nx ls (zI (zcmpL x y) :: st) sh I L R Q) : zE X M k w pc ls (zL y :: zL x :: st) sh I L R Q := by
  subst hn
  exact zE_step (fun G p l e Rm s m args below meth c H locs cells slots Qf arr F hl kk => W.lcmp F.1 F.2.1 hd (by rw [zn_cmpL hx hy]; exact kk arr hl)) kk
theorem z_dup (nx : Nat) {a : zV} (hd : decode (zmc M) pc = .ok (.dup, 1)) (ha : zl a = false) (hn : pc + 1 = nx) (kk : zE X M k w nx ls (a :: a :: st) sh I L R Q) : zE X M k w pc ls (a :: st) sh I L R Q := by
  subst hn
  exact zE_step (fun G p l e Rm s m args below meth c H locs cells slots Qf arr F hl kk => lv_dup F.1 F.2.1 hd (zc_cat G a ha) (kk arr hl)) kk
theorem z_pop (nx : Nat) {a : zV} (hd : decode (zmc M) pc = .ok (.pop, 1)) (ha : zl a = false) (hn : pc + 1 = nx) (kk : zE X M k w nx ls st sh I L R Q) : zE X M k w pc ls (a :: st) sh I L R Q := by
  subst hn
  exact zE_step (fun G p l e Rm s m args below meth c H locs cells slots Qf arr F hl kk => lv_pop F.1 F.2.1 hd (zc_cat G a ha) (kk arr hl)) kk
theorem z_dup2 (nx : Nat) {a b : zV} (hd : decode (zmc M) pc = .ok (.dup2, 1)) (ha : zl a = false) (hb : zl b = false) (hn : pc + 1 = nx) (kk : zE X M k w nx ls (a :: b :: a :: b :: st) sh I L R Q) : zE X M k w pc ls (a :: b :: st) sh I L R Q := by
  subst hn
  exact zE_step (fun G p l e Rm s m args below meth c H locs cells slots Qf arr F hl kk => lv_dup2_11 F.1 F.2.1 hd (zc_cat G a ha) (zc_cat G b hb) (kk arr hl)) kk
theorem z_goto (tgt : Nat) {off : Int} (hd : decode (zmc M) pc = .ok (.goto off, 3)) (ht : (pc : Int) + off = (tgt : Int)) (kk : zE X M k w tgt ls st sh I L R Q) : zE X M k w pc ls st sh I L R Q :=
  zE_step (fun G p l e Rm s m args below meth c H locs cells slots Qf arr F hl kk => lv_goto F.1 F.2.1 hd ht (kk arr hl)) kk
theorem z_if_eq (tgt nx : Nat) {x off : Int} (hd : decode (zmc M) pc = .ok (.ifCond .eq off, 3)) (ht : (pc : Int) + off = (tgt : Int)) (hn : pc + 3 = nx) (hx : -2147483648 ≤ x ∧ x ≤ 2147483647) (kt : x = 0 → zE X M k w tgt ls st sh I L R Q) (kf : ¬ x = 0 → zE X M k w nx ls st sh I L R Q) : zE X M k w pc ls (zI x :: st) sh I L R Q := by
  subst hn
  intro G p l e Rm s m args below meth c H locs cells slots Qf arr F S hl kend
  exact lv_if_eq F.1 F.2.1 hd ht (fun h => kt ((zn_eq0 hx).mp h) G p l e Rm s m args below meth c H locs cells slots Qf arr F S hl kend) (fun h => kf (fun q => h ((zn_eq0 hx).mpr q)) G p l e Rm s m args below meth c H locs cells slots Qf arr F S hl kend)
theorem z_if_ne (tgt nx : Nat) {x off : Int} (hd : decode (zmc M) pc = .ok (.ifCond .ne off, 3)) (ht : (pc : Int) + off = (tgt : Int)) (hn : pc + 3 = nx) (hx : -2147483648 ≤ x ∧ x ≤ 2147483647) (kt : ¬ x = 0 → zE X M k w tgt ls st sh I L R Q) (kf : x = 0 → zE X M k w nx ls st sh I L R Q) : zE X M k w pc ls (zI x :: st) sh I L R Q := by
  subst hn
  intro G p l e Rm s m args below meth c H locs cells slots Qf arr F S hl kend
  exact lv_if_ne F.1 F.2.1 hd ht (fun h => kt (fun q => h ((zn_eq0 hx).mpr q)) G p l e Rm s m args below meth c H locs cells slots Qf arr F S hl kend) (fun h => kf ((zn_eq0 hx).mp h) G p l e Rm s m args below meth c H locs cells slots Qf arr F S hl kend)
theorem z_if_lt (tgt nx : Nat) {x off : Int} (hd : decode (zmc M) pc = .ok (.ifCond .lt off, 3)) (ht : (pc : Int) + off = (tgt : Int)) (hn : pc + 3 = nx) (hx : -2147483648 ≤ x ∧ x ≤ 2147483647) (kt : x < 0 → zE X M k w tgt ls st sh I L R Q) (kf : 0 ≤ x → zE X M k w nx ls st sh I L R Q) : zE X M k w pc ls (zI x :: st) sh I L R Q := by
  subst hn
  intro G p l e Rm s m args below meth c H locs cells slots Qf arr F S hl kend
  exact lv_if_lt F.1 F.2.1 hd ht (fun h => kt ((zn_lt0 hx).mp h) G p l e Rm s m args below meth c H locs cells slots Qf arr F S hl kend) (fun h => kf (Int.not_lt.mp (fun q => h ((zn_lt0 hx).mpr q))) G p l e Rm s m args below meth c H locs cells slots Qf arr F S hl kend)
theorem z_if_ge (tgt nx : Nat) {x off : Int} (hd : decode (zmc M) pc = .ok (.ifCond .ge off, 3)) (ht : (pc : Int) + off = (tgt : Int)) (hn : pc + 3 = nx) (hx : -2147483648 ≤ x ∧ x ≤ 2147483647) (kt : 0 ≤ x → zE X M k w tgt ls st sh I L R Q) (kf : x < 0 → zE X M k w nx ls st sh I L R Q) : zE X M k w pc ls (zI x :: st) sh I L R Q := by
  subst hn
  intro G p l e Rm s m args below meth c H locs cells slots Qf arr F S hl kend
  exact lv_if_ge F.1 F.2.1 hd ht (fun h => kt ((zn_ge0 hx).mp h) G p l e Rm s m args below meth c H locs cells slots Qf arr F S hl kend) (fun h => kf (Int.not_le.mp (fun q => h ((zn_ge0 hx).mpr q))) G p l e Rm s m args below meth c H locs cells slots Qf arr F S hl kend)
theorem z_if_gt (tgt nx : Nat) {x off : Int} (hd : decode (zmc M) pc = .ok (.ifCond .gt off, 3)) (ht : (pc : Int) + off = (tgt : Int)) (hn : pc + 3 = nx) (hx : -2147483648 ≤ x ∧ x ≤ 2147483647) (kt : 0 < x → zE X M k w tgt ls st sh I L R Q) (kf : x ≤ 0 → zE X M k w nx ls st sh I L R Q) : zE X M k w pc ls (zI x :: st) sh I L R Q := by
  subst hn
  intro G p l e Rm s m args below meth c H locs cells slots Qf arr F S hl kend
  exact lv_if_gt F.1 F.2.1 hd ht (fun h => kt ((zn_gt0 hx).mp h) G p l e Rm s m args below meth c H locs cells slots Qf arr F S hl kend) (fun h => kf (Int.not_lt.mp (fun q => h ((zn_gt0 hx).mpr q))) G p l e Rm s m args below meth c H locs cells slots Qf arr F S hl kend)
theorem z_if_le (tgt nx : Nat) {x off : Int} (hd : decode (zmc M) pc = .ok (.ifCond .le off, 3)) (ht : (pc : Int) + off = (tgt : Int)) (hn : pc + 3 = nx) (hx : -2147483648 ≤ x ∧ x ≤ 2147483647) (kt : x ≤ 0 → zE X M k w tgt ls st sh I L R Q) (kf : 0 < x → zE X M k w nx ls st sh I L R Q) : zE X M k w pc ls (zI x :: st) sh I L R Q := by
  subst hn
  intro G p l e Rm s m args below meth c H locs cells slots Qf arr F S hl kend
  exact lv_if_le F.1 F.2.1 hd ht (fun h => kt ((zn_le0 hx).mp h) G p l e Rm s m args below meth c H locs cells slots Qf arr F S hl kend) (fun h => kf (Int.not_le.mp (fun q => h ((zn_le0 hx).mpr q))) G p l e Rm s m args below meth c H locs cells slots Qf arr F S hl kend)
theorem z_icmp_eq (tgt nx : Nat) {x y off : Int} (hd : decode (zmc M) pc = .ok (.if_icmp .eq off, 3)) (ht : (pc : Int) + off = (tgt : Int)) (hn : pc + 3 = nx) (hx : -2147483648 ≤ x ∧ x ≤ 2147483647) (hy : -2147483648 ≤ y ∧ y ≤ 2147483647) (kt : x = y → zE X M k w tgt ls st sh I L R Q) (kf : ¬ x = y → zE X M k w nx ls st sh I L R Q) : zE X M k w pc ls (zI y :: zI x :: st) sh I L R Q := by
  subst hn
  intro G p l e Rm s m args below meth c H locs cells slots Qf arr F S hl kend
  exact lv_icmp_eq F.1 F.2.1 hd ht (fun h => kt ((zn_eq hx hy).mp h) G p l e Rm s m args below meth c H locs cells slots Qf arr F S hl kend) (fun h => kf (fun q => h ((zn_eq hx hy).mpr q)) G p l e Rm s m args below meth c H locs cells slots Qf arr F S hl kend)
theorem z_icmp_ne (tgt nx : Nat) {x y off : Int} (hd : decode (zmc M) pc = .ok (.if_icmp .ne off, 3)) (ht : (pc : Int) + off = (tgt : Int)) (hn : pc + 3 = nx) (hx : -2147483648 ≤ x ∧ x ≤ 2147483647) (hy : -2147483648 ≤ y ∧ y ≤ 2147483647) (kt : ¬ x = y → zE X M k w tgt ls st sh I L R Q) (kf : x = y → zE X M k w nx ls st sh I L R Q) : zE X M k w pc ls (zI y :: zI x :: st) sh I L R Q := by
  subst hn
  intro G p l e Rm s m args below meth c H locs cells slots Qf arr F S hl kend
  exact lv_icmp_ne F.1 F.2.1 hd ht (fun h => kt (fun q => h ((zn_eq hx hy).mpr q)) G p l e Rm s m args below meth c H locs cells slots Qf arr F S hl kend) (fun h => kf ((zn_eq hx hy).mp h) G p l e Rm s m args below meth c H locs cells slots Qf arr F S hl kend)
theorem z_icmp_lt (tgt nx : Nat) {x y off : Int} (hd : decode (zmc M) pc = .ok (.if_icmp .lt off, 3)) (ht : (pc : Int) + off = (tgt : Int)) (hn : pc + 3 = nx) (hx : -2147483648 ≤ x ∧ x ≤ 2147483647) (hy : -2147483648 ≤ y ∧ y ≤ 2147483647) (kt : x < y → zE X M k w tgt ls st sh I L R Q) (kf : y ≤ x → zE X M k w nx ls st sh I L R Q) : zE X M k w pc ls (zI y :: zI x :: st) sh I L R Q := by
  subst hn
  intro G p l e Rm s m args below meth c H locs cells slots Qf arr F S hl kend
  exact lv_icmp_lt F.1 F.2.1 hd ht (fun h => kt ((zn_lt hx hy).mp h) G p l e Rm s m args below meth c H locs cells slots Qf arr F S hl kend) (fun h => kf (Int.not_lt.mp (fun q => h ((zn_lt hx hy).mpr q))) G p l e Rm s m args below meth c H locs cells slots Qf arr F S hl kend)
theorem z_icmp_ge (tgt nx : Nat) {x y off : Int} (hd : decode (zmc M) pc = .ok (.if_icmp .ge off, 3)) (ht : (pc : Int) + off = (tgt : Int)) (hn : pc + 3 = nx) (hx : -2147483648 ≤ x ∧ x ≤ 2147483647) (hy : -2147483648 ≤ y ∧ y ≤ 2147483647) (kt : y ≤ x → zE X M k w tgt ls st sh I L R Q) (kf : x < y → zE X M k w nx ls st sh I L R Q) : zE X M k w pc ls (zI y :: zI x :: st) sh I L R Q := by
  subst hn
  intro G p l e Rm s m args below meth c H locs cells slots Qf arr F S hl kend
  exact lv_icmp_ge F.1 F.2.1 hd ht (fun h => kt ((zn_le hy hx).mp h) G p l e Rm s m args below meth c H locs cells slots Qf arr F S hl kend) (fun h => kf (Int.not_le.mp (fun q => h ((zn_le hy hx).mpr q))) G p l e Rm s m args below meth c H locs cells slots Qf arr F S hl kend)
theorem z_icmp_gt (tgt nx : Nat) {x y off : Int} (hd : decode (zmc M) pc = .ok (.if_icmp .gt off, 3)) (ht : (pc : Int) + off = (tgt : Int)) (hn : pc + 3 = nx) (hx : -2147483648 ≤ x ∧ x ≤ 2147483647) (hy : -2147483648 ≤ y ∧ y ≤ 2147483647) (kt : y < x → zE X M k w tgt ls st sh I L R Q) (kf : x ≤ y → zE X M k w nx ls st sh I L R Q) : zE X M k w pc ls (zI y :: zI x :: st) sh I L R Q := by
  subst hn
  intro G p l e Rm s m args below meth c H locs cells slots Qf arr F S hl kend
  exact lv_icmp_gt F.1 F.2.1 hd ht (fun h => kt ((zn_lt hy hx).mp h) G p l e Rm s m args below meth c H locs cells slots Qf arr F S hl kend) (fun h => kf (Int.not_lt.mp (fun q => h ((zn_lt hy hx).mpr q))) G p l e Rm s m args below meth c H locs cells slots Qf arr F S hl kend)
theorem z_icmp_le (tgt nx : Nat) {x y off : Int} (hd : decode (zmc M) pc = .ok (.if_icmp .le off, 3)) (ht : (pc : Int) + off = (tgt : Int)) (hn : pc + 3 = nx) (hx : -2147483648 ≤ x ∧ x ≤ 2147483647) (hy : -2147483648 ≤ y ∧ y ≤ 2147483647) (kt : x ≤ y → zE X M k w tgt ls st sh I L R Q) (kf : y < x → zE X M k w nx ls st sh I L R Q) : zE X M k w pc ls (zI y :: zI x :: st) sh I L R Q := by
  subst hn
  intro G p l e Rm s m args below meth c H locs cells slots Qf arr F S hl kend
  exact lv_icmp_le F.1 F.2.1 hd ht (fun h => kt ((zn_le hx hy).mp h) G p l e Rm s m args below meth c H locs cells slots Qf arr F S hl kend) (fun h => kf (Int.not_le.mp (fun q => h ((zn_le hx hy).mpr q))) G p l e Rm s m args below meth c H locs cells slots Qf arr F S hl kend)
theorem z_swIn (tgt : Nat) {x dflt lo hi off : Int} {offs : Array Int} {len : Nat} (hd : decode (zmc M) pc = .ok (.tableswitch dflt lo hi offs, len)) (hx : -2147483648 ≤ x ∧ x ≤ 2147483647) (h1 : lo ≤ x ∧ x ≤ hi) (ho : offs[(x - lo).toNat]? = some off) (ht : (pc : Int) + off = (tgt : Int)) (kk : zE X M k w tgt ls st sh I L R Q) : zE X M k w pc ls (zI x :: st) sh I L R Q :=
  zE_step (fun G p l e Rm s m args below meth c H locs cells slots Qf arr F hl kk => lv_tableIn (off := off) F.1 F.2.1 hd (by rw [zn_T hx]; omega) (by rw [zn_T hx]; omega) (by rw [zn_T hx]; exact ho) ht (kk arr hl)) kk
theorem z_swOut (tgt : Nat) {x dflt lo hi : Int} {offs : Array Int} {len : Nat} (hd : decode (zmc M) pc = .ok (.tableswitch dflt lo hi offs, len)) (hx : -2147483648 ≤ x ∧ x ≤ 2147483647) (h1 : x < lo ∨ hi < x) (ht : (pc : Int) + dflt = (tgt : Int)) (kk : zE X M k w tgt ls st sh I L R Q) : zE X M k w pc ls (zI x :: st) sh I L R Q :=
  zE_step (fun G p l e Rm s m args below meth c H locs cells slots Qf arr F hl kk => lv_tableOut F.1 F.2.1 hd (by rw [zn_T hx]; exact h1) ht (kk arr hl)) kk
theorem z_lksw (tgt : Nat) {x dflt off : Int} {ps : Array (Int × Int)} {len : Nat} (hd : decode (zmc M) pc = .ok (.lookupswitch dflt ps, len)) (hx : -2147483648 ≤ x ∧ x ≤ 2147483647) (hp : (ps.toList.zip (ps.toList.drop 1)).all (fun (a, next) => a.1 < next.1) = true) (ho : Op.lookupswitch.offset ps.toList dflt x = off) (ht : (pc : Int) + off = (tgt : Int)) (kk : zE X M k w tgt ls st sh I L R Q) : zE X M k w pc ls (zI x :: st) sh I L R Q :=
  zE_step (fun G p l e Rm s m args below meth c H locs cells slots Qf arr F hl kk => lv_lookup F.1 F.2.1 hd hp (by rw [zn_T hx]; exact ho) ht (kk arr hl)) kk
/-- returning -/
theorem z_ireturn {x : Int} (hd : decode (zmc M) pc = .ok (.ireturn, 1)) (hr : zmr M = some .int) (hq : Q [zI x] sh I L R) : zE X M 0 w pc ls [zI x] sh I L R Q := by
  intro G p l e Rm s m args below meth c H locs cells slots Qf arr F S hl kend
  exact kend [zI x] sh I L R H locs cells slots w pc arr hq (Or.inl ⟨x, .int, rfl, hr, rfl, hd⟩) S
theorem z_zreturn {x : Int} (hd : decode (zmc M) pc = .ok (.ireturn, 1)) (hr : zmr M = some .boolean) (hx : x = 0 ∨ x = 1) (hq : Q [zI x] sh I L R) : zE X M 0 w pc ls [zI x] sh I L R Q := by
  intro G p l e Rm s m args below meth c H locs cells slots Qf arr F S hl kend
  exact kend [zI x] sh I L R H locs cells slots w pc arr hq (Or.inl ⟨x, .boolean, rfl, hr, (by rcases hx with h | h <;> subst h <;> rfl), hd⟩) S
theorem z_lreturn {x : Int} (hd : decode (zmc M) pc = .ok (.lreturn, 1)) (hr : zmr M = some .long) (hq : Q [zL x] sh I L R) : zE X M 0 w pc ls [zL x] sh I L R Q := by
  intro G p l e Rm s m args below meth c H locs cells slots Qf arr F S hl kend
  exact kend [zL x] sh I L R H locs cells slots w pc arr hq (Or.inr (Or.inl ⟨x, rfl, hr, hd⟩)) S
theorem z_return (hd : decode (zmc M) pc = .ok (.return_, 1)) (hr : zmr M = none) (hq : Q [] sh I L R) : zE X M 0 w pc ls [] sh I L R Q := by
  intro G p l e Rm s m args below meth c H locs cells slots Qf arr F S hl kend
  exact kend [] sh I L R H locs cells slots w pc arr hq (Or.inr (Or.inr ⟨rfl, hr, hd⟩)) S
end ZROWS
end
section
/-! ===== the classes' words ===== -/
theorem zcl_in : ∀ (ci : Nat) (q : vw_C), vwCl[ci]? = some q → ∀ w ∈ u_ws q.1 q.2.1 q.2.2, w ∈ zgood := by
  have key : ∀ q ∈ vwCl, ∀ w ∈ u_ws q.1 q.2.1 q.2.2, w ∈ lw_tbl ∧ goodWord w = true := by decide +kernel
  intro ci q hq w hw
  have h := key q (List.mem_of_getElem? hq) w hw
  exact List.mem_filter.mpr h
theorem zcl_ty : ∀ (ci : Nat) (q : vw_C), vwCl[ci]? = some q → ∀ k, k < q.2.2 → parseFieldDescriptor (q.2.1 k).2.2.1 = some (zty ci k) := by
  intro ci q hq
  match ci, hq with
  | 0, hq => cases hq; exact tyX0_ok
  | 1, hq => cases hq; exact tyX1_ok
  | 2, hq => cases hq; exact tyX2_ok
  | 3, hq => cases hq; exact tyX3_ok
  | 4, hq => cases hq; exact tyX4_ok
  | 5, hq => cases hq; exact tyX5_ok
  | 6, hq => cases hq; exact tyX6_ok
  | 7, hq => cases hq; exact tyX7_ok
theorem zcl_nm : ∀ (ci : Nat) (q : vw_C), vwCl[ci]? = some q → ∀ a, a < q.2.2 → ∀ b, b < q.2.2 → a ≠ b → (q.2.1 a).2.1 ≠ (q.2.1 b).2.1 := by
  intro ci q hq
  match ci, hq with
  | 0, hq => cases hq; exact nmX0
  | 1, hq => cases hq; exact nmX1
  | 2, hq => cases hq; exact nmX2
  | 3, hq => cases hq; exact nmX3
  | 4, hq => cases hq; exact nmX4
  | 5, hq => cases hq; exact nmX5
  | 6, hq => cases hq; exact nmX6
  | 7, hq => cases hq; exact nmX7
theorem zcl_lt : ∀ (ci : Nat) (q : vw_C), vwCl[ci]? = some q → ci < 20 := by
  intro ci q hq
  have h := (List.getElem?_eq_some_iff.mp hq).1
  have h2 : vwCl.length = 8 := rfl
  omega
/-- the class own's entry idx names field j of class ci, an object of n fields; it is a reference or not -/
def zFL (own : String) (idx ci n j : Nat) (rf : Bool) : Prop := ∃ (C : String) (T : u_T), vwCl[ci]? = some (C, T, n) ∧ j < n ∧ Jvm.Cond.fieldLink own idx C (T j).2.1 (T j).2.2.1 ∈ zgood ∧ (T j).1 = C ∧ zfk ci j = rf
/-- .. and it may be written by anyone (fin false), or by its constructor alone -/
def zFP (own : String) (idx ci n j : Nat) (rf fin : Bool) (ty : FieldType) : Prop := ∃ (C : String) (T : u_T), vwCl[ci]? = some (C, T, n) ∧ j < n ∧ Jvm.Cond.fieldLink own idx C (T j).2.1 (T j).2.2.1 ∈ zgood ∧ (T j).1 = C ∧ zfk ci j = rf ∧ (T j).2.2.2 = fin ∧ (fin = true → C = own) ∧ zty ci j = ty
theorem zob_at {G : zG} {I : zI2} {R : zR2} {ci k n j : Nat} (hj : j < n) : ((List.range n).map (fun j => zfv G I R ci k j))[j]? = some (zfv G I R ci k j) := by
  rw [List.getElem?_map, List.getElem?_range hj]; rfl
theorem zob_set {G : zG} {I : zI2} {R : zR2} {ci k n j : Nat} {v : Int} (hk : zfk ci j = false) : ((List.range n).map (fun j => zfv G I R ci k j)).set j (.int (Int32.ofInt v)) = (List.range n).map (fun b => zfv G (zup I k j v) R ci k b) := by
  apply List.ext_getElem?
  intro b
  by_cases hb : b < n
  · rw [List.getElem?_map, List.getElem?_range hb]
    by_cases hbj : b = j
    · subst hbj
      rw [List.getElem?_set_self (by simpa using hb)]
      simp [zfv, hk, zup]
    · rw [List.getElem?_set_ne (Ne.symm hbj), zob_at hb]
      simp [zfv, zup, hbj]
  · rw [List.getElem?_eq_none (by simpa using hb), List.getElem?_eq_none (by simpa using hb)]
theorem zob_setR {G : zG} {I : zI2} {R : zR2} {ci k n j : Nat} {v : Nat} (hk : zfk ci j = true) : ((List.range n).map (fun j => zfv G I R ci k j)).set j (.ref (G.1 + v)) = (List.range n).map (fun b => zfv G I (zupR R k j (some v)) ci k b) := by
  apply List.ext_getElem?
  intro b
  by_cases hb : b < n
  · rw [List.getElem?_map, List.getElem?_range hb]
    by_cases hbj : b = j
    · subst hbj
      rw [List.getElem?_set_self (by simpa using hb)]
      simp [zfv, hk, zupR, va_rf]
    · rw [List.getElem?_set_ne (Ne.symm hbj), zob_at hb]
      simp [zfv, zupR, hbj]
  · rw [List.getElem?_eq_none (by simpa using hb), List.getElem?_eq_none (by simpa using hb)]
theorem zn_clamp {i : Int} (h0 : 0 ≤ i) (h1 : i ≤ 2147483647) : (Int32.ofInt i).toNatClampNeg = i.toNat := by
  show (Int32.ofInt i).toInt.toNat = i.toNat
  rw [zn_T (by omega)]
theorem zn_in {i : Int} {n : Nat} (hi : 0 ≤ i ∧ i < (n : Int) ∧ i ≤ 2147483647) : vp_in (Int32.ofInt i) n := by
  rw [vp_in_iff, zn_T (by omega)]
  omega
section ZHEAP
variable {X : zXs} {M : zM} {k w pc : Nat} {ls st : List zV} {sh : zH} {I L : zI2} {R : zR2} {Q : zQ}
theorem z_getI (nx : Nat) {idx ci n j o : Nat} (hd : decode (zmc M) pc = .ok (.getfield idx, 3)) (hf : zFL (zmo M) idx ci n j false) (ho : sh[o]? = some (ci, n)) (hn : pc + 3 = nx) (kk : zE X M k w nx ls (zI (I o j) :: st) sh I L R Q) : zE X M k w pc ls (zR o :: st) sh I L R Q := by
  subst hn
  intro G p l e Rm s m args below meth c H locs cells slots Qf arr F S hl kend
  obtain ⟨C, T, hc, hj, hlk, hC, hk⟩ := hf
  have hv : ((List.range n).map (fun j => zfv G I R ci o j))[j]? = some (.int (Int32.ofInt (I o j))) := by rw [zob_at hj]; simp [zfv, hk]
  exact va_get F.1 F.2.1 F.2.2.2.2.1 (zcl_in ci _ hc) F.2.2.2.1 F.2.2.2.2.2.1.1 S.1 o (zw_io (zcl_lt ci _ hc) ho) hc j hj (F.2.2.2.2.1 _ hlk) (fun x hx => by rw [← hC]; exact hx) hv hd (kk G p l e Rm s m args below meth c H locs cells slots Qf arr F S hl kend)
theorem z_getR (nx : Nat) {idx ci n j o q : Nat} (hd : decode (zmc M) pc = .ok (.getfield idx, 3)) (hf : zFL (zmo M) idx ci n j true) (ho : sh[o]? = some (ci, n)) (hq : R o j = some q) (hn : pc + 3 = nx) (kk : zE X M k w nx ls (zR q :: st) sh I L R Q) : zE X M k w pc ls (zR o :: st) sh I L R Q := by
  subst hn
  intro G p l e Rm s m args below meth c H locs cells slots Qf arr F S hl kend
  obtain ⟨C, T, hc, hj, hlk, hC, hk⟩ := hf
  have hv : ((List.range n).map (fun j => zfv G I R ci o j))[j]? = some (.ref (G.1 + q)) := by rw [zob_at hj]; simp [zfv, hk, hq, va_rf]
  exact va_get F.1 F.2.1 F.2.2.2.2.1 (zcl_in ci _ hc) F.2.2.2.1 F.2.2.2.2.2.1.1 S.1 o (zw_io (zcl_lt ci _ hc) ho) hc j hj (F.2.2.2.2.1 _ hlk) (fun x hx => by rw [← hC]; exact hx) hv hd (kk G p l e Rm s m args below meth c H locs cells slots Qf arr F S hl kend)
theorem z_putI0 (nx : Nat) {idx ci n j o : Nat} {v : Int} {ty : FieldType} (hd : decode (zmc M) pc = .ok (.putfield idx, 3)) (hf : zFP (zmo M) idx ci n j false false ty) (hnr : narrow ty (.int (Int32.ofInt v)) = .int (Int32.ofInt v)) (hft : fits ty (.int (Int32.ofInt v)) = true) (ho : sh[o]? = some (ci, n)) (hn : pc + 3 = nx) (kk : zE X M k w nx ls st sh (zup I o j v) L R Q) : zE X M k w pc ls (zI v :: zR o :: st) sh I L R Q := by
  subst hn
  intro G p l e Rm s m args below meth c H locs cells slots Qf arr F S hl kend
  obtain ⟨C, T, hc, hj, hlk, hC, hk, hfin, -, hty⟩ := hf
  have hci := zcl_lt ci _ hc
  refine va_put F.1 F.2.1 F.2.2.2.2.1 (zcl_in ci _ hc) (zty ci) (zcl_ty ci _ hc) (zcl_nm ci _ hc) F.2.2.2.1 F.2.2.2.2.2.1.1 S.1 zw_D S.2.1 o (zw_io hci ho) hc j hj (F.2.2.2.2.1 _ hlk) (fun x hx => by rw [← hC]; exact hx) hfin (ty := ty) (v := .int (Int32.ofInt v)) (by rw [zcl_ty ci _ hc j hj, hty]) hnr hft (by simpa using hj) hd (fun H1 locs1 hP1 hD1 hS1 => ?_)
  have e5 : (zw G sh I L R).set o (G.1 + o, .inr (ci, ((List.range n).map (fun j => zfv G I R ci o j)).set j (.int (Int32.ofInt v)))) = zw G sh (zup I o j v) L R := zw_set ho (by rw [zcell_o hci, zob_set hk]; rfl) (fun a u ha => zcell_up u ha)
  rw [e5] at hP1
  exact kk G p l e Rm s m args below meth c H1 locs1 cells slots Qf arr F ⟨hP1, hS1, S.2.2⟩ hl kend
theorem z_putI (nx : Nat) {idx ci n j o : Nat} {v : Int} (hd : decode (zmc M) pc = .ok (.putfield idx, 3)) (hf : zFP (zmo M) idx ci n j false false .int) (ho : sh[o]? = some (ci, n)) (hn : pc + 3 = nx) (kk : zE X M k w nx ls st sh (zup I o j v) L R Q) : zE X M k w pc ls (zI v :: zR o :: st) sh I L R Q := z_putI0 nx hd hf rfl rfl ho hn kk
theorem z_putZ (nx : Nat) {idx ci n j o : Nat} {v : Int} (hd : decode (zmc M) pc = .ok (.putfield idx, 3)) (hf : zFP (zmo M) idx ci n j false false .boolean) (hv : v = 0 ∨ v = 1) (ho : sh[o]? = some (ci, n)) (hn : pc + 3 = nx) (kk : zE X M k w nx ls st sh (zup I o j v) L R Q) : zE X M k w pc ls (zI v :: zR o :: st) sh I L R Q := z_putI0 nx hd hf (by rcases hv with h | h <;> subst h <;> rfl) (by rcases hv with h | h <;> subst h <;> rfl) ho hn kk
theorem z_putR (nx : Nat) {idx ci n j o v : Nat} {ty : FieldType} (hd : decode (zmc M) pc = .ok (.putfield idx, 3)) (hf : zFP (zmo M) idx ci n j true true ty) (hin : (zmy M).name = "<init>") (ho : sh[o]? = some (ci, n)) (hn : pc + 3 = nx) (kk : zE X M k w nx ls st sh I L (zupR R o j (some v)) Q) : zE X M k w pc ls (zR v :: zR o :: st) sh I L R Q := by
  subst hn
  intro G p l e Rm s m args below meth c H locs cells slots Qf arr F S hl kend
  obtain ⟨C, T, hc, hj, hlk, hC, hk, hfin, hown, hty⟩ := hf
  have hci := zcl_lt ci _ hc
  have hnr : narrow ty (.ref (G.1 + v)) = .ref (G.1 + v) ∧ fits ty (.ref (G.1 + v)) = true := by
    unfold zfk at hk
    rw [hty] at hk
    cases ty <;> first | exact ⟨rfl, rfl⟩ | cases hk
  refine va_putF F.1 F.2.1 F.2.2.2.2.1 (zcl_in ci _ hc) (zty ci) (zcl_ty ci _ hc) (zcl_nm ci _ hc) F.2.2.2.1 F.2.2.2.2.2.1.1 S.1 zw_D S.2.1 o (zw_io hci ho) hc j hj (F.2.2.2.2.1 _ hlk) (fun x hx => by rw [← hC]; exact hx) hfin (by rw [F.2.2.2.2.2.2.2.2.1]; exact hin) (hC.trans (hown rfl)) (ty := ty) (v := .ref (G.1 + v)) (by rw [zcl_ty ci _ hc j hj, hty]) hnr.1 hnr.2 (by simpa using hj) hd (fun H1 locs1 hP1 hD1 hS1 => ?_)
  have e5 : (zw G sh I L R).set o (G.1 + o, .inr (ci, ((List.range n).map (fun j => zfv G I R ci o j)).set j (.ref (G.1 + v)))) = zw G sh I L (zupR R o j (some v)) := zw_set ho (by rw [zcell_o hci, zob_setR hk]; rfl) (fun a u ha => zcell_upR u ha)
  rw [e5] at hP1
  exact kk G p l e Rm s m args below meth c H1 locs1 cells slots Qf arr F ⟨hP1, hS1, S.2.2⟩ hl kend
/-! arrays -/
theorem z_iald (nx : Nat) {a n : Nat} {i : Int} (hd : decode (zmc M) pc = .ok (.iaload, 1)) (ha : sh[a]? = some (20, n)) (hi : 0 ≤ i ∧ i < (n : Int) ∧ i ≤ 2147483647) (hn : pc + 1 = nx) (kk : zE X M k w nx ls (zI (I a i.toNat) :: st) sh I L R Q) : zE X M k w pc ls (zI i :: zR a :: st) sh I L R Q := by
  subst hn
  intro G p l e Rm s m args below meth c H locs cells slots Qf arr F S hl kend
  have hcl : (Int32.ofInt i).toNatClampNeg = i.toNat := zn_clamp hi.1 hi.2.2
  refine va_iald F.1 F.2.1 F.2.2.2.2.2.1.1 S.1 a 0 (zw_iI ha) rfl (zn_in hi) hd ?_
  rw [hcl]
  exact kk G p l e Rm s m args below meth c H locs cells slots Qf arr F S hl kend
theorem z_lald (nx : Nat) {a n : Nat} {i : Int} (hd : decode (zmc M) pc = .ok (.laload, 1)) (ha : sh[a]? = some (21, n)) (hi : 0 ≤ i ∧ i < (n : Int) ∧ i ≤ 2147483647) (hn : pc + 1 = nx) (kk : zE X M k w nx ls (zL (L a i.toNat) :: st) sh I L R Q) : zE X M k w pc ls (zI i :: zR a :: st) sh I L R Q := by
  subst hn
  intro G p l e Rm s m args below meth c H locs cells slots Qf arr F S hl kend
  have hcl : (Int32.ofInt i).toNatClampNeg = i.toNat := zn_clamp hi.1 hi.2.2
  refine va_lald F.1 F.2.1 F.2.2.2.2.2.1.1 S.1 a 1 (zw_iL ha) rfl (zn_in hi) hd ?_
  rw [hcl]
  exact kk G p l e Rm s m args below meth c H locs cells slots Qf arr F S hl kend
theorem z_aald (nx : Nat) {a n q : Nat} {i : Int} (hd : decode (zmc M) pc = .ok (.aaload, 1)) (ha : sh[a]? = some (22, n)) (hi : 0 ≤ i ∧ i < (n : Int) ∧ i ≤ 2147483647) (hq : R a i.toNat = some q) (hn : pc + 1 = nx) (kk : zE X M k w nx ls (zR q :: st) sh I L R Q) : zE X M k w pc ls (zI i :: zR a :: st) sh I L R Q := by
  subst hn
  intro G p l e Rm s m args below meth c H locs cells slots Qf arr F S hl kend
  have hcl : (Int32.ofInt i).toNatClampNeg = i.toNat := zn_clamp hi.1 hi.2.2
  refine va_aldq F.1 F.2.1 F.2.2.2.2.2.1.1 S.1 a 2 (zw_iR ha) rfl (zn_in hi) hd ?_
  rw [hcl, hq]
  exact kk G p l e Rm s m args below meth c H locs cells slots Qf arr F S hl kend
theorem z_aald3 (nx : Nat) {a n q : Nat} {i : Int} (hd : decode (zmc M) pc = .ok (.aaload, 1)) (ha : sh[a]? = some (23, n)) (hi : 0 ≤ i ∧ i < (n : Int) ∧ i ≤ 2147483647) (hq : R a i.toNat = some q) (hn : pc + 1 = nx) (kk : zE X M k w nx ls (zR q :: st) sh I L R Q) : zE X M k w pc ls (zI i :: zR a :: st) sh I L R Q := by
  subst hn
  intro G p l e Rm s m args below meth c H locs cells slots Qf arr F S hl kend
  have hcl : (Int32.ofInt i).toNatClampNeg = i.toNat := zn_clamp hi.1 hi.2.2
  refine va_aldq F.1 F.2.1 F.2.2.2.2.2.1.1 S.1 a 3 (zw_iR3 ha) rfl (zn_in hi) hd ?_
  rw [hcl, hq]
  exact kk G p l e Rm s m args below meth c H locs cells slots Qf arr F S hl kend
theorem z_iast (nx : Nat) {a n : Nat} {i v : Int} (hd : decode (zmc M) pc = .ok (.iastore, 1)) (ha : sh[a]? = some (20, n)) (hi : 0 ≤ i ∧ i < (n : Int) ∧ i ≤ 2147483647) (hn : pc + 1 = nx) (kk : zE X M k w nx ls st sh (zup I a i.toNat v) L R Q) : zE X M k w pc ls (zI v :: zI i :: zR a :: st) sh I L R Q := by
  subst hn
  intro G p l e Rm s m args below meth c H locs cells slots Qf arr F S hl kend
  have hcl : (Int32.ofInt i).toNatClampNeg = i.toNat := zn_clamp hi.1 hi.2.2
  refine va_iast F.1 F.2.1 F.2.2.2.2.2.1.1 S.1 zw_D S.2.1 a 0 (zw_iI ha) rfl (zn_in hi) hd (fun H1 locs1 hP1 hD1 hS1 => ?_)
  rw [hcl] at hP1
  have e5 : (zw G sh I L R).set a (G.1 + a, .inl (G.2.2.2.2.2 0, n, .inl (upd (fun j => Int32.ofInt (I a j)) i.toNat (Int32.ofInt v)))) = zw G sh (zup I a i.toNat v) L R := zw_set ha (by
    show _ = zaI G _ a n
    unfold zaI
    congr 3
    congr 1
    funext j
    by_cases hj : j = i.toNat <;> simp [upd, zup, hj]) (fun b u hb => zcell_up u hb)
  rw [e5] at hP1
  exact kk G p l e Rm s m args below meth c H1 locs1 cells slots Qf arr F ⟨hP1, hS1, S.2.2⟩ hl kend
theorem z_last (nx : Nat) {a n : Nat} {i v : Int} (hd : decode (zmc M) pc = .ok (.lastore, 1)) (ha : sh[a]? = some (21, n)) (hi : 0 ≤ i ∧ i < (n : Int) ∧ i ≤ 2147483647) (hn : pc + 1 = nx) (kk : zE X M k w nx ls st sh I (zup L a i.toNat v) R Q) : zE X M k w pc ls (zL v :: zI i :: zR a :: st) sh I L R Q := by
  subst hn
  intro G p l e Rm s m args below meth c H locs cells slots Qf arr F S hl kend
  have hcl : (Int32.ofInt i).toNatClampNeg = i.toNat := zn_clamp hi.1 hi.2.2
  refine va_last F.1 F.2.1 F.2.2.2.2.2.1.1 S.1 zw_D S.2.1 a 1 (zw_iL ha) rfl (zn_in hi) hd (fun H1 locs1 hP1 hD1 hS1 => ?_)
  rw [hcl] at hP1
  have e5 : (zw G sh I L R).set a (G.1 + a, .inl (G.2.2.2.2.2 1, n, .inr (.inl (vp_updL (fun j => Int64.ofInt (L a j)) i.toNat (Int64.ofInt v))))) = zw G sh I (zup L a i.toNat v) R := zw_set ha (by
    show _ = zaL G _ a n
    unfold zaL
    congr 4
    congr 1
    funext j
    by_cases hj : j = i.toNat <;> simp [vp_updL, zup, hj]) (fun b u hb => zcell_upL u hb)
  rw [e5] at hP1
  exact kk G p l e Rm s m args below meth c H1 locs1 cells slots Qf arr F ⟨hP1, hS1, S.2.2⟩ hl kend
theorem z_aast (nx : Nat) {a n v : Nat} {i : Int} (hd : decode (zmc M) pc = .ok (.aastore, 1)) (ha : sh[a]? = some (22, n)) (hv : sh[v]? = some (4, 9)) (hi : 0 ≤ i ∧ i < (n : Int) ∧ i ≤ 2147483647) (hn : pc + 1 = nx) (kk : zE X M k w nx ls st sh I L (zupR R a i.toNat (some v)) Q) : zE X M k w pc ls (zR v :: zI i :: zR a :: st) sh I L R Q := by
  subst hn
  intro G p l e Rm s m args below meth c H locs cells slots Qf arr F S hl kend
  have hcl : (Int32.ofInt i).toNatClampNeg = i.toNat := zn_clamp hi.1 hi.2.2
  refine va_astq F.1 F.2.1 F.2.2.2.2.2.1.1 S.1 zw_D S.2.1 a 2 v 4 (r := (RX4, TX4, 9)) (zw_iR ha) rfl (zw_io (by decide) hv) rfl (zn_in hi) hd (fun H1 locs1 hP1 hD1 hS1 => ?_)
  rw [hcl] at hP1
  have e5 : (zw G sh I L R).set a (G.1 + a, .inl (G.2.2.2.2.2 2, n, .inr (.inr (.inr (.inr (va_up (fun j => (R a j).map (G.1 + ·)) i.toNat (some (G.1 + v)))))))) = zw G sh I L (zupR R a i.toNat (some v)) := zw_set ha (by
    show _ = zaR G _ 2 a n
    unfold zaR
    congr 7
    funext j
    by_cases hj : j = i.toNat <;> simp [va_up, zupR, hj]) (fun b u hb => zcell_upR u hb)
  rw [e5] at hP1
  exact kk G p l e Rm s m args below meth c H1 locs1 cells slots Qf arr F ⟨hP1, hS1, S.2.2⟩ hl kend
theorem z_aast3 (nx : Nat) {a n v : Nat} {i : Int} (hd : decode (zmc M) pc = .ok (.aastore, 1)) (ha : sh[a]? = some (23, n)) (hv : sh[v]? = some (3, 3)) (hi : 0 ≤ i ∧ i < (n : Int) ∧ i ≤ 2147483647) (hn : pc + 1 = nx) (kk : zE X M k w nx ls st sh I L (zupR R a i.toNat (some v)) Q) : zE X M k w pc ls (zR v :: zI i :: zR a :: st) sh I L R Q := by
  subst hn
  intro G p l e Rm s m args below meth c H locs cells slots Qf arr F S hl kend
  have hcl : (Int32.ofInt i).toNatClampNeg = i.toNat := zn_clamp hi.1 hi.2.2
  refine va_astq F.1 F.2.1 F.2.2.2.2.2.1.1 S.1 zw_D S.2.1 a 3 v 3 (r := (RX3, TX3, 3)) (zw_iR3 ha) rfl (zw_io (by decide) hv) rfl (zn_in hi) hd (fun H1 locs1 hP1 hD1 hS1 => ?_)
  rw [hcl] at hP1
  have e5 : (zw G sh I L R).set a (G.1 + a, .inl (G.2.2.2.2.2 3, n, .inr (.inr (.inr (.inr (va_up (fun j => (R a j).map (G.1 + ·)) i.toNat (some (G.1 + v)))))))) = zw G sh I L (zupR R a i.toNat (some v)) := zw_set ha (by
    show _ = zaR G _ 3 a n
    unfold zaR
    congr 7
    funext j
    by_cases hj : j = i.toNat <;> simp [va_up, zupR, hj]) (fun b u hb => zcell_upR u hb)
  rw [e5] at hP1
  exact kk G p l e Rm s m args below meth c H1 locs1 cells slots Qf arr F ⟨hP1, hS1, S.2.2⟩ hl kend
theorem z_alen (nx : Nat) {a t n : Nat} (hd : decode (zmc M) pc = .ok (.arraylength, 1)) (ha : sh[a]? = some (t, n)) (ht : t = 20 ∨ t = 21 ∨ t = 22 ∨ t = 23) (hn : pc + 1 = nx) (kk : zE X M k w nx ls (zI (n : Int) :: st) sh I L R Q) : zE X M k w pc ls (zR a :: st) sh I L R Q := by
  subst hn
  intro G p l e Rm s m args below meth c H locs cells slots Qf arr F S hl kend
  have key := kk G p l e Rm s m args below meth c H locs cells slots Qf arr F S hl kend
  have hv : Int32.ofNat n = Int32.ofInt (n : Int) := rfl
  rcases ht with h | h | h | h <;> subst h
  · exact va_alen F.1 F.2.1 F.2.2.2.2.2.1.1 S.1 a 0 (zw_iI ha) (ty := .int) rfl hv hd key
  · exact va_alen F.1 F.2.1 F.2.2.2.2.2.1.1 S.1 a 1 (zw_iL ha) (ty := .long) rfl hv hd key
  · exact va_alen F.1 F.2.1 F.2.2.2.2.2.1.1 S.1 a 2 (zw_iR ha) (ty := .object "HelterSlide$Slide") rfl hv hd key
  · exact va_alen F.1 F.2.1 F.2.2.2.2.2.1.1 S.1 a 3 (zw_iR3 ha) (ty := .object "HelterSlide$Sheet") rfl hv hd key
/-- the script -/
theorem z_sld (nx : Nat) {i : Int} (hd : decode (zmc M) pc = .ok (.iaload, 1)) (hi : 0 ≤ i ∧ i < (X.1 : Int) ∧ i ≤ 2147483647) (hn : pc + 1 = nx) (kk : zE X M k w nx ls (zI (X.2 i.toNat) :: st) sh I L R Q) : zE X M k w pc ls (zI i :: zS :: st) sh I L R Q := by
  subst hn
  intro G p l e Rm s m args below meth c H locs cells slots Qf arr F S hl kend
  have hcl : (Int32.ofInt i).toNatClampNeg = i.toNat := zn_clamp hi.1 hi.2.2
  obtain ⟨_, _, _, _, _, _, _, _, _, hz, hX, hb, hL, hx⟩ := id F
  refine va_sld F.1 F.2.1 hX (by omega) (by omega) S.2.1 (by rw [hL]; exact zn_in hi) hd ?_
  rw [hcl, hx _ (by omega)]
  exact kk G p l e Rm s m args below meth c H locs cells slots Qf arr F S hl kend
theorem z_slen (nx : Nat) (hd : decode (zmc M) pc = .ok (.arraylength, 1)) (hn : pc + 1 = nx) (kk : zE X M k w nx ls (zI (X.1 : Int) :: st) sh I L R Q) : zE X M k w pc ls (zS :: st) sh I L R Q := by
  subst hn
  intro G p l e Rm s m args below meth c H locs cells slots Qf arr F S hl kend
  obtain ⟨_, _, _, _, _, _, _, _, _, hz, hX, hb, hL, hx⟩ := id F
  refine va_slen F.1 F.2.1 hX (by omega) (by omega) S.2.1 hd ?_
  rw [hL]
  exact kk G p l e Rm s m args below meth c H locs cells slots Qf arr F S hl kend
end ZHEAP
end
section
/-! ===== making objects and arrays ===== -/
section ZNEW
variable {X : zXs} {M : zM} {k w pc : Nat} {ls st : List zV} {sh : zH} {I L : zI2} {R : zR2} {Q : zQ}
theorem zSt.lt {G : zG} {Rm : Room} {s : State} {H : Heap} {locs : List Loc} {cells slots k w : Nat} {sh : zH} {I L : zI2} {R : zR2} (S : zSt G Rm s H locs cells slots k w sh I L R) (hz : G.1 ≤ s.heap.size) : G.1 + sh.length ≤ H.size := by
  cases hl : sh.length with
  | zero => exact Nat.le_trans hz S.2.1.1
  | succ n =>
    obtain ⟨t, ht⟩ : ∃ t, sh[n]? = some t := ⟨sh[n], List.getElem?_eq_getElem (by omega)⟩
    have h1 := (S.1 n _ (zw_get ht)).lt
    have h2 : G.1 + n < H.size := h1
    omega
/-- the heap's size is known where the machine stands -/
theorem zW_size {p : Program} {l : Launch} {e : Env} {Rm : Room} {s : State} {m : MethodId} {args : Array Value} {below : List Frame} {meth : Method} {c : Code} {H : Heap} {locs : List Loc} {cells slots : Nat} {Qf : State → Prop} {g : JFrame} {n : Nat} (h1 : n ≤ H.size) (h2 : s.heap.size + cells = n) (kk : H.size = n → W p l e Rm s m args below meth c H locs cells slots Qf g) : W p l e Rm s m args below meth c H locs cells slots Qf g := by
  intro T hT Xs
  have h3 := Xs.heapSize
  rw [hT] at h3
  exact kk (by omega) T hT Xs
theorem zw_row_push {G : zG} {sh : zH} {I L : zI2} {R : zR2} {ci n : Nat} {e : va_E} (he : e = zcell G (zrow I sh.length fun _ => 0) L (zrowR R sh.length fun _ => none) sh.length (ci, n)) : zw G sh I L R ++ [(G.1 + sh.length, e)] = zw G (sh ++ [(ci, n)]) (zrow I sh.length fun _ => 0) L (zrowR R sh.length fun _ => none) :=
  zw_push he (fun a u ha => by rw [zcell_row u (by omega), zcell_rowR u (by omega)])
theorem z_new (nx : Nat) {idx ci n : Nat} {C : String} {T : u_T} (hd : decode (zmc M) pc = .ok (.new idx, 3)) (hc : vwCl[ci]? = some (C, T, n)) (h1 : Jvm.Cond.classLink (zmo M) idx C ∈ zgood) (h2 : Jvm.Cond.instantiable C n ∈ zgood) (h3 : Jvm.Cond.initialized C ∈ zgood) (hdf : ∀ j, j < n → defaultValue (zty ci j) = if zfk ci j = true then .null else .int 0) (hn : pc + 3 = nx)
    (kk : zE X M k w nx ls (zR sh.length :: st) (sh ++ [(ci, n)]) (zrow I sh.length fun _ => 0) L (zrowR R sh.length fun _ => none) Q) : zE X M (k + 1) (w + n) pc ls st sh I L R Q := by
  subst hn
  intro G p l e Rm s m args below meth c H locs cells slots Qf arr F S hl kend
  have hz := F.2.2.2.2.2.2.2.2.2.1
  have hcl := zcl_lt ci _ hc
  refine zW_size (S.lt hz) S.2.2.1 (fun hsz => ?_)
  have hKn := F.2.2.2.2.2.1.1.1 ci _ hc
  refine W.newcK F.1 F.2.1 F.2.2.2.1 (F.2.2.2.2.1 _ h1) (F.2.2.2.2.1 _ h2) (F.2.2.2.2.1 _ h3) rfl hd (by have := S.2.2.2.1; omega) (by have := S.2.2.2.2; omega) hKn.2.1 hsz fun H1 kC hkC e1 z1 o1 => ?_
  have hkp : ∀ (q : Nat) (x : Nat × va_E), (zw G sh I L R)[q]? = some x → H1[x.1]? = H[x.1]? := fun q x hx => o1 x.1 (by rw [← hsz]; exact (S.1 q x hx).lt)
  have hnew : va_P G.2.2.2.2.1 vwCl [(G.1 + sh.length, zob G (zrow I sh.length fun _ => 0) (zrowR R sh.length fun _ => none) ci sh.length n)] H1 := by
    intro q x hx
    have hq : q < 1 := (List.getElem?_eq_some_iff.mp hx).1
    rw [show q = 0 by omega] at hx
    cases hx
    refine ⟨_, hc, (u_born (zty ci) F.2.2.2.2.1 (zcl_in ci _ hc) hKn hkC e1 (zcl_ty ci _ hc)).to (fun j hj => ?_)⟩
    rw [hdf j hj]
    show _ = ((List.range n).map (fun j => zfv G (zrow I sh.length fun _ => 0) (zrowR R sh.length fun _ => none) ci sh.length j)).getD j Value.null
    rw [List.getD_eq_getElem?_getD, zob_at hj]
    cases hk : zfk ci j <;> simp [zfv, hk, zrow, zrowR, va_rf]
  have hP2 := (S.1.kept hkp).app hnew
  rw [zw_row_push (by rw [zcell_o hcl])] at hP2
  have h9 := S.2.2
  exact kk G p l e Rm s m args below meth c H1 locs (cells + 1) (slots + n) Qf arr F ⟨hP2, ⟨Nat.le_trans S.2.1.1 (by omega), fun x g1 g2 => (o1 x (by have := S.2.1.1; omega)).trans (S.2.1.2.1 x g1 g2), S.2.1.2.2⟩, by rw [List.length_append]; simp; omega, by omega, by omega⟩ hl kend
theorem z_newa (nx : Nat) {at_ : ArrayType} {t : Nat} {n : Int} (hd : decode (zmc M) pc = .ok (.newarray at_, 2)) (ht : (at_ = .int ∧ t = 20) ∨ (at_ = .long ∧ t = 21)) (h1 : Jvm.Cond.arrayClass (newarray.typeOf at_) ∈ zgood) (hn0 : 0 ≤ n ∧ n ≤ 60000) (hn : pc + 2 = nx)
    (kk : zE X M k w nx ls (zR sh.length :: st) (sh ++ [(t, n.toNat)]) (zrow I sh.length fun _ => 0) (zrow L sh.length fun _ => 0) R Q) : zE X M (k + 1) (w + n.toNat) pc ls (zI n :: st) sh I L R Q := by
  subst hn
  intro G p l e Rm s m args below meth c H locs cells slots Qf arr F S hl kend
  have hz := F.2.2.2.2.2.2.2.2.2.1
  refine zW_size (S.lt hz) S.2.2.1 (fun hsz => ?_)
  have h9 := S.2.2
  refine va_newaK F.1 F.2.1 (F.2.2.2.2.1 _ h1) rfl hd (n := Int32.ofInt n) (N := n.toNat) (rest := st.map (zc G)) rfl (by rw [zn_lt0 (by omega)]; omega) (zn_clamp (by omega) (by omega)) (by rcases ht with ⟨rfl, -⟩ | ⟨rfl, -⟩ <;> simp only [newarray.typeOf, componentBytes] <;> omega) (by omega) (by omega) hsz fun H1 cA e1 z1 o1 hAr hNm => ?_
  have hkp : ∀ (q : Nat) (x : Nat × va_E), (zw G sh I L R)[q]? = some x → H1[x.1]? = H[x.1]? := fun q x hx => o1 x.1 (by rw [← hsz]; exact (S.1 q x hx).lt)
  have hS1 : va_S (fun q => G.1 ≤ q) s.heap H1 locs := ⟨Nat.le_trans S.2.1.1 (by omega), fun x g1 g2 => (o1 x (by have := S.2.1.1; omega)).trans (S.2.1.2.1 x g1 g2), S.2.1.2.2⟩
  have hcell : va_at G.2.2.2.2.1 vwCl (G.1 + sh.length, zcell G (zrow I sh.length fun _ => 0) (zrow L sh.length fun _ => 0) R sh.length (t, n.toNat)) H1 := by
    rcases ht with ⟨rfl, rfl⟩ | ⟨rfl, rfl⟩
    · have hc2 : cA = G.2.2.2.2.2 0 := Option.some.inj (hNm.symm.trans (F.2.2.2.2.2.1.1.2 0 _ rfl).2)
      show H1[_]? = some _
      rw [e1, hc2]
      simp [zcell, zaI, zrow, vp_cell, newarray.typeOf, defaultValue]
    · have hc2 : cA = G.2.2.2.2.2 1 := Option.some.inj (hNm.symm.trans (F.2.2.2.2.2.1.1.2 1 _ rfl).2)
      show H1[_]? = some _
      rw [e1, hc2]
      simp [zcell, zaL, zrow, vp_cell, newarray.typeOf, defaultValue]
  have hnew : va_P G.2.2.2.2.1 vwCl [(G.1 + sh.length, zcell G (zrow I sh.length fun _ => 0) (zrow L sh.length fun _ => 0) R sh.length (t, n.toNat))] H1 := by
    intro q x hx
    have hq : q < 1 := (List.getElem?_eq_some_iff.mp hx).1
    rw [show q = 0 by omega] at hx
    cases hx
    exact hcell
  have hP2 := (S.1.kept hkp).app hnew
  rw [zw_push (I' := zrow I sh.length fun _ => 0) (L' := zrow L sh.length fun _ => 0) (R' := R) rfl (fun a u ha => by rw [zcell_row u (by omega), zcell_rowL u (by omega)])] at hP2
  exact kk G p l e Rm s m args below meth c H1 locs (cells + 1) (slots + n.toNat) Qf arr F ⟨hP2, hS1, by rw [List.length_append]; simp; omega, by omega, by omega⟩ hl kend
theorem z_newq (nx : Nat) {idx t : Nat} {n : Int} {C : String} (hd : decode (zmc M) pc = .ok (.anewarray idx, 3)) (ht : (C = "HelterSlide$Slide" ∧ t = 22) ∨ (C = "HelterSlide$Sheet" ∧ t = 23)) (h1 : Jvm.Cond.classLink (zmo M) idx C ∈ zgood) (hn0 : 0 ≤ n ∧ n ≤ 60000) (hn : pc + 3 = nx)
    (kk : zE X M k w nx ls (zR sh.length :: st) (sh ++ [(t, n.toNat)]) (zrow I sh.length fun _ => 0) L (zrowR R sh.length fun _ => none) Q) : zE X M (k + 1) (w + n.toNat) pc ls (zI n :: st) sh I L R Q := by
  subst hn
  intro G p l e Rm s m args below meth c H locs cells slots Qf arr F S hl kend
  have hz := F.2.2.2.2.2.2.2.2.2.1
  refine zW_size (S.lt hz) S.2.2.1 (fun hsz => ?_)
  have h9 := S.2.2
  have hcl : (Int32.ofInt n).toNatClampNeg = n.toNat := zn_clamp (by omega) (by omega)
  have hAO : va_AO C s := by rcases ht with ⟨rfl, -⟩ | ⟨rfl, -⟩; exact F.2.2.2.2.2.1.2.2.1; exact F.2.2.2.2.2.1.2.2.2
  refine W.anew F.1 F.2.1 F.2.2.2.1 (F.2.2.2.2.1 _ h1) (va_AO.use hAO) rfl hd (n := Int32.ofInt n) (rest := st.map (zc G)) rfl (by rw [zn_lt0 (by omega)]; omega) (by rw [hcl]; omega) (by omega) (by rw [hcl]; omega) fun cA kA comp f1 f2 f3 f4 => ?_
  rw [hcl]
  generalize hH1 : H.push ({ cls := cA, slots := Array.replicate n.toNat .null, vm := .none } : Cell) = H1
  have z1 : H1.size = H.size + 1 := by rw [← hH1, Array.size_push]
  have e1 : H1[H.size]? = some (arrV cA n.toNat (fun _ => .null)) := by rw [← hH1, Array.getElem?_push_size, ← arrV_new]
  have o1 : ∀ q : Nat, q < H.size → H1[q]? = H[q]? := fun q hq => by rw [← hH1, Array.getElem?_push, if_neg (Nat.ne_of_lt hq)]
  have hkp : ∀ (q : Nat) (x : Nat × va_E), (zw G sh I L R)[q]? = some x → H1[x.1]? = H[x.1]? := fun q x hx => o1 x.1 ((S.1 q x hx).lt)
  have hS1 : va_S (fun q => G.1 ≤ q) s.heap H1 locs := ⟨Nat.le_trans S.2.1.1 (by omega), fun x g1 g2 => (o1 x (by have := S.2.1.1; omega)).trans (S.2.1.2.1 x g1 g2), S.2.1.2.2⟩
  have hcell : va_at G.2.2.2.2.1 vwCl (G.1 + sh.length, zcell G (zrow I sh.length fun _ => 0) L (zrowR R sh.length fun _ => none) sh.length (t, n.toNat)) H1 := by
    rcases ht with ⟨rfl, rfl⟩ | ⟨rfl, rfl⟩
    · obtain ⟨kA2, comp2, g1, g2, g3, g4⟩ := (F.2.2.2.2.2.1.1.2 2 _ rfl).2
      have hc2 : cA = G.2.2.2.2.2 2 := Option.some.inj (f1.symm.trans g4)
      show H1[G.1 + sh.length]? = some _
      rw [← hsz, e1, hc2]
      simp [zcell, zaR, zrowR, vp_cell, va_rf]
    · obtain ⟨kA2, comp2, g1, g2, g3, g4⟩ := (F.2.2.2.2.2.1.1.2 3 _ rfl).2
      have hc2 : cA = G.2.2.2.2.2 3 := Option.some.inj (f1.symm.trans g4)
      show H1[G.1 + sh.length]? = some _
      rw [← hsz, e1, hc2]
      simp [zcell, zaR, zrowR, vp_cell, va_rf]
  have hnew : va_P G.2.2.2.2.1 vwCl [(G.1 + sh.length, zcell G (zrow I sh.length fun _ => 0) L (zrowR R sh.length fun _ => none) sh.length (t, n.toNat))] H1 := by
    intro q x hx
    have hq : q < 1 := (List.getElem?_eq_some_iff.mp hx).1
    rw [show q = 0 by omega] at hx
    cases hx
    exact hcell
  have hP2 := (S.1.kept hkp).app hnew
  rw [zw_row_push rfl] at hP2
  rw [hsz]
  exact kk G p l e Rm s m args below meth c H1 locs (cells + 1) (slots + n.toNat) Qf arr F ⟨hP2, hS1, by rw [List.length_append]; simp; omega, by omega, by omega⟩ hl kend
theorem z_objInit (nx : Nat) {idx o : Nat} (hd : decode (zmc M) pc = .ok (.invokespecial idx, 3)) (h1 : Jvm.Cond.methodLink (zmo M) idx objectInit ∈ zgood) (h2 : Jvm.Cond.instanceMethod objectInit ∈ zgood) (h3 : Jvm.Cond.code objectInit ⟨#[0xb1]⟩ 1 none ∈ zgood) (hf : 1 ≤ zmf M) (hlw : zwords st + 12 ≤ zmw M) (hn : pc + 3 = nx) (kk : zE X M k w nx ls st sh I L R Q) : zE X M k w pc ls (zR o :: st) sh I L R Q := by
  subst hn
  intro G p l e Rm s m args below meth c H locs cells slots Qf arr F S hl kend
  refine W.objInit F.1 F.2.1 F.2.2.2.1 (F.2.2.2.2.1 _ h1) (F.2.2.2.2.1 _ h2) (F.2.2.2.2.1 _ h3) rfl (hl.1.trans F.2.2.1.symm) (rest := st.map (zc G)) rfl hd (Nat.le_trans hf F.2.2.2.2.2.2.1) ?_ (kk G p l e Rm s m args below meth c H locs cells slots Qf arr F S hl kend)
  have h5 := F.2.2.2.2.2.2.2.1
  have h6 : ((st.map (zc G)).map fun v => v.category).sum = zwords st := zwords_cat G st
  show 2 * 0 + _ + 12 ≤ _
  omega
/-- what arraycopy leaves in the target's row -/
def zcp (f g : Nat → Int) (sp dp n : Nat) : Nat → Int := fun j => if dp ≤ j ∧ j < dp + n then f (sp + (j - dp)) else g j
theorem z_copyI (nx : Nat) {idx a0 a1 n0 n1 sp dp n : Nat} {xsp xdp xn : Int} (hd : decode (zmc M) pc = .ok (.invokestatic idx, 3)) (h1 : Jvm.Cond.methodLink (zmo M) idx arraycopyName ∈ zgood) (h2 : Jvm.Cond.native arraycopyName ∈ zgood) (h3 : Jvm.Cond.static arraycopyName ∈ zgood) (h4 : Jvm.Cond.initialized "java/lang/System" ∈ zgood) (ha0 : sh[a0]? = some (20, n0)) (ha1 : sh[a1]? = some (20, n1)) (hsp : xsp = (sp : Int)) (hdp : xdp = (dp : Int)) (hxn : xn = (n : Int)) (hs : sp + n ≤ n0 ∧ dp + n ≤ n1 ∧ n0 ≤ 60000 ∧ n1 ≤ 60000) (hf : 1 ≤ zmf M) (hlw : zwords st + 18 ≤ zmw M) (hn : pc + 3 = nx)
    (kk : zE X M k w nx ls st sh (zrow I a1 (zcp (I a0) (I a1) sp dp n)) L R Q) : zE X M k w pc ls (zI xn :: zI xdp :: zR a1 :: zI xsp :: zR a0 :: st) sh I L R Q := by
  subst hn; subst hsp; subst hdp; subst hxn
  intro G p l e Rm s m args below meth c H locs cells slots Qf arr F S hl kend
  have c1 : (Int32.ofInt (sp : Int)).toNatClampNeg = sp := by rw [zn_clamp (by omega) (by omega)]; omega
  have c2 : (Int32.ofInt (dp : Int)).toNatClampNeg = dp := by rw [zn_clamp (by omega) (by omega)]; omega
  have c3 : (Int32.ofInt (n : Int)).toNatClampNeg = n := by rw [zn_clamp (by omega) (by omega)]; omega
  have h5 := F.2.2.2.2.2.2.2.1
  have h6 : ((st.map (zc G)).map fun v => v.category).sum = zwords st := zwords_cat G st
  refine va_copyi F.1 F.2.1 (F.2.2.1.trans hl.1.symm) F.2.2.2.1 (F.2.2.2.2.1 _ h1) (F.2.2.2.2.1 _ h2) (F.2.2.2.2.1 _ h3) (F.2.2.2.2.1 _ h4) F.2.2.2.2.2.1.1 S.1 zw_D S.2.1 a0 a1 0 0 (zw_iI ha0) (zw_iI ha1) (ty := .int) rfl rfl rfl (by rw [zn_lt0 (by omega)]; omega) (by rw [zn_lt0 (by omega)]; omega) (by rw [zn_lt0 (by omega)]; omega) (by rw [c1, c3]; omega) (by rw [c2, c3]; omega) (fun i _ => rfl) (Nat.le_trans hf F.2.2.2.2.2.2.1) (by rw [show nativeFrameWords "java/lang/System" "arraycopy" 5 = 7 from rfl]; omega) hd (fun H1 locs1 hP1 hD1 hS1 => ?_)
  rw [c1, c2, c3] at hP1
  have e5 : (zw G sh I L R).set a1 (G.1 + a1, .inl (G.2.2.2.2.2 0, n1, .inl (va_cpy (fun j => Int32.ofInt (I a0 j)) (fun j => Int32.ofInt (I a1 j)) sp dp n))) = zw G sh (zrow I a1 (zcp (I a0) (I a1) sp dp n)) L R := zw_set ha1 (by
    show _ = zaI G _ a1 n1
    unfold zaI
    congr 3
    congr 1
    funext j
    by_cases hj : dp ≤ j ∧ j < dp + n <;> simp [va_cpy, zcp, zrow, hj]) (fun b u hb => zcell_row u hb)
  rw [e5] at hP1
  exact kk G p l e Rm s m args below meth c H1 locs1 cells slots Qf arr F ⟨hP1, hS1, S.2.2⟩ hl kend
theorem z_copyL (nx : Nat) {idx a0 a1 n0 n1 sp dp n : Nat} {xsp xdp xn : Int} (hd : decode (zmc M) pc = .ok (.invokestatic idx, 3)) (h1 : Jvm.Cond.methodLink (zmo M) idx arraycopyName ∈ zgood) (h2 : Jvm.Cond.native arraycopyName ∈ zgood) (h3 : Jvm.Cond.static arraycopyName ∈ zgood) (h4 : Jvm.Cond.initialized "java/lang/System" ∈ zgood) (ha0 : sh[a0]? = some (21, n0)) (ha1 : sh[a1]? = some (21, n1)) (hsp : xsp = (sp : Int)) (hdp : xdp = (dp : Int)) (hxn : xn = (n : Int)) (hs : sp + n ≤ n0 ∧ dp + n ≤ n1 ∧ n0 ≤ 60000 ∧ n1 ≤ 60000) (hf : 1 ≤ zmf M) (hlw : zwords st + 18 ≤ zmw M) (hn : pc + 3 = nx)
    (kk : zE X M k w nx ls st sh I (zrow L a1 (zcp (L a0) (L a1) sp dp n)) R Q) : zE X M k w pc ls (zI xn :: zI xdp :: zR a1 :: zI xsp :: zR a0 :: st) sh I L R Q := by
  subst hn; subst hsp; subst hdp; subst hxn
  intro G p l e Rm s m args below meth c H locs cells slots Qf arr F S hl kend
  have c1 : (Int32.ofInt (sp : Int)).toNatClampNeg = sp := by rw [zn_clamp (by omega) (by omega)]; omega
  have c2 : (Int32.ofInt (dp : Int)).toNatClampNeg = dp := by rw [zn_clamp (by omega) (by omega)]; omega
  have c3 : (Int32.ofInt (n : Int)).toNatClampNeg = n := by rw [zn_clamp (by omega) (by omega)]; omega
  have h5 := F.2.2.2.2.2.2.2.1
  have h6 : ((st.map (zc G)).map fun v => v.category).sum = zwords st := zwords_cat G st
  refine va_copyl F.1 F.2.1 (F.2.2.1.trans hl.1.symm) F.2.2.2.1 (F.2.2.2.2.1 _ h1) (F.2.2.2.2.1 _ h2) (F.2.2.2.2.1 _ h3) (F.2.2.2.2.1 _ h4) F.2.2.2.2.2.1.1 S.1 zw_D S.2.1 a0 a1 1 1 (zw_iL ha0) (zw_iL ha1) (ty := .long) rfl rfl rfl (by rw [zn_lt0 (by omega)]; omega) (by rw [zn_lt0 (by omega)]; omega) (by rw [zn_lt0 (by omega)]; omega) (by rw [c1, c3]; omega) (by rw [c2, c3]; omega) (fun i _ => rfl) (Nat.le_trans hf F.2.2.2.2.2.2.1) (by rw [show nativeFrameWords "java/lang/System" "arraycopy" 5 = 7 from rfl]; omega) hd (fun H1 locs1 hP1 hD1 hS1 => ?_)
  rw [c1, c2, c3] at hP1
  have e5 : (zw G sh I L R).set a1 (G.1 + a1, .inl (G.2.2.2.2.2 1, n1, .inr (.inl (va_cpy (fun j => Int64.ofInt (L a0 j)) (fun j => Int64.ofInt (L a1 j)) sp dp n)))) = zw G sh I (zrow L a1 (zcp (L a0) (L a1) sp dp n)) R := zw_set ha1 (by
    show _ = zaL G _ a1 n1
    unfold zaL
    congr 4
    congr 1
    funext j
    by_cases hj : dp ≤ j ∧ j < dp + n <;> simp [va_cpy, zcp, zrow, hj]) (fun b u hb => zcell_rowL u hb)
  rw [e5] at hP1
  exact kk G p l e Rm s m args below meth c H1 locs1 cells slots Qf arr F ⟨hP1, hS1, S.2.2⟩ hl kend
end ZNEW
/-! ===== calls ===== -/
/-- what is needed of a method to be called at all -/
def zMok (M : zM) : Prop := Jvm.Cond.code (zmy M) (zmc M) (zml M) (zmr M) ∈ zgood ∧ Jvm.Cond.initialized (zmo M) ∈ zgood ∧ zmo M = (zmy M).cls ∧ plainName (zmy M).cls = true ∧ ((zmy M).cls ≠ "java/lang/invoke/MethodHandle" ∧ (zmy M).cls ≠ "java/lang/invoke/VarHandle")
/-- room for M' below M, and how many parameters M' has -/
def zMin (M M' : zM) (n : Nat) : Prop := (zmf M' + 1 ≤ zmf M ∧ 8 + (zml M' + 11) + zmw M' ≤ zmw M) ∧ (parseMethodDescriptor (zmy M').desc).map (fun d => d.parameters.length) = some n
def zVL (M : zM) (idx : Nat) (M' : zM) (n : Nat) : Prop := zMok M' ∧ zMin M M' n ∧ Jvm.Cond.methodLink (zmo M) idx (zmy M') ∈ zgood ∧ Jvm.Cond.instanceMethod (zmy M') ∈ zgood ∧ Jvm.Cond.selects (zmo M') (zmy M') (zmy M') ∈ zgood
def zSL (M : zM) (idx : Nat) (M' : zM) (n : Nat) : Prop := zMok M' ∧ zMin M M' n ∧ Jvm.Cond.methodLink (zmo M) idx (zmy M') ∈ zgood ∧ Jvm.Cond.static (zmy M') ∈ zgood
def zSN (M : zM) (idx : Nat) (M' : zM) (n : Nat) : Prop := zMok M' ∧ zMin M M' n ∧ (∃ h, (zmo M, idx, zmy M', h) ∈ znest) ∧ Jvm.Cond.static (zmy M') ∈ zgood
def zIL (M : zM) (idx : Nat) (M' : zM) (n : Nat) : Prop := zMok M' ∧ zMin M M' n ∧ Jvm.Cond.methodLink (zmo M) idx (zmy M') ∈ zgood ∧ Jvm.Cond.instanceMethod (zmy M') ∈ zgood ∧ (zmy M').name = "<init>" ∧ zmr M' = none
def zIN (M : zM) (idx : Nat) (M' : zM) (n : Nat) : Prop := zMok M' ∧ zMin M M' n ∧ (∃ h, (zmo M, idx, zmy M', h) ∈ znest) ∧ Jvm.Cond.instanceMethod (zmy M') ∈ zgood ∧ (zmy M').name = "<init>" ∧ zmr M' = none
def zws (M : zM) : List Jvm.Cond := Jvm.Cond.code (zmy M) (zmc M) (zml M) (zmr M) :: zgood
def zrm (M : zM) (k w : Nat) : Room := { frames := zmf M, cells := k, slots := w, locals := zmw M }
/-- a callee's start -/
def zPc (X : zXs) (G : zG) (av : List zV) (sh : zH) (I L : zI2) (R : zR2) : Array Value → State → Prop := fun v U => v = (av.map (zc G)).toArray ∧ zCx G U ∧ va_P G.2.2.2.2.1 vwCl (zw G sh I L R) U.heap ∧ U.heap.size = G.1 + sh.length ∧ va_X G.2.1 G.2.2.1 G.2.2.2.1 U U.heap ∧ G.2.1 < G.1 ∧ G.2.2.1 = X.1 ∧ ∀ j : Nat, j < X.1 → G.2.2.2.1 j = Int32.ofInt (X.2 j)
/-- .. and its end -/
def zQc (G : zG) (mc : Nat) (Q : zQ) : Array Value → State → Outcome → State → Prop := fun _ st oc t => ∃ (r : List zV) (sh' : zH) (I' L' : zI2) (R' : zR2), Q r sh' I' L' R' ∧ (r = [] ∧ oc = .returned none ∨ ∃ v, r = [v] ∧ oc = .returned (some (zc G v))) ∧ va_P G.2.2.2.2.1 vwCl (zw G sh' I' L' R') t.heap ∧ st.heap.size + mc = G.1 + sh'.length ∧ va_F (fun q => G.1 ≤ q) st t
theorem z_met {X : zXs} {M : zM} {k w : Nat} {av ls : List zV} {sh : zH} {I L : zI2} {R : zR2} {Q : zQ} (hM : zMok M) (hent : zent (zml M) av = ls) (hwd : zwords av ≤ zml M) (hE : zE X M k w 0 ls [] sh I L R Q) (G : zG) (l : Launch) :
    Met l (zmy M) (zws M) (zrm M k w) (zPc X G av sh I L R) (zQc G k Q) k w (fun q => G.1 ≤ q) := by
  subst hent
  refine Met.ofW (cc := zmc M) (maxL := zml M) (ret := zmr M) hM.2.2.2.1 rfl ?_
  intro p e s m args below meth c s₁ B hml hv
  obtain ⟨rfl, hC, hP, hsz, hX, hb, hx1, hx2⟩ := hv
  have hts := atoms_spec (ws := zws M) B.pre
  have hown : s.vm.findClass (zmo M) = some m.cls := by rw [hM.2.2.1]; exact findClass_of_methodNamed B.named
  have hlocks := B.notSynchronized
  have hr := B.returns
  rw [lg_entry_eq]
  have hl0 := lv_entry (av.map (zc G)) (n := zml M) (by rw [zwords_sl]; exact hwd)
  have hl1 := lv_mono hl0 (zent_in G av (zml M))
  refine hE G p l e (zrm M k w) s m _ below meth c s.heap [] 0 0 _ _ ⟨B.exec, B.bytes, hml, hown, fun w hw => hts w (List.mem_cons_of_mem _ hw), hC, Nat.le_refl _, Nat.le_refl _, (name_of_methodNamed B.named B.method).1, by omega, hX, hb, hx1, hx2⟩ ⟨hP, va_S.rf, by omega, Nat.zero_add _, by show 0 + w ≤ w; omega⟩ hl1 ?_
  intro r sh' I' L' R' H' locs' cells' slots' w' pc' arr' hq hrt S
  have hcells : cells' = k := S.2.2.2.1
  have hslots : slots' + w' ≤ w := S.2.2.2.2
  subst hcells
  have hpost : ∀ (oc : Outcome), (r = [] ∧ oc = .returned none ∨ ∃ v, r = [v] ∧ oc = .returned (some (zc G v))) → ∀ t : State, t.heap = H' → s.WarmedH t.vm → zQc G cells' Q (av.map (zc G)).toArray s oc t := fun oc ho t ht _ => ⟨r, sh', I', L', R', hq, ho, by rw [ht]; exact S.1, S.2.2.1, S.2.1.F ht⟩
  refine W.widen (k := cells') (n := w) (Nat.le_refl _) (by omega) ?_
  rcases hrt with ⟨x, ty, rfl, h1, h2, h3⟩ | ⟨x, rfl, h1, h3⟩ | ⟨rfl, h1, h3⟩
  · exact W.zret B.exec B.bytes (hr.trans h1) h2 (hpost _ (Or.inr ⟨_, rfl, rfl⟩)) S.2.1.2.2 h3
  · exact W.lret B.exec B.bytes (hr.trans h1) (hpost _ (Or.inr ⟨_, rfl, rfl⟩)) S.2.1.2.2 h3
  · exact W.vret B.exec B.bytes (hr.trans h1) (hpost _ (Or.inl ⟨rfl, rfl⟩)) S.2.1.2.2 h3
theorem zPc_blind {X : zXs} {G : zG} {av : List zV} {sh : zH} {I L : zI2} {R : zR2} : FrameBlind (zPc X G av sh I L R) := fun a U g mk h => ⟨h.1, h.2.1.call g mk a, h.2.2.1, h.2.2.2.1, va_X.moved (u := U) (U := U.calling g mk a) (Vm.Alike.refl U.vm) h.2.2.2.2.1, h.2.2.2.2.2⟩
end
section
section ZCALL
variable {X : zXs} {M M' : zM} {k w k' w' pc : Nat} {ls st : List zV} {sh : zH} {I L : zI2} {R : zR2} {Q Q' : zQ}
theorem z_cont {nx : Nat} {G : zG} {p : Program} {l : Launch} {e : Env} {Rm : Room} {s : State} {m : MethodId} {args : Array Value} {below : List Frame} {meth : Method} {c : Code} {H : Heap} {locs : List Loc} {cells slots : Nat} {Qf : State → Prop} {arr : Array Slot} {st0 : List Value} {rest : List zV} {a : Array Value}
    (F : zFr X M G p Rm s m args meth c) (S : zSt G Rm s H locs cells slots (k + k') (w + w') sh I L R) (hl : lv_has arr (zml M) (zlp G 0 ls)) (hsz : H.size = G.1 + sh.length) (hn : pc + 3 = nx)
    (hr : va_Run p l e Rm s m args below meth c H locs cells slots k' w' (F0 m pc arr st0) (rest.map (zc G)) (zQc G k' Q' a) (fun q => G.1 ≤ q))
    (kk : ∀ (r : List zV) (sh' : zH) (I' L' : zI2) (R' : zR2), Q' r sh' I' L' R' → zE X M k w nx ls (r ++ rest) sh' I' L' R' Q)
    (kend : ∀ (r : List zV) (sh' : zH) (I' L' : zI2) (R' : zR2) (H' : Heap) (locs' : List Loc) (cells' slots' w' pc' : Nat) (arr' : Array Slot), Q r sh' I' L' R' → zRt M pc' r → zSt G Rm s H' locs' cells' slots' 0 w' sh' I' L' R' → W p l e Rm s m args below meth c H' locs' cells' slots' Qf (F0 m pc' arr' (r.map (zc G)))) :
    W p l e Rm s m args below meth c H locs cells slots Qf (F0 m pc arr st0) := by
  subst hn
  intro T hT Xs
  obtain ⟨v, st₀, t, T', Lc, h0, X', hL, e1, e2, ⟨r, sh', I', L', R', hq, ho, hP, hz, hF⟩, st5⟩ := hr T hT Xs
  have h9 := S.2.2
  rw [h0] at hz
  have hF1 := hF.1
  have hF2 := hF.2
  rw [h0] at hF1 hF2
  have S' : zSt G Rm s T'.heap (locs ++ Lc) (cells + k') (slots + w') k w sh' I' L' R' := by
    refine ⟨by rw [e1]; exact hP, ⟨Nat.le_trans S.2.1.1 (by rw [e1]; exact hF1), fun q g1 g2 => ?_, fun q hq2 => ?_⟩, by omega, by omega, by omega⟩
    · rw [e1, hF2 q (Nat.lt_of_lt_of_le g1 S.2.1.1) g2]
      exact S.2.1.2.1 q g1 g2
    · rcases List.mem_append.mp hq2 with h | h
      · exact S.2.1.2.2 q h
      · exact hL q h
  have K := kk r sh' I' L' R' hq G p l e Rm s m args below meth c T'.heap (locs ++ Lc) (cells + k') (slots + w') Qf arr F S' hl kend
  have hv : v.toList ++ rest.map (zc G) = (r ++ rest).map (zc G) := by
    rcases ho with ⟨rfl, ho⟩ | ⟨x, rfl, ho⟩
    · cases ho
      rfl
    · cases ho
      rfl
  obtain ⟨t2, a1, b1⟩ := K T' rfl X'
  rw [← hv] at a1
  exact ⟨t2, st5 t2 a1, b1⟩
theorem z_PcAt {G : zG} {p : Program} {Rm : Room} {s : State} {m : MethodId} {args : Array Value} {meth : Method} {c : Code} {H : Heap} {locs : List Loc} {cells slots : Nat} {av : List zV} (F : zFr X M G p Rm s m args meth c) (S : zSt G Rm s H locs cells slots k w sh I L R) (hsz : H.size = G.1 + sh.length) :
    ∀ U : State, U.heap = H → s.WarmedH U.vm → zPc X G av sh I L R (av.map (zc G)).toArray U := by
  intro U hU hW
  obtain ⟨_, _, _, _, _, hC, _, _, _, hz, hX, hb, hx1, hx2⟩ := F
  refine ⟨rfl, hC.warm hW, by rw [hU]; exact S.1, by rw [hU]; exact hsz, ?_, hb, hx1, hx2⟩
  rw [hU]
  exact (va_X.moved hW.alike hX).kept (S.2.1.2.1 _ (by omega) (by omega))
theorem z_cwB {G : zG} {p : Program} {Rm : Room} {s : State} {m : MethodId} {args : Array Value} {meth : Method} {c : Code} {idx n : Nat} (F : zFr X M G p Rm s m args meth c) (hM : zMok M') (hR : zMin M M' n) (hlk : Jvm.Cond.methodLink (zmo M) idx (zmy M') ∈ zgood) : CallB Rm s args (zmo M) idx (zmy M') (zmc M') (zml M') (zmr M') (zws M') (zrm M' k' w') k' w' n := by
  have h1 := F.2.2.2.2.2.2.1
  have h2 := F.2.2.2.2.2.2.2.1
  refine callB_of (ws' := zgood) n F.2.2.2.2.1 (fun w hw => ?_) rfl rfl rfl (by rw [← hM.2.2.1]; exact F.2.2.2.2.1 _ hM.2.1) (F.2.2.2.2.1 _ hlk) ⟨hM.2.2.2.2.1, hM.2.2.2.2.2, hR.2⟩ ⟨Nat.le_trans hR.1.1 h1, Nat.le_trans hR.1.2 h2⟩
  have hw2 : w ∈ zgood := by
    rcases List.mem_cons.mp hw with h | h
    · rw [h]; exact hM.1
    · exact h
  exact zgood_GI (fun w h => h) w hw2
theorem z_cnB {G : zG} {p : Program} {Rm : Room} {s : State} {m : MethodId} {args : Array Value} {meth : Method} {c : Code} {idx n : Nat} {host : String} (F : zFr X M G p Rm s m args meth c) (hM : zMok M') (hR : zMin M M' n) (hlk : (zmo M, idx, zmy M', host) ∈ znest) : va_CN Rm s args (zmo M) idx (zmy M') host (zmc M') (zml M') (zmr M') (zws M') (zrm M' k' w') k' w' n := by
  have h1 := F.2.2.2.2.2.2.1
  have h2 := F.2.2.2.2.2.2.2.1
  refine va_cnB (ws' := zgood) n F.2.2.2.2.1 (fun w hw => ?_) rfl rfl rfl (F.2.2.2.2.2.1.2.1 _ hlk) (by rw [← hM.2.2.1]; exact F.2.2.2.2.1 _ hM.2.1) ⟨hM.2.2.2.2.1, hM.2.2.2.2.2, hR.2⟩ ⟨Nat.le_trans hR.1.1 h1, Nat.le_trans hR.1.2 h2⟩
  have hw2 : w ∈ zgood := by
    rcases List.mem_cons.mp hw with h | h
    · rw [h]; exact hM.1
    · exact h
  exact zgood_GI (fun w h => h) w hw2
theorem z_invV (nx : Nat) {idx ci n nf o : Nat} {as rest ls' : List zV} (hd : decode (zmc M) pc = .ok (.invokevirtual idx, 3)) (hL : zVL M idx M' n) (hcal : zE X M' k' w' 0 ls' [] sh I L R Q') (hent : zent (zml M') (zR o :: as) = ls') (hwd : zwords (zR o :: as) ≤ zml M') (hst : st = as.reverse ++ zR o :: rest) (hlen : as.length = n) (hrest : zwords rest ≤ 8) (ho : sh[o]? = some (ci, nf)) (hci : (vwCl[ci]?).map (·.1) = some (zmo M')) (hn : pc + 3 = nx)
    (kk : ∀ (r : List zV) (sh' : zH) (I' L' : zI2) (R' : zR2), Q' r sh' I' L' R' → zE X M k w nx ls (r ++ rest) sh' I' L' R' Q) : zE X M (k + k') (w + w') pc ls st sh I L R Q := by
  intro G p l e Rm s m args below meth c H locs cells slots Qf arr F S hl kend
  have hz := F.2.2.2.2.2.2.2.2.2.1
  refine zW_size (S.lt hz) S.2.2.1 (fun hsz => ?_)
  obtain ⟨q, hq, hq1⟩ := Option.map_eq_some_iff.mp hci
  have hMet := z_met hL.1 hent hwd hcal G l
  have hrun := va_runV (e := e) (below := below) (meth := meth) (H := H) (g := F0 m pc arr (st.map (zc G))) (As := as.map (zc G)) (rest := rest.map (zc G)) (C := zmo M') (locs := locs) (cells := cells) (slots := slots) ⟨F.1, F.2.1, F.2.2.1, F.2.2.2.1, F.2.2.2.2.1⟩ hMet ⟨z_cwB F hL.1 hL.2.1 hL.2.2.1, F.2.2.2.2.1 _ hL.2.2.2.1, F.2.2.2.2.1 _ hL.2.2.2.2⟩
    ⟨zPc_blind, (by rw [← hq1]; exact va_recv F.2.2.2.2.2.1.1 S.1 hq (zw_io (zcl_lt ci _ hq) ho)), z_PcAt (av := zR o :: as) F S hsz⟩ rfl (by rw [List.length_map]; exact hlen) hl.1 (by rw [hst]; simp [zc_R]) (by
      have h6 : ((rest.map (zc G)).map fun v => v.category).sum = zwords rest := zwords_cat G rest
      show 2 * 0 + _ ≤ 8
      omega) hd (by have := S.2.2.2; omega)
  exact z_cont F S hl hsz hn hrun kk kend
theorem z_invS (nx : Nat) {idx n : Nat} {as rest ls' : List zV} (hd : decode (zmc M) pc = .ok (.invokestatic idx, 3)) (hL : zSL M idx M' n) (hcal : zE X M' k' w' 0 ls' [] sh I L R Q') (hent : zent (zml M') as = ls') (hwd : zwords as ≤ zml M') (hst : st = as.reverse ++ rest) (hlen : as.length = n) (hrest : zwords rest ≤ 8) (hn : pc + 3 = nx)
    (kk : ∀ (r : List zV) (sh' : zH) (I' L' : zI2) (R' : zR2), Q' r sh' I' L' R' → zE X M k w nx ls (r ++ rest) sh' I' L' R' Q) : zE X M (k + k') (w + w') pc ls st sh I L R Q := by
  intro G p l e Rm s m args below meth c H locs cells slots Qf arr F S hl kend
  have hz := F.2.2.2.2.2.2.2.2.2.1
  refine zW_size (S.lt hz) S.2.2.1 (fun hsz => ?_)
  have hMet := z_met hL.1 hent hwd hcal G l
  have hrun := va_runS (e := e) (below := below) (meth := meth) (H := H) (g := F0 m pc arr (st.map (zc G))) (As := as.map (zc G)) (rest := rest.map (zc G)) (locs := locs) (cells := cells) (slots := slots) ⟨F.1, F.2.1, F.2.2.1, F.2.2.2.1, F.2.2.2.2.1⟩ hMet ⟨z_cwB F hL.1 hL.2.1 hL.2.2.1, F.2.2.2.2.1 _ hL.2.2.2⟩
    ⟨zPc_blind, z_PcAt (av := as) F S hsz⟩ rfl (by rw [List.length_map]; exact hlen) hl.1 (by rw [hst]; simp) (by
      have h6 : ((rest.map (zc G)).map fun v => v.category).sum = zwords rest := zwords_cat G rest
      show 2 * 0 + _ ≤ 8
      omega) hd (by have := S.2.2.2; omega)
  exact z_cont F S hl hsz hn hrun kk kend
theorem z_invSN (nx : Nat) {idx n : Nat} {as rest ls' : List zV} (hd : decode (zmc M) pc = .ok (.invokestatic idx, 3)) (hL : zSN M idx M' n) (hcal : zE X M' k' w' 0 ls' [] sh I L R Q') (hent : zent (zml M') as = ls') (hwd : zwords as ≤ zml M') (hst : st = as.reverse ++ rest) (hlen : as.length = n) (hrest : zwords rest ≤ 8) (hn : pc + 3 = nx)
    (kk : ∀ (r : List zV) (sh' : zH) (I' L' : zI2) (R' : zR2), Q' r sh' I' L' R' → zE X M k w nx ls (r ++ rest) sh' I' L' R' Q) : zE X M (k + k') (w + w') pc ls st sh I L R Q := by
  intro G p l e Rm s m args below meth c H locs cells slots Qf arr F S hl kend
  have hz := F.2.2.2.2.2.2.2.2.2.1
  refine zW_size (S.lt hz) S.2.2.1 (fun hsz => ?_)
  have hMet := z_met hL.1 hent hwd hcal G l
  obtain ⟨host, hnest⟩ := hL.2.2.1
  have hrun := va_runSN (e := e) (below := below) (meth := meth) (H := H) (g := F0 m pc arr (st.map (zc G))) (As := as.map (zc G)) (rest := rest.map (zc G)) (locs := locs) (cells := cells) (slots := slots) ⟨F.1, F.2.1, F.2.2.1, F.2.2.2.1, F.2.2.2.2.1⟩ hMet ⟨z_cnB F hL.1 hL.2.1 hnest, F.2.2.2.2.1 _ hL.2.2.2, trivial⟩
    ⟨zPc_blind, z_PcAt (av := as) F S hsz⟩ rfl (by rw [List.length_map]; exact hlen) hl.1 (by rw [hst]; simp) (by
      have h6 : ((rest.map (zc G)).map fun v => v.category).sum = zwords rest := zwords_cat G rest
      show 2 * 0 + _ ≤ 8
      omega) hd (by have := S.2.2.2; omega)
  exact z_cont F S hl hsz hn hrun kk kend
theorem z_invI (nx : Nat) {idx n o : Nat} {as rest ls' : List zV} (hd : decode (zmc M) pc = .ok (.invokespecial idx, 3)) (hL : zIL M idx M' n) (hcal : zE X M' k' w' 0 ls' [] sh I L R Q') (hent : zent (zml M') (zR o :: as) = ls') (hwd : zwords (zR o :: as) ≤ zml M') (hst : st = as.reverse ++ zR o :: rest) (hlen : as.length = n) (hrest : zwords rest ≤ 8) (hn : pc + 3 = nx)
    (kk : ∀ (r : List zV) (sh' : zH) (I' L' : zI2) (R' : zR2), Q' r sh' I' L' R' → zE X M k w nx ls (r ++ rest) sh' I' L' R' Q) : zE X M (k + k') (w + w') pc ls st sh I L R Q := by
  intro G p l e Rm s m args below meth c H locs cells slots Qf arr F S hl kend
  have hz := F.2.2.2.2.2.2.2.2.2.1
  refine zW_size (S.lt hz) S.2.2.1 (fun hsz => ?_)
  have hMet := z_met hL.1 hent hwd hcal G l
  have hcb := z_cwB (k' := k') (w' := w') F hL.1 hL.2.1 hL.2.2.1
  rw [hL.2.2.2.2.2] at hcb
  have hrun := va_runI (e := e) (below := below) (meth := meth) (H := H) (g := F0 m pc arr (st.map (zc G))) (b := G.1 + o) (As := as.map (zc G)) (rest := rest.map (zc G)) (locs := locs) (cells := cells) (slots := slots) ⟨F.1, F.2.1, F.2.2.1, F.2.2.2.1, F.2.2.2.2.1⟩ hMet ⟨hcb, hL.2.2.2.2.1, F.2.2.2.2.1 _ hL.2.2.2.1⟩
    ⟨zPc_blind, z_PcAt (av := zR o :: as) F S hsz⟩ rfl (by rw [List.length_map]; exact hlen) hl.1 (by rw [hst]; simp [zc_R]) (by
      have h6 : ((rest.map (zc G)).map fun v => v.category).sum = zwords rest := zwords_cat G rest
      show 2 * 0 + _ ≤ 8
      omega) hd (by have := S.2.2.2; omega)
  exact z_cont F S hl hsz hn hrun kk kend
theorem z_invIN (nx : Nat) {idx n o : Nat} {as rest ls' : List zV} (hd : decode (zmc M) pc = .ok (.invokespecial idx, 3)) (hL : zIN M idx M' n) (hcal : zE X M' k' w' 0 ls' [] sh I L R Q') (hent : zent (zml M') (zR o :: as) = ls') (hwd : zwords (zR o :: as) ≤ zml M') (hst : st = as.reverse ++ zR o :: rest) (hlen : as.length = n) (hrest : zwords rest ≤ 8) (hn : pc + 3 = nx)
    (kk : ∀ (r : List zV) (sh' : zH) (I' L' : zI2) (R' : zR2), Q' r sh' I' L' R' → zE X M k w nx ls (r ++ rest) sh' I' L' R' Q) : zE X M (k + k') (w + w') pc ls st sh I L R Q := by
  intro G p l e Rm s m args below meth c H locs cells slots Qf arr F S hl kend
  have hz := F.2.2.2.2.2.2.2.2.2.1
  refine zW_size (S.lt hz) S.2.2.1 (fun hsz => ?_)
  have hMet := z_met hL.1 hent hwd hcal G l
  obtain ⟨host, hnest⟩ := hL.2.2.1
  have hcb := z_cnB (k' := k') (w' := w') F hL.1 hL.2.1 hnest
  rw [hL.2.2.2.2.2] at hcb
  have hrun := va_runIN (e := e) (below := below) (meth := meth) (H := H) (g := F0 m pc arr (st.map (zc G))) (b := G.1 + o) (As := as.map (zc G)) (rest := rest.map (zc G)) (locs := locs) (cells := cells) (slots := slots) ⟨F.1, F.2.1, F.2.2.1, F.2.2.2.1, F.2.2.2.2.1⟩ hMet ⟨hcb, hL.2.2.2.2.1, F.2.2.2.2.1 _ hL.2.2.2.1⟩
    ⟨zPc_blind, z_PcAt (av := zR o :: as) F S hsz⟩ rfl (by rw [List.length_map]; exact hlen) hl.1 (by rw [hst]; simp [zc_R]) (by
      have h6 : ((rest.map (zc G)).map fun v => v.category).sum = zwords rest := zwords_cat G rest
      show 2 * 0 + _ ≤ 8
      omega) hd (by have := S.2.2.2; omega)
  exact z_cont F S hl hsz hn hrun kk kend
end ZCALL
end
