section
-- ===== PART A: goes FIRST, ahead of the names: the tables' words, and 'selects' of the private methods out of them =====
/-- a private method of a class that the tables say can be made, by its rows of tables_1 -/
def lw_okq (q : MethodName × Nat) : Prop := (q.1.cls ≠ "java/lang/invoke/MethodHandle" ∧ q.1.cls ≠ "java/lang/invoke/VarHandle") ∧ Cond.instantiable q.1.cls q.2 ∈ tables_1 ∧ Cond.privateMethod q.1 ∈ tables_1 ∧ Cond.instanceMethod q.1 ∈ tables_1
theorem lw_p0 : lw_okq (⟨"SquareGears$SavedGears", "push", "(LSquareGears$Gears;)V"⟩, 3) := ⟨⟨by decide +kernel, by decide +kernel⟩, List.mem_of_getElem? (i := 52) (by decide +kernel), List.mem_of_getElem? (i := 110) (by decide +kernel), List.mem_of_getElem? (i := 111) (by decide +kernel)⟩
theorem lw_p1 : lw_okq (⟨"SquareGears$Gears", "takeFrom", "(LSquareGears$Gears;)V"⟩, 4) := ⟨⟨by decide +kernel, by decide +kernel⟩, List.mem_of_getElem? (i := 25) (by decide +kernel), List.mem_of_getElem? (i := 114) (by decide +kernel), List.mem_of_getElem? (i := 115) (by decide +kernel)⟩
theorem lw_p2 : lw_okq (⟨"SquareGears$Gears", "traceAt", "(I)I"⟩, 4) := ⟨⟨by decide +kernel, by decide +kernel⟩, List.mem_of_getElem? (i := 25) (by decide +kernel), List.mem_of_getElem? (i := 124) (by decide +kernel), List.mem_of_getElem? (i := 125) (by decide +kernel)⟩
theorem lw_p3 : lw_okq (⟨"SquareGears$Gears", "drawnAmplitude", "(I)I"⟩, 4) := ⟨⟨by decide +kernel, by decide +kernel⟩, List.mem_of_getElem? (i := 25) (by decide +kernel), List.mem_of_getElem? (i := 128) (by decide +kernel), List.mem_of_getElem? (i := 129) (by decide +kernel)⟩
theorem lw_p4 : lw_okq (⟨"SquareGears$Gears", "isLost", "(I)Z"⟩, 4) := ⟨⟨by decide +kernel, by decide +kernel⟩, List.mem_of_getElem? (i := 25) (by decide +kernel), List.mem_of_getElem? (i := 132) (by decide +kernel), List.mem_of_getElem? (i := 133) (by decide +kernel)⟩
theorem lw_p5 : lw_okq (⟨"SquareGears$Gears", "patternAmplitude", "(I)I"⟩, 4) := ⟨⟨by decide +kernel, by decide +kernel⟩, List.mem_of_getElem? (i := 25) (by decide +kernel), List.mem_of_getElem? (i := 149) (by decide +kernel), List.mem_of_getElem? (i := 150) (by decide +kernel)⟩
theorem lw_p6 : lw_okq (⟨"SquareGears$WheelText", "empty", "()V"⟩, 2) := ⟨⟨by decide +kernel, by decide +kernel⟩, List.mem_of_getElem? (i := 71) (by decide +kernel), List.mem_of_getElem? (i := 164) (by decide +kernel), List.mem_of_getElem? (i := 165) (by decide +kernel)⟩
theorem lw_p7 : lw_okq (⟨"SquareGears$WheelText", "errorPlace", "()I"⟩, 2) := ⟨⟨by decide +kernel, by decide +kernel⟩, List.mem_of_getElem? (i := 71) (by decide +kernel), List.mem_of_getElem? (i := 172) (by decide +kernel), List.mem_of_getElem? (i := 173) (by decide +kernel)⟩
theorem lw_p8 : lw_okq (⟨"SquareGears$Gears", "differenceAt", "(I)I"⟩, 4) := ⟨⟨by decide +kernel, by decide +kernel⟩, List.mem_of_getElem? (i := 25) (by decide +kernel), List.mem_of_getElem? (i := 195) (by decide +kernel), List.mem_of_getElem? (i := 196) (by decide +kernel)⟩
theorem lw_p9 : lw_okq (⟨"SquareGears", "isDifference", "(II)Z"⟩, 6) := ⟨⟨by decide +kernel, by decide +kernel⟩, List.mem_of_getElem? (i := 17) (by decide +kernel), List.mem_of_getElem? (i := 200) (by decide +kernel), List.mem_of_getElem? (i := 201) (by decide +kernel)⟩
theorem lw_p10 : lw_okq (⟨"SquareGears", "differencesIfTurned", "(I)I"⟩, 6) := ⟨⟨by decide +kernel, by decide +kernel⟩, List.mem_of_getElem? (i := 17) (by decide +kernel), List.mem_of_getElem? (i := 209) (by decide +kernel), List.mem_of_getElem? (i := 210) (by decide +kernel)⟩
theorem lw_p11 : lw_okq (⟨"SquareGears", "countNumber", "(I)I"⟩, 6) := ⟨⟨by decide +kernel, by decide +kernel⟩, List.mem_of_getElem? (i := 17) (by decide +kernel), List.mem_of_getElem? (i := 226) (by decide +kernel), List.mem_of_getElem? (i := 227) (by decide +kernel)⟩
theorem lw_p12 : lw_okq (⟨"SquareGears$Gears", "drawingWheels", "()I"⟩, 4) := ⟨⟨by decide +kernel, by decide +kernel⟩, List.mem_of_getElem? (i := 25) (by decide +kernel), List.mem_of_getElem? (i := 230) (by decide +kernel), List.mem_of_getElem? (i := 231) (by decide +kernel)⟩
theorem lw_p13 : lw_okq (⟨"SquareGears", "greatestTrace", "()I"⟩, 6) := ⟨⟨by decide +kernel, by decide +kernel⟩, List.mem_of_getElem? (i := 17) (by decide +kernel), List.mem_of_getElem? (i := 234) (by decide +kernel), List.mem_of_getElem? (i := 235) (by decide +kernel)⟩
theorem lw_p14 : lw_okq (⟨"SquareGears", "leastTrace", "()I"⟩, 6) := ⟨⟨by decide +kernel, by decide +kernel⟩, List.mem_of_getElem? (i := 17) (by decide +kernel), List.mem_of_getElem? (i := 238) (by decide +kernel), List.mem_of_getElem? (i := 239) (by decide +kernel)⟩
theorem lw_p15 : lw_okq (⟨"SquareGears", "greatestDifference", "()I"⟩, 6) := ⟨⟨by decide +kernel, by decide +kernel⟩, List.mem_of_getElem? (i := 17) (by decide +kernel), List.mem_of_getElem? (i := 242) (by decide +kernel), List.mem_of_getElem? (i := 243) (by decide +kernel)⟩
def lw_privs_1 : List (MethodName × Nat) := [(⟨"SquareGears$SavedGears", "push", "(LSquareGears$Gears;)V"⟩, 3), (⟨"SquareGears$Gears", "takeFrom", "(LSquareGears$Gears;)V"⟩, 4), (⟨"SquareGears$Gears", "traceAt", "(I)I"⟩, 4), (⟨"SquareGears$Gears", "drawnAmplitude", "(I)I"⟩, 4), (⟨"SquareGears$Gears", "isLost", "(I)Z"⟩, 4), (⟨"SquareGears$Gears", "patternAmplitude", "(I)I"⟩, 4), (⟨"SquareGears$WheelText", "empty", "()V"⟩, 2), (⟨"SquareGears$WheelText", "errorPlace", "()I"⟩, 2), (⟨"SquareGears$Gears", "differenceAt", "(I)I"⟩, 4), (⟨"SquareGears", "isDifference", "(II)Z"⟩, 6), (⟨"SquareGears", "differencesIfTurned", "(I)I"⟩, 6), (⟨"SquareGears", "countNumber", "(I)I"⟩, 6), (⟨"SquareGears$Gears", "drawingWheels", "()I"⟩, 4), (⟨"SquareGears", "greatestTrace", "()I"⟩, 6), (⟨"SquareGears", "leastTrace", "()I"⟩, 6), (⟨"SquareGears", "greatestDifference", "()I"⟩, 6)]
theorem lw_r1 : ∀ q ∈ lw_privs_1, lw_okq q := List.forall_mem_cons.mpr ⟨lw_p0, List.forall_mem_cons.mpr ⟨lw_p1, List.forall_mem_cons.mpr ⟨lw_p2, List.forall_mem_cons.mpr ⟨lw_p3, List.forall_mem_cons.mpr ⟨lw_p4, List.forall_mem_cons.mpr ⟨lw_p5, List.forall_mem_cons.mpr ⟨lw_p6, List.forall_mem_cons.mpr ⟨lw_p7, List.forall_mem_cons.mpr ⟨lw_p8, List.forall_mem_cons.mpr ⟨lw_p9, List.forall_mem_cons.mpr ⟨lw_p10, List.forall_mem_cons.mpr ⟨lw_p11, List.forall_mem_cons.mpr ⟨lw_p12, List.forall_mem_cons.mpr ⟨lw_p13, List.forall_mem_cons.mpr ⟨lw_p14, List.forall_mem_cons.mpr ⟨lw_p15, fun _ h => absurd h List.not_mem_nil⟩⟩⟩⟩⟩⟩⟩⟩⟩⟩⟩⟩⟩⟩⟩⟩
theorem lw_p16 : lw_okq (⟨"SquareGears", "greatestJump", "()I"⟩, 6) := ⟨⟨by decide +kernel, by decide +kernel⟩, List.mem_of_getElem? (i := 17) (by decide +kernel), List.mem_of_getElem? (i := 246) (by decide +kernel), List.mem_of_getElem? (i := 247) (by decide +kernel)⟩
theorem lw_p17 : lw_okq (⟨"SquareGears$Gears", "jumpAt", "(I)I"⟩, 4) := ⟨⟨by decide +kernel, by decide +kernel⟩, List.mem_of_getElem? (i := 25) (by decide +kernel), List.mem_of_getElem? (i := 250) (by decide +kernel), List.mem_of_getElem? (i := 251) (by decide +kernel)⟩
theorem lw_p18 : lw_okq (⟨"SquareGears", "overshoot", "()I"⟩, 6) := ⟨⟨by decide +kernel, by decide +kernel⟩, List.mem_of_getElem? (i := 17) (by decide +kernel), List.mem_of_getElem? (i := 254) (by decide +kernel), List.mem_of_getElem? (i := 255) (by decide +kernel)⟩
theorem lw_p19 : lw_okq (⟨"SquareGears", "hashedWheels", "(J)J"⟩, 6) := ⟨⟨by decide +kernel, by decide +kernel⟩, List.mem_of_getElem? (i := 17) (by decide +kernel), List.mem_of_getElem? (i := 262) (by decide +kernel), List.mem_of_getElem? (i := 263) (by decide +kernel)⟩
theorem lw_p20 : lw_okq (⟨"SquareGears", "wheelNumber", "(II)I"⟩, 6) := ⟨⟨by decide +kernel, by decide +kernel⟩, List.mem_of_getElem? (i := 17) (by decide +kernel), List.mem_of_getElem? (i := 266) (by decide +kernel), List.mem_of_getElem? (i := 267) (by decide +kernel)⟩
theorem lw_p21 : lw_okq (⟨"SquareGears", "hashedPoints", "(J)J"⟩, 6) := ⟨⟨by decide +kernel, by decide +kernel⟩, List.mem_of_getElem? (i := 17) (by decide +kernel), List.mem_of_getElem? (i := 274) (by decide +kernel), List.mem_of_getElem? (i := 275) (by decide +kernel)⟩
theorem lw_p22 : lw_okq (⟨"SquareGears", "traceNumber", "(II)I"⟩, 6) := ⟨⟨by decide +kernel, by decide +kernel⟩, List.mem_of_getElem? (i := 17) (by decide +kernel), List.mem_of_getElem? (i := 278) (by decide +kernel), List.mem_of_getElem? (i := 279) (by decide +kernel)⟩
theorem lw_p23 : lw_okq (⟨"SquareGears", "addAndSubtractHalves", "()V"⟩, 6) := ⟨⟨by decide +kernel, by decide +kernel⟩, List.mem_of_getElem? (i := 17) (by decide +kernel), List.mem_of_getElem? (i := 282) (by decide +kernel), List.mem_of_getElem? (i := 283) (by decide +kernel)⟩
theorem lw_p24 : lw_okq (⟨"SquareGears", "pointNumber", "(II)I"⟩, 6) := ⟨⟨by decide +kernel, by decide +kernel⟩, List.mem_of_getElem? (i := 17) (by decide +kernel), List.mem_of_getElem? (i := 286) (by decide +kernel), List.mem_of_getElem? (i := 287) (by decide +kernel)⟩
theorem lw_p25 : lw_okq (⟨"SquareGears", "hashedFewest", "(JI)J"⟩, 6) := ⟨⟨by decide +kernel, by decide +kernel⟩, List.mem_of_getElem? (i := 17) (by decide +kernel), List.mem_of_getElem? (i := 291) (by decide +kernel), List.mem_of_getElem? (i := 292) (by decide +kernel)⟩
theorem lw_p26 : lw_okq (⟨"SquareGears", "fewestNumber", "(II)I"⟩, 6) := ⟨⟨by decide +kernel, by decide +kernel⟩, List.mem_of_getElem? (i := 17) (by decide +kernel), List.mem_of_getElem? (i := 295) (by decide +kernel), List.mem_of_getElem? (i := 296) (by decide +kernel)⟩
theorem lw_p27 : lw_okq (⟨"SquareGears$Gears", "errorWithout", "(I)I"⟩, 4) := ⟨⟨by decide +kernel, by decide +kernel⟩, List.mem_of_getElem? (i := 25) (by decide +kernel), List.mem_of_getElem? (i := 299) (by decide +kernel), List.mem_of_getElem? (i := 300) (by decide +kernel)⟩
theorem lw_p28 : lw_okq (⟨"SquareGears", "fewestByDropping", "(I)I"⟩, 6) := ⟨⟨by decide +kernel, by decide +kernel⟩, List.mem_of_getElem? (i := 17) (by decide +kernel), List.mem_of_getElem? (i := 303) (by decide +kernel), List.mem_of_getElem? (i := 304) (by decide +kernel)⟩
theorem lw_p29 : lw_okq (⟨"SquareGears", "leastInRow", "()I"⟩, 6) := ⟨⟨by decide +kernel, by decide +kernel⟩, List.mem_of_getElem? (i := 17) (by decide +kernel), List.mem_of_getElem? (i := 307) (by decide +kernel), List.mem_of_getElem? (i := 308) (by decide +kernel)⟩
theorem lw_p30 : lw_okq (⟨"SquareGears", "fewestOfAllSets", "(I)I"⟩, 6) := ⟨⟨by decide +kernel, by decide +kernel⟩, List.mem_of_getElem? (i := 17) (by decide +kernel), List.mem_of_getElem? (i := 311) (by decide +kernel), List.mem_of_getElem? (i := 312) (by decide +kernel)⟩
theorem lw_p31 : lw_okq (⟨"SquareGears", "hasSnapshot", "(I)Z"⟩, 6) := ⟨⟨by decide +kernel, by decide +kernel⟩, List.mem_of_getElem? (i := 17) (by decide +kernel), List.mem_of_getElem? (i := 325) (by decide +kernel), List.mem_of_getElem? (i := 326) (by decide +kernel)⟩
def lw_privs_2 : List (MethodName × Nat) := [(⟨"SquareGears", "greatestJump", "()I"⟩, 6), (⟨"SquareGears$Gears", "jumpAt", "(I)I"⟩, 4), (⟨"SquareGears", "overshoot", "()I"⟩, 6), (⟨"SquareGears", "hashedWheels", "(J)J"⟩, 6), (⟨"SquareGears", "wheelNumber", "(II)I"⟩, 6), (⟨"SquareGears", "hashedPoints", "(J)J"⟩, 6), (⟨"SquareGears", "traceNumber", "(II)I"⟩, 6), (⟨"SquareGears", "addAndSubtractHalves", "()V"⟩, 6), (⟨"SquareGears", "pointNumber", "(II)I"⟩, 6), (⟨"SquareGears", "hashedFewest", "(JI)J"⟩, 6), (⟨"SquareGears", "fewestNumber", "(II)I"⟩, 6), (⟨"SquareGears$Gears", "errorWithout", "(I)I"⟩, 4), (⟨"SquareGears", "fewestByDropping", "(I)I"⟩, 6), (⟨"SquareGears", "leastInRow", "()I"⟩, 6), (⟨"SquareGears", "fewestOfAllSets", "(I)I"⟩, 6), (⟨"SquareGears", "hasSnapshot", "(I)Z"⟩, 6)]
theorem lw_r2 : ∀ q ∈ lw_privs_2, lw_okq q := List.forall_mem_cons.mpr ⟨lw_p16, List.forall_mem_cons.mpr ⟨lw_p17, List.forall_mem_cons.mpr ⟨lw_p18, List.forall_mem_cons.mpr ⟨lw_p19, List.forall_mem_cons.mpr ⟨lw_p20, List.forall_mem_cons.mpr ⟨lw_p21, List.forall_mem_cons.mpr ⟨lw_p22, List.forall_mem_cons.mpr ⟨lw_p23, List.forall_mem_cons.mpr ⟨lw_p24, List.forall_mem_cons.mpr ⟨lw_p25, List.forall_mem_cons.mpr ⟨lw_p26, List.forall_mem_cons.mpr ⟨lw_p27, List.forall_mem_cons.mpr ⟨lw_p28, List.forall_mem_cons.mpr ⟨lw_p29, List.forall_mem_cons.mpr ⟨lw_p30, List.forall_mem_cons.mpr ⟨lw_p31, fun _ h => absurd h List.not_mem_nil⟩⟩⟩⟩⟩⟩⟩⟩⟩⟩⟩⟩⟩⟩⟩⟩
theorem lw_p32 : lw_okq (⟨"java/lang/Throwable", "fillInStackTrace", "(I)Ljava/lang/Throwable;"⟩, 6) := ⟨⟨by decide +kernel, by decide +kernel⟩, List.mem_of_getElem? (i := 382) (by decide +kernel), List.mem_of_getElem? (i := 380) (by decide +kernel), List.mem_of_getElem? (i := 381) (by decide +kernel)⟩
theorem lw_p33 : lw_okq (⟨"SquareGears$WheelText", "isFull", "()Z"⟩, 2) := ⟨⟨by decide +kernel, by decide +kernel⟩, List.mem_of_getElem? (i := 71) (by decide +kernel), List.mem_of_getElem? (i := 469) (by decide +kernel), List.mem_of_getElem? (i := 470) (by decide +kernel)⟩
theorem lw_p34 : lw_okq (⟨"SquareGears$WheelText", "put", "(C)V"⟩, 2) := ⟨⟨by decide +kernel, by decide +kernel⟩, List.mem_of_getElem? (i := 71) (by decide +kernel), List.mem_of_getElem? (i := 489) (by decide +kernel), List.mem_of_getElem? (i := 490) (by decide +kernel)⟩
theorem lw_p35 : lw_okq (⟨"SquareGears$WheelText", "tellsWheels", "()Z"⟩, 2) := ⟨⟨by decide +kernel, by decide +kernel⟩, List.mem_of_getElem? (i := 71) (by decide +kernel), List.mem_of_getElem? (i := 500) (by decide +kernel), List.mem_of_getElem? (i := 501) (by decide +kernel)⟩
theorem lw_p36 : lw_okq (⟨"SquareGears$WheelText", "tellTo", "(LSquareGears$Gears;)V"⟩, 2) := ⟨⟨by decide +kernel, by decide +kernel⟩, List.mem_of_getElem? (i := 71) (by decide +kernel), List.mem_of_getElem? (i := 505) (by decide +kernel), List.mem_of_getElem? (i := 506) (by decide +kernel)⟩
theorem lw_p37 : lw_okq (⟨"SquareGears$SavedGears", "popInto", "(LSquareGears$Gears;)V"⟩, 3) := ⟨⟨by decide +kernel, by decide +kernel⟩, List.mem_of_getElem? (i := 52) (by decide +kernel), List.mem_of_getElem? (i := 534) (by decide +kernel), List.mem_of_getElem? (i := 535) (by decide +kernel)⟩
theorem lw_p38 : lw_okq (⟨"SquareGearsModel", "turning", "()I"⟩, 12) := ⟨⟨by decide +kernel, by decide +kernel⟩, List.mem_of_getElem? (i := 586) (by decide +kernel), List.mem_of_getElem? (i := 645) (by decide +kernel), List.mem_of_getElem? (i := 646) (by decide +kernel)⟩
theorem lw_p39 : lw_okq (⟨"SquareGearsModel", "record", "()V"⟩, 12) := ⟨⟨by decide +kernel, by decide +kernel⟩, List.mem_of_getElem? (i := 586) (by decide +kernel), List.mem_of_getElem? (i := 653) (by decide +kernel), List.mem_of_getElem? (i := 654) (by decide +kernel)⟩
theorem lw_p40 : lw_okq (⟨"SquareGearsModel", "change", "(II)I"⟩, 12) := ⟨⟨by decide +kernel, by decide +kernel⟩, List.mem_of_getElem? (i := 586) (by decide +kernel), List.mem_of_getElem? (i := 664) (by decide +kernel), List.mem_of_getElem? (i := 665) (by decide +kernel)⟩
theorem lw_p41 : lw_okq (⟨"SquareGearsModel", "difference", "(I)I"⟩, 12) := ⟨⟨by decide +kernel, by decide +kernel⟩, List.mem_of_getElem? (i := 586) (by decide +kernel), List.mem_of_getElem? (i := 694) (by decide +kernel), List.mem_of_getElem? (i := 695) (by decide +kernel)⟩
theorem lw_p42 : lw_okq (⟨"SquareGearsModel", "traceAt", "(I)I"⟩, 12) := ⟨⟨by decide +kernel, by decide +kernel⟩, List.mem_of_getElem? (i := 586) (by decide +kernel), List.mem_of_getElem? (i := 698) (by decide +kernel), List.mem_of_getElem? (i := 699) (by decide +kernel)⟩
theorem lw_p43 : lw_okq (⟨"SquareGearsModel", "used", "(I)I"⟩, 12) := ⟨⟨by decide +kernel, by decide +kernel⟩, List.mem_of_getElem? (i := 586) (by decide +kernel), List.mem_of_getElem? (i := 702) (by decide +kernel), List.mem_of_getElem? (i := 703) (by decide +kernel)⟩
theorem lw_p44 : lw_okq (⟨"SquareGearsModel", "ofPattern", "(I)I"⟩, 12) := ⟨⟨by decide +kernel, by decide +kernel⟩, List.mem_of_getElem? (i := 586) (by decide +kernel), List.mem_of_getElem? (i := 710) (by decide +kernel), List.mem_of_getElem? (i := 711) (by decide +kernel)⟩
theorem lw_p45 : lw_okq (⟨"SquareGearsModel", "findError", "()I"⟩, 12) := ⟨⟨by decide +kernel, by decide +kernel⟩, List.mem_of_getElem? (i := 586) (by decide +kernel), List.mem_of_getElem? (i := 726) (by decide +kernel), List.mem_of_getElem? (i := 727) (by decide +kernel)⟩
theorem lw_p46 : lw_okq (⟨"SquareGearsModel", "readPart", "(I)I"⟩, 12) := ⟨⟨by decide +kernel, by decide +kernel⟩, List.mem_of_getElem? (i := 586) (by decide +kernel), List.mem_of_getElem? (i := 730) (by decide +kernel), List.mem_of_getElem? (i := 731) (by decide +kernel)⟩
theorem lw_p47 : lw_okq (⟨"SquareGearsModel", "at", "(I)I"⟩, 12) := ⟨⟨by decide +kernel, by decide +kernel⟩, List.mem_of_getElem? (i := 586) (by decide +kernel), List.mem_of_getElem? (i := 734) (by decide +kernel), List.mem_of_getElem? (i := 735) (by decide +kernel)⟩
def lw_privs_3 : List (MethodName × Nat) := [(⟨"java/lang/Throwable", "fillInStackTrace", "(I)Ljava/lang/Throwable;"⟩, 6), (⟨"SquareGears$WheelText", "isFull", "()Z"⟩, 2), (⟨"SquareGears$WheelText", "put", "(C)V"⟩, 2), (⟨"SquareGears$WheelText", "tellsWheels", "()Z"⟩, 2), (⟨"SquareGears$WheelText", "tellTo", "(LSquareGears$Gears;)V"⟩, 2), (⟨"SquareGears$SavedGears", "popInto", "(LSquareGears$Gears;)V"⟩, 3), (⟨"SquareGearsModel", "turning", "()I"⟩, 12), (⟨"SquareGearsModel", "record", "()V"⟩, 12), (⟨"SquareGearsModel", "change", "(II)I"⟩, 12), (⟨"SquareGearsModel", "difference", "(I)I"⟩, 12), (⟨"SquareGearsModel", "traceAt", "(I)I"⟩, 12), (⟨"SquareGearsModel", "used", "(I)I"⟩, 12), (⟨"SquareGearsModel", "ofPattern", "(I)I"⟩, 12), (⟨"SquareGearsModel", "findError", "()I"⟩, 12), (⟨"SquareGearsModel", "readPart", "(I)I"⟩, 12), (⟨"SquareGearsModel", "at", "(I)I"⟩, 12)]
theorem lw_r3 : ∀ q ∈ lw_privs_3, lw_okq q := List.forall_mem_cons.mpr ⟨lw_p32, List.forall_mem_cons.mpr ⟨lw_p33, List.forall_mem_cons.mpr ⟨lw_p34, List.forall_mem_cons.mpr ⟨lw_p35, List.forall_mem_cons.mpr ⟨lw_p36, List.forall_mem_cons.mpr ⟨lw_p37, List.forall_mem_cons.mpr ⟨lw_p38, List.forall_mem_cons.mpr ⟨lw_p39, List.forall_mem_cons.mpr ⟨lw_p40, List.forall_mem_cons.mpr ⟨lw_p41, List.forall_mem_cons.mpr ⟨lw_p42, List.forall_mem_cons.mpr ⟨lw_p43, List.forall_mem_cons.mpr ⟨lw_p44, List.forall_mem_cons.mpr ⟨lw_p45, List.forall_mem_cons.mpr ⟨lw_p46, List.forall_mem_cons.mpr ⟨lw_p47, fun _ h => absurd h List.not_mem_nil⟩⟩⟩⟩⟩⟩⟩⟩⟩⟩⟩⟩⟩⟩⟩⟩
theorem lw_p48 : lw_okq (⟨"SquareGearsModel", "wheelNow", "(II)I"⟩, 12) := ⟨⟨by decide +kernel, by decide +kernel⟩, List.mem_of_getElem? (i := 586) (by decide +kernel), List.mem_of_getElem? (i := 746) (by decide +kernel), List.mem_of_getElem? (i := 747) (by decide +kernel)⟩
theorem lw_p49 : lw_okq (⟨"SquareGearsModel", "pointNow", "(II)I"⟩, 12) := ⟨⟨by decide +kernel, by decide +kernel⟩, List.mem_of_getElem? (i := 586) (by decide +kernel), List.mem_of_getElem? (i := 761) (by decide +kernel), List.mem_of_getElem? (i := 762) (by decide +kernel)⟩
theorem lw_p50 : lw_okq (⟨"SquareGearsModel", "jump", "(I)I"⟩, 12) := ⟨⟨by decide +kernel, by decide +kernel⟩, List.mem_of_getElem? (i := 586) (by decide +kernel), List.mem_of_getElem? (i := 765) (by decide +kernel), List.mem_of_getElem? (i := 766) (by decide +kernel)⟩
theorem lw_p51 : lw_okq (⟨"SquareGearsModel", "countNow", "(I)I"⟩, 12) := ⟨⟨by decide +kernel, by decide +kernel⟩, List.mem_of_getElem? (i := 586) (by decide +kernel), List.mem_of_getElem? (i := 773) (by decide +kernel), List.mem_of_getElem? (i := 774) (by decide +kernel)⟩
theorem lw_p52 : lw_okq (⟨"SquareGearsModel", "lost", "()I"⟩, 12) := ⟨⟨by decide +kernel, by decide +kernel⟩, List.mem_of_getElem? (i := 586) (by decide +kernel), List.mem_of_getElem? (i := 777) (by decide +kernel), List.mem_of_getElem? (i := 778) (by decide +kernel)⟩
theorem lw_p53 : lw_okq (⟨"SquareGearsModel", "greatestTrace", "()I"⟩, 12) := ⟨⟨by decide +kernel, by decide +kernel⟩, List.mem_of_getElem? (i := 586) (by decide +kernel), List.mem_of_getElem? (i := 781) (by decide +kernel), List.mem_of_getElem? (i := 782) (by decide +kernel)⟩
theorem lw_p54 : lw_okq (⟨"SquareGearsModel", "leastTrace", "()I"⟩, 12) := ⟨⟨by decide +kernel, by decide +kernel⟩, List.mem_of_getElem? (i := 586) (by decide +kernel), List.mem_of_getElem? (i := 785) (by decide +kernel), List.mem_of_getElem? (i := 786) (by decide +kernel)⟩
theorem lw_p55 : lw_okq (⟨"SquareGearsModel", "greatest", "(I)I"⟩, 12) := ⟨⟨by decide +kernel, by decide +kernel⟩, List.mem_of_getElem? (i := 586) (by decide +kernel), List.mem_of_getElem? (i := 789) (by decide +kernel), List.mem_of_getElem? (i := 790) (by decide +kernel)⟩
theorem lw_p56 : lw_okq (⟨"SquareGearsModel", "overshoot", "()I"⟩, 12) := ⟨⟨by decide +kernel, by decide +kernel⟩, List.mem_of_getElem? (i := 586) (by decide +kernel), List.mem_of_getElem? (i := 793) (by decide +kernel), List.mem_of_getElem? (i := 794) (by decide +kernel)⟩
theorem lw_p57 : lw_okq (⟨"SquareGearsModel", "explaining", "()I"⟩, 12) := ⟨⟨by decide +kernel, by decide +kernel⟩, List.mem_of_getElem? (i := 586) (by decide +kernel), List.mem_of_getElem? (i := 801) (by decide +kernel), List.mem_of_getElem? (i := 802) (by decide +kernel)⟩
theorem lw_p58 : lw_okq (⟨"SquareGearsModel", "fewest", "(I)I"⟩, 12) := ⟨⟨by decide +kernel, by decide +kernel⟩, List.mem_of_getElem? (i := 586) (by decide +kernel), List.mem_of_getElem? (i := 810) (by decide +kernel), List.mem_of_getElem? (i := 811) (by decide +kernel)⟩
theorem lw_p59 : lw_okq (⟨"SquareGearsModel", "nearestTurn", "()I"⟩, 12) := ⟨⟨by decide +kernel, by decide +kernel⟩, List.mem_of_getElem? (i := 586) (by decide +kernel), List.mem_of_getElem? (i := 822) (by decide +kernel), List.mem_of_getElem? (i := 823) (by decide +kernel)⟩
theorem lw_p60 : lw_okq (⟨"SquareGearsModel", "far", "(I)I"⟩, 12) := ⟨⟨by decide +kernel, by decide +kernel⟩, List.mem_of_getElem? (i := 586) (by decide +kernel), List.mem_of_getElem? (i := 826) (by decide +kernel), List.mem_of_getElem? (i := 827) (by decide +kernel)⟩
theorem lw_p61 : lw_okq (⟨"SquareGearsModel", "share", "()D"⟩, 12) := ⟨⟨by decide +kernel, by decide +kernel⟩, List.mem_of_getElem? (i := 586) (by decide +kernel), List.mem_of_getElem? (i := 834) (by decide +kernel), List.mem_of_getElem? (i := 835) (by decide +kernel)⟩
def lw_privs_4 : List (MethodName × Nat) := [(⟨"SquareGearsModel", "wheelNow", "(II)I"⟩, 12), (⟨"SquareGearsModel", "pointNow", "(II)I"⟩, 12), (⟨"SquareGearsModel", "jump", "(I)I"⟩, 12), (⟨"SquareGearsModel", "countNow", "(I)I"⟩, 12), (⟨"SquareGearsModel", "lost", "()I"⟩, 12), (⟨"SquareGearsModel", "greatestTrace", "()I"⟩, 12), (⟨"SquareGearsModel", "leastTrace", "()I"⟩, 12), (⟨"SquareGearsModel", "greatest", "(I)I"⟩, 12), (⟨"SquareGearsModel", "overshoot", "()I"⟩, 12), (⟨"SquareGearsModel", "explaining", "()I"⟩, 12), (⟨"SquareGearsModel", "fewest", "(I)I"⟩, 12), (⟨"SquareGearsModel", "nearestTurn", "()I"⟩, 12), (⟨"SquareGearsModel", "far", "(I)I"⟩, 12), (⟨"SquareGearsModel", "share", "()D"⟩, 12)]
theorem lw_r4 : ∀ q ∈ lw_privs_4, lw_okq q := List.forall_mem_cons.mpr ⟨lw_p48, List.forall_mem_cons.mpr ⟨lw_p49, List.forall_mem_cons.mpr ⟨lw_p50, List.forall_mem_cons.mpr ⟨lw_p51, List.forall_mem_cons.mpr ⟨lw_p52, List.forall_mem_cons.mpr ⟨lw_p53, List.forall_mem_cons.mpr ⟨lw_p54, List.forall_mem_cons.mpr ⟨lw_p55, List.forall_mem_cons.mpr ⟨lw_p56, List.forall_mem_cons.mpr ⟨lw_p57, List.forall_mem_cons.mpr ⟨lw_p58, List.forall_mem_cons.mpr ⟨lw_p59, List.forall_mem_cons.mpr ⟨lw_p60, List.forall_mem_cons.mpr ⟨lw_p61, fun _ h => absurd h List.not_mem_nil⟩⟩⟩⟩⟩⟩⟩⟩⟩⟩⟩⟩⟩⟩
def lw_privs : List (MethodName × Nat) := lw_privs_1 ++ (lw_privs_2 ++ (lw_privs_3 ++ (lw_privs_4)))
def lw_tbl : List Cond := k2_sels lw_privs ++ tables_1
theorem lw_privs_ok : ∀ q ∈ lw_privs, lw_okq q := by
  show ∀ q ∈ lw_privs_1 ++ (lw_privs_2 ++ (lw_privs_3 ++ (lw_privs_4))), lw_okq q
  exact List.forall_mem_append.mpr ⟨lw_r1, List.forall_mem_append.mpr ⟨lw_r2, List.forall_mem_append.mpr ⟨lw_r3, lw_r4⟩⟩⟩
/-- the streams that the claim lets the run draw from -/
abbrev lw_cs : List Choice := [Jvm.Choice.named "NaN.bits"]
theorem lw_bits : nanBits ∈ lw_cs := by first | decide | exact List.mem_cons_self | simp [lw_cs, nanBits]
-- ===== end of PART A; then your names; then what follows =====
end
section
/-! ===== BEGIN words of one list among another's, by their places ===== -/
theorem goodIn_r {big : List Cond} (ws : List Cond) (ps : List Nat) (hp : ws = ps.filterMap (fun i => big[i]?)) (h : ws.all goodWord = true) : GoodIn big ws := by
  intro w hw
  have h1 := List.all_eq_true.mp h w hw
  rw [hp] at hw
  obtain ⟨i, -, hi⟩ := List.mem_filterMap.mp hw
  have hm : w ∈ big := by first | exact List.mem_of_getElem? hi | exact List.getElem?_mem hi
  exact ⟨hm, good_of_word h1⟩
theorem goodIn_app {big a b : List Cond} (ha : GoodIn big a) (hb : GoodIn big b) : GoodIn big (a ++ b) := fun w h => (List.mem_append.mp h).elim (ha w) (hb w)
theorem goodIn_ca {big a b : List Cond} {c : Cond} (ha : GoodIn big (c :: a)) (hb : GoodIn big b) : GoodIn big (c :: (a ++ b)) := fun w h => (List.mem_cons.mp h).elim (fun e => ha w (List.mem_cons.mpr (Or.inl e))) (fun h => (List.mem_append.mp h).elim (fun h => ha w (List.mem_cons.mpr (Or.inr h))) (hb w))
theorem goodIn_sub {big ws : List Cond} (hm : ∀ w ∈ ws, w ∈ big) (h : ws.all goodWord = true) : GoodIn big ws := fun w hw => ⟨hm w hw, good_of_word (List.all_eq_true.mp h w hw)⟩
/-! ===== END ===== -/

/-! ===== BEGIN exceptions that leave a method, and their catching by the caller (launches without stack traces) ===== -/
section VXA
/-! The laws vx_back, vx_callV, vx_callS, vx_callSW, vx_throw0, vx_throwS follow proofs of the library, with one case more: JvmDerived/Free/Laws.lean (Back.of_free), Shelf42/LK1.lean (callV, callS), Shelf/KitTraced.lean (throwNew0V, throwNewS). -/
/-- where a method has thrown q: the class by its name, the cell, what was written, the world -/
def vx_T (XC : String → State → State → Prop) (st : State) (q : Addr) (t : State) (mc ms : Nat) (free : Addr → Prop) : Prop :=
  ∃ (E : String) (ce : Cell) (L : List Loc), XC E st t ∧ t.heap[q]? = some ce ∧ ce.vm = .none ∧ st.vm.findClass E = some ce.cls ∧ st.WarmedH t.vm ∧ st.sameButNew ({ t with vm := st.vm } : State) L mc ms ∧ ∀ z ∈ L, free z.base
def vx_Q (Qc : Array Value → State → Outcome → State → Prop) (XC : String → State → State → Prop) (mc ms : Nat) (free : Addr → Prop) : Array Value → State → Outcome → State → Prop := fun a st o t =>
  (Qc a st o t ∧ ∃ L, FrameEnd st o t L mc ms ∧ ∀ q ∈ L, free q.base) ∨ ∃ q, o = .threw q ∧ vx_T XC st q t mc ms free
/-- a callee that returns or throws -/
def vx_Met (l : Launch) (y : MethodName) (ws : List Cond) (rm : Room) (Pc : Array Value → State → Prop) (Qc : Array Value → State → Outcome → State → Prop) (XC : String → State → State → Prop) (mc ms : Nat) (free : Addr → Prop) : Prop :=
  MetFree l y (headSpec ws rm) Pc (fun _ _ _ _ _ => True) (vx_Q Qc XC mc ms free)
def vx_Post (XC : String → State → State → Prop) (mc ms : Nat) (free : Addr → Prop) : Pt → Array Value → Addr → Pt → Prop := fun A a q B =>
  ∃ (g : JFrame) (mk : MethodId) (t : State) (L : List Loc) (E : String) (ce : Cell), B.U.heap = t.heap ∧ B.U.vm = t.vm ∧ XC E (A.U.calling g mk a) t ∧ t.heap[q]? = some ce ∧ ce.vm = .none ∧ A.U.vm.findClass E = some ce.cls ∧ B.locs = A.locs ++ L ∧ (∀ z ∈ L, free z.base) ∧ B.cells = A.cells + mc ∧ B.slots = A.slots + ms
def vx_Back (l : Launch) (R : Room) (p : Program) (e : Env) (below : List Frame) (s : State) (sargs : Array Value) (y : MethodName) (len W9 : Nat)
    (Pre : Pt → Array Value → Prop) (Post : Pt → Array Value → Option Value → Pt → Prop) (PostX : Pt → Array Value → Addr → Pt → Prop) : Prop :=
  ∀ (m : MethodId) (meth : Method) (c : Code) (A : Pt) (g : JFrame) (ig : Instr) (mk : MethodId) (a : Array Value),
    Stand p l e R s m sargs below meth c A.U A.locs A.cells A.slots → g.method = m → g.locals.size = c.maxLocals → decode c.code g.pc = .ok (ig, len) →
    2 * g.monitorRoom + (g.stack.map fun v => v.category).sum ≤ W9 → A.U.methodNamed? y = some mk → Pre A a →
    (∃ (v : Option Value) (B : Pt), Stand p l e R s m sargs below meth c B.U B.locs B.cells B.slots ∧ Post A a v B ∧
      Steps p.tables e below (doInvoke e (A.U.setTop g) [] mk a).1 (B.U.setTop { g with pc := g.pc + len, stack := v.toList ++ g.stack })) ∨
    (∃ (q : Addr) (B : Pt), Stand p l e R s m sargs below meth c B.U B.locs B.cells B.slots ∧ PostX A a q B ∧
      Steps p.tables e below (doInvoke e (A.U.setTop g) [] mk a).1 ((B.U.setTop g).pushFrame (.throwing q)))
section Payer
variable {l : Launch} {R : Room} {p : Program} {e : Env} {below : List Frame} {s : State} {sargs : Array Value} {y : MethodName} {len W9 : Nat}
theorem vx_back {ws : List Cond} {rm : Room} {Pc : Array Value → State → Prop} {Qc : Array Value → State → Outcome → State → Prop} {XC : String → State → State → Prop} {mc ms : Nat} {free : Addr → Prop} {bytes : ByteArray} {maxL : Nat} {ret : Option FieldType}
    (hM : vx_Met l y ws rm Pc Qc XC mc ms free) (hblind : FrameBlind Pc) (hrc : rm.cells = mc) (hrs : rm.slots = ms)
    (hframes : rm.frames + 1 ≤ R.frames) (hlocals : W9 + (maxL + 11) + rm.locals ≤ R.locals)
    (hws : ∀ w ∈ ws, ∀ a' U, s.WarmedH U.vm → w.before a' U = true) (hcode : Cond.code y bytes maxL ret ∈ ws) (hinit : ∀ a' U, s.WarmedH U.vm → (Cond.initialized y.cls).before a' U = true) :
    vx_Back l R p e below s sargs y len W9 (PreOf R mc ms Pc) (PostOf Qc mc ms free) (vx_Post XC mc ms free) := by
  intro m meth c A g ig mk a X hg hsize hdg hW hn hp
  have h1 : (headSpec ws rm).pre.before a A.U = true := atoms_intro fun w hw => hws w hw _ _ X.warmed
  have h2 : (Cond.code y bytes maxL ret).before a A.U = true := hws _ hcode _ _ X.warmed
  have h3 : (Cond.initialized y.cls).before a A.U = true := hinit _ _ X.warmed
  have h4 : A.cells + (headSpec ws rm).room.cells ≤ R.cells := by rw [show (headSpec ws rm).room.cells = mc from hrc]; exact hp.1
  have h5 : A.slots + (headSpec ws rm).room.slots ≤ R.slots := by rw [show (headSpec ws rm).room.slots = ms from hrs]; exact hp.2.1
  have hPc : Pc a (A.U.calling g mk a) := hblind _ _ _ _ hp.2.2
  obtain ⟨U, Ls, c0, s0⟩ := A
  dsimp only [Pt.U, Pt.locs, Pt.cells, Pt.slots] at h1 h2 h3 h4 h5 X hn hPc ⊢
  obtain ⟨methY, cY, hmY, hcY, -, hlY, -, -, -, -⟩ := Cond.code_spec hn h2
  obtain ⟨kY, hkY, -⟩ := className_of_methodNamed hn
  have hinitY : kY.init = .initialized := Cond.initialized_spec (findClass_of_methodNamed hn) hkY h3
  have h : At U g.method c below := by rw [hg]; exact X.here
  have hlocals9 : W9 + (maxL + 11) + (headSpec ws rm).room.locals ≤ R.locals := hlocals
  have happ : (headSpec ws rm).appliesLoose y e.platform (U.calling g mk a) = true :=
    Spec.appliesLoose_calling (g := g) h hdg hn hkY hinitY
      (X.room_calling (g := g) (R' := (headSpec ws rm).room) hsize hmY hcY hframes (by rw [hlY]; omega) h4 h5) h1
  obtain ⟨mid, hmid⟩ := h.above
  have hfr : (U.setTop g).frames = (.java g :: mid) ++ below := by rw [State.frames_setTop' g h.top, hmid]; rfl
  obtain ⟨o, s₂, hsteps, -, hend, hq⟩ := Steps.callFree hM p X.admits X.cas X.clock (acts := []) hfr happ hPc trivial
  have hq' : vx_Q Qc XC mc ms free a (U.calling g mk a) o s₂ := hq
  rw [State.frames_setTop' g h.top] at hend
  obtain ⟨g₀, hg0⟩ := Option.isSome_iff_exists.mp h.top
  obtain ⟨r, hr⟩ := State.topJava?_eq_some.mp hg0
  have hr' : (({ U with heap := s₂.heap, slotsUsed := s₂.slotsUsed } : State).setVm s₂.vm).frames = .java g₀ :: r := hr
  rcases hq' with ⟨hqc, L, hfe, hL⟩ | ⟨q, rfl, E, ce, L, hx, hce, hcv, hcl, hW₂, hsm, hL⟩
  · obtain ⟨⟨v, rfl⟩, hW₂, e2, q2, q3, q4, q5, q6⟩ := id hfe
    have e3 : s₂ = ({ (U.calling g mk a).setFrames s₂.frames with heap := s₂.heap, slotsUsed := s₂.slotsUsed } : State).setVm s₂.vm := by
      have : s₂ = ({ s₂ with vm := (U.calling g mk a).vm } : State).setVm s₂.vm := rfl
      rw [e2] at this
      exact this
    obtain ⟨c₂, i₂, len₂, hc₂, hd₂, hf₂⟩ := hend
    have hW' : U.WarmedH s₂.vm := hW₂
    have hcc : c₂ = c := by
      have h1 : s₂.code? g.method = U.code? g.method := by
        rw [State.code?_eq, State.code?_eq, hW'.alike.method?]
      exact Option.some.inj (hc₂.symm.trans (h1.trans h.code))
    subst hcc
    have hlen : len₂ = len := by rw [hdg] at hd₂; cases hd₂; rfl
    subst hlen
    have hs₂ : s₂ = (({ U with heap := s₂.heap, slotsUsed := s₂.slotsUsed } : State).setVm s₂.vm).setTop { g with pc := g.pc + len₂, stack := v.toList ++ g.stack } := by
      refine e3.trans ?_
      rw [hf₂, State.calling_eq h.top, State.setFrames_setFrames, State.setTop_of_frames _ hr', hr]
      rfl
    have hsame : U.sameButNew ({ U with heap := s₂.heap, slotsUsed := s₂.slotsUsed } : State) L mc ms := by
      refine ⟨?_, q2, q3, q4, q5, q6⟩
      obtain ⟨t, ht, -⟩ := State.frames_cons hr
      show ({ U with heap := s₂.heap, slotsUsed := s₂.slotsUsed } : State) = { U.setFrames U.frames with heap := s₂.heap, slotsUsed := s₂.slotsUsed }
      rw [State.setFrames_self ht]
    subst hg
    refine Or.inl ⟨v, ⟨(({ U with heap := s₂.heap, slotsUsed := s₂.slotsUsed } : State).setVm s₂.vm), Ls ++ L, c0 + mc, s0 + ms⟩,
      ⟨X.admits, X.cas, X.clock, X.frames, X.room, X.hears, X.method, X.code, (X.here.setHeapUsed s₂.heap s₂.slotsUsed).setVm hW'.alike, X.tail, State.WarmedH.trans X.warmed hW', X.limits, X.bytes, X.same.trans (hsame.setVm s.vm)⟩,
      ⟨g, mk, s₂, L, rfl, rfl, hqc, rfl, hL, rfl, rfl⟩, ?_⟩
    show Steps p.tables e below _ ((({ U with heap := s₂.heap, slotsUsed := s₂.slotsUsed } : State).setVm s₂.vm).setTop { g with pc := g.pc + len₂, stack := v.toList ++ g.stack })
    rw [← hs₂]
    exact hsteps
  · obtain ⟨e2, q2, q3, q4, q5, q6⟩ := id hsm
    have e3 : s₂ = ({ (U.calling g mk a).setFrames s₂.frames with heap := s₂.heap, slotsUsed := s₂.slotsUsed } : State).setVm s₂.vm := by
      have : s₂ = ({ s₂ with vm := (U.calling g mk a).vm } : State).setVm s₂.vm := rfl
      rw [e2] at this
      exact this
    have hf₂ : s₂.frames = .throwing q :: .java g :: U.frames.tail := hend
    have hW' : U.WarmedH s₂.vm := hW₂
    have hs₂ : s₂ = ((({ U with heap := s₂.heap, slotsUsed := s₂.slotsUsed } : State).setVm s₂.vm).setTop g).pushFrame (.throwing q) := by
      refine e3.trans ?_
      rw [hf₂, State.calling_eq h.top, State.setFrames_setFrames, State.pushFrame, State.frames_setTop _ hr', State.setTop_of_frames _ hr', State.setFrames_setFrames, hr]
      rfl
    have hsame : U.sameButNew ({ U with heap := s₂.heap, slotsUsed := s₂.slotsUsed } : State) L mc ms := by
      refine ⟨?_, q2, q3, q4, q5, q6⟩
      obtain ⟨t, ht, -⟩ := State.frames_cons hr
      show ({ U with heap := s₂.heap, slotsUsed := s₂.slotsUsed } : State) = { U.setFrames U.frames with heap := s₂.heap, slotsUsed := s₂.slotsUsed }
      rw [State.setFrames_self ht]
    subst hg
    refine Or.inr ⟨q, ⟨(({ U with heap := s₂.heap, slotsUsed := s₂.slotsUsed } : State).setVm s₂.vm), Ls ++ L, c0 + mc, s0 + ms⟩,
      ⟨X.admits, X.cas, X.clock, X.frames, X.room, X.hears, X.method, X.code, (X.here.setHeapUsed s₂.heap s₂.slotsUsed).setVm hW'.alike, X.tail, State.WarmedH.trans X.warmed hW', X.limits, X.bytes, X.same.trans (hsame.setVm s.vm)⟩,
      ⟨g, mk, s₂, L, E, ce, rfl, rfl, hx, hce, hcv, hcl, rfl, hL, rfl, rfl⟩, ?_⟩
    show Steps p.tables e below _ (((({ U with heap := s₂.heap, slotsUsed := s₂.slotsUsed } : State).setVm s₂.vm).setTop g).pushFrame (.throwing q))
    rw [← hs₂]
    exact hsteps
end Payer
section Calls
variable {p : Program} {l : Launch} {e : Env} {R : Room} {s : State} {m : MethodId} {args : Array Value} {below : List Frame} {meth : Method} {c : Code} {T : State} {locs : List Loc} {cells slots : Nat}
theorem vx_callV (X : Stand p l e R s m args below meth c T locs cells slots) (hexec : p.tables.exec = Jvm.exec) {own C : String} {index : Nat} {y : MethodName} {bytes : ByteArray} {maxL : Nat} {ret : Option FieldType}
    (hown : s.vm.findClass own = some m.cls) (hlink : (Cond.methodLink own index y).before args s = true) (hinst : (Cond.instanceMethod y).before args s = true) (hsel : (Cond.selects C y y).before args s = true)
    (hcode : (Cond.code y bytes maxL ret).before args s = true) (hy : y.cls ≠ "java/lang/invoke/MethodHandle" ∧ y.cls ≠ "java/lang/invoke/VarHandle")
    {W9 : Nat} {Pre : Pt → Array Value → Prop} {Post : Pt → Array Value → Option Value → Pt → Prop} {PostX : Pt → Array Value → Addr → Pt → Prop} (hK : vx_Back l R p e below s args y 3 W9 Pre Post PostX)
    {b : Addr} {cellB : Cell} (hcell : T.heap[b]? = some cellB) (hobj : cellB.vm.isStatics = false) (hcls : s.vm.findClass C = some cellB.cls)
    {g : JFrame} (hg : g.method = m) (hsize : g.locals.size = c.maxLocals) {argsL rest : List Value} (hlen : ∀ sig, parseMethodDescriptor y.desc = some sig → argsL.length = sig.parameters.length)
    (hstack : g.stack = argsL.reverse ++ .ref b :: rest) (hW : 2 * g.monitorRoom + (rest.map fun v => v.category).sum ≤ W9) (hdg : decode c.code g.pc = .ok (.invokevirtual index, 3))
    (hpre : ∀ vm₁, s.WarmedH vm₁ → Pre ⟨T.setVm vm₁, locs, cells, slots⟩ (Value.ref b :: argsL).toArray) :
    (∃ (v : Option Value) (vm₁ : Vm) (B : Pt), s.WarmedH vm₁ ∧ Stand p l e R s m args below meth c B.U B.locs B.cells B.slots ∧ Post ⟨T.setVm vm₁, locs, cells, slots⟩ (Value.ref b :: argsL).toArray v B ∧
      ∀ target, Steps p.tables e below (B.U.setTop { g with pc := g.pc + 3, stack := v.toList ++ rest }) target → Steps p.tables e below (T.setTop g) target) ∨
    (∃ (q : Addr) (vm₁ : Vm) (B : Pt), s.WarmedH vm₁ ∧ Stand p l e R s m args below meth c B.U B.locs B.cells B.slots ∧ PostX ⟨T.setVm vm₁, locs, cells, slots⟩ (Value.ref b :: argsL).toArray q B ∧
      Steps p.tables e below (T.setTop g) ((B.U.setTop { g with stack := rest }).pushFrame (.throwing q))) := by
  obtain ⟨mk, methM, hnamed, hmethM, hstM, habM⟩ := Cond.instanceMethod_spec hinst
  obtain ⟨methM', cM, hmethM', -, -, -, -, -, -, hsigM⟩ := Cond.code_spec hnamed hcode
  cases hmethM.symm.trans hmethM'
  obtain ⟨c2, r2, m2, q1, q2, q3, q4, kP, hkP, hkPi⟩ := Cond.selects_spec hsel
  cases hcls.symm.trans q1
  cases (State.methodFound?_of_named hnamed hy).symm.trans q2
  cases hnamed.symm.trans q3
  have hselP : selectMethod e.platform s.vm cellB.cls mk = .method mk := by rw [Launch.admits_selectMethod X.admits]; exact q4
  obtain ⟨vm₁, X₁, hstep₁⟩ := X.invokevirtual hexec hown hlink hnamed hmethM hstM hkP hkPi hy (a := b) (cell := cellB) hcell
    (fun z h => by rw [h] at hobj; cases hobj) hselP hmethM habM hkP hkPi (g := g) hg (argsL := argsL) (rest := rest) (hlen _ hsigM) hstack hdg
  rcases hK m meth c ⟨T.setVm vm₁, locs, cells, slots⟩ { g with stack := rest } (.invokevirtual index) mk (Value.ref b :: argsL).toArray X₁ hg hsize hdg hW (X₁.named hnamed) (hpre vm₁ X₁.warmed) with ⟨v, B, X', hpost, hsteps⟩ | ⟨q, B, X', hpost, hsteps⟩
  · exact Or.inl ⟨v, vm₁, B, X₁.warmed, X', hpost, fun target h => hstep₁ _ fun acts => by rw [doInvoke_state]; exact hsteps.trans h⟩
  · exact Or.inr ⟨q, vm₁, B, X₁.warmed, X', hpost, hstep₁ _ fun acts => by rw [doInvoke_state]; exact hsteps⟩
theorem vx_callS (X : Stand p l e R s m args below meth c T locs cells slots) (hexec : p.tables.exec = Jvm.exec) {own : String} {index : Nat} {y : MethodName} {bytes : ByteArray} {maxL : Nat} {ret : Option FieldType}
    (hown : s.vm.findClass own = some m.cls) (hlink : (Cond.methodLink own index y).before args s = true) (hstat : (Cond.static y).before args s = true) (hinit : (Cond.initialized y.cls).before args s = true)
    (hcode : (Cond.code y bytes maxL ret).before args s = true) (hy : y.cls ≠ "java/lang/invoke/MethodHandle" ∧ y.cls ≠ "java/lang/invoke/VarHandle")
    {W9 : Nat} {Pre : Pt → Array Value → Prop} {Post : Pt → Array Value → Option Value → Pt → Prop} {PostX : Pt → Array Value → Addr → Pt → Prop} (hK : vx_Back l R p e below s args y 3 W9 Pre Post PostX)
    {g : JFrame} (hg : g.method = m) (hsize : g.locals.size = c.maxLocals) {argsL rest : List Value} (hlen : ∀ sig, parseMethodDescriptor y.desc = some sig → argsL.length = sig.parameters.length)
    (hstack : g.stack = argsL.reverse ++ rest) (hW : 2 * g.monitorRoom + (rest.map fun v => v.category).sum ≤ W9) (hdg : decode c.code g.pc = .ok (.invokestatic index, 3))
    (hpre : ∀ vm₁, s.WarmedH vm₁ → Pre ⟨T.setVm vm₁, locs, cells, slots⟩ argsL.toArray) :
    (∃ (v : Option Value) (vm₁ : Vm) (B : Pt), s.WarmedH vm₁ ∧ Stand p l e R s m args below meth c B.U B.locs B.cells B.slots ∧ Post ⟨T.setVm vm₁, locs, cells, slots⟩ argsL.toArray v B ∧
      ∀ target, Steps p.tables e below (B.U.setTop { g with pc := g.pc + 3, stack := v.toList ++ rest }) target → Steps p.tables e below (T.setTop g) target) ∨
    (∃ (q : Addr) (vm₁ : Vm) (B : Pt), s.WarmedH vm₁ ∧ Stand p l e R s m args below meth c B.U B.locs B.cells B.slots ∧ PostX ⟨T.setVm vm₁, locs, cells, slots⟩ argsL.toArray q B ∧
      Steps p.tables e below (T.setTop g) ((B.U.setTop { g with stack := rest }).pushFrame (.throwing q))) := by
  obtain ⟨mk, hnamed⟩ := Cond.code_named hcode
  obtain ⟨methM, cM, hmethM, -, -, -, -, -, -, hsigM⟩ := Cond.code_spec hnamed hcode
  have hstatic : methM.isStatic = true := Cond.static_spec hnamed hmethM hstat
  obtain ⟨kP, hkP, -⟩ := className_of_methodNamed hnamed
  have hinitP : kP.init = .initialized := Cond.initialized_spec (findClass_of_methodNamed hnamed) hkP hinit
  obtain ⟨vm₁, X₁, hstep₁⟩ := X.invokestatic hexec hown hlink hnamed hmethM hstatic hkP hinitP hy (g := g) hg (argsL := argsL) (rest := rest) (hlen _ hsigM) hstack hdg
  rcases hK m meth c ⟨T.setVm vm₁, locs, cells, slots⟩ { g with stack := rest } (.invokestatic index) mk argsL.toArray X₁ hg hsize hdg hW (X₁.named hnamed) (hpre vm₁ X₁.warmed) with ⟨v, B, X', hpost, hsteps⟩ | ⟨q, B, X', hpost, hsteps⟩
  · exact Or.inl ⟨v, vm₁, B, X₁.warmed, X', hpost, fun target h => hstep₁ _ fun acts => by rw [doInvoke_state]; exact hsteps.trans h⟩
  · exact Or.inr ⟨q, vm₁, B, X₁.warmed, X', hpost, hstep₁ _ fun acts => by rw [doInvoke_state]; exact hsteps⟩
end Calls
theorem vx_cls {s : State} {T : State} {vm₁ : Vm} {E : String} {k : ClassId} (hW : s.WarmedH vm₁) (h : (T.setVm vm₁).vm.findClass E = some k) : s.vm.findClass E = some k := by
  have h1 : vm₁.findClass E = some k := h
  rw [hW.alike.findClass] at h1
  exact h1
/-- the method's frame g, with q thrown over it -/
def vx_W (p : Program) (l : Launch) (e : Env) (R : Room) (s : State) (m : MethodId) (args : Array Value) (below : List Frame) (meth : Method) (c : Code) (H : Heap) (locs : List Loc) (cells slots : Nat) (Q : State → Prop) (g : JFrame) (q : Addr) : Prop :=
  ∀ T : State, T.heap = H → Stand p l e R s m args below meth c T locs cells slots → ∃ t, Steps p.tables e below ((T.setTop g).pushFrame (.throwing q)) t ∧ Q t
def vx_Run (p : Program) (l : Launch) (e : Env) (R : Room) (s : State) (m : MethodId) (args : Array Value) (below : List Frame) (meth : Method) (c : Code) (H : Heap) (locs : List Loc) (cells slots mc ms : Nat) (g : JFrame) (rest : List Value) (Qa : State → Outcome → State → Prop) (XC : String → State → State → Prop) (free : Addr → Prop) : Prop :=
  ∀ T : State, T.heap = H → Stand p l e R s m args below meth c T locs cells slots →
    (∃ (v : Option Value) (st₀ t T' : State) (L : List Loc), st₀.heap = H ∧ Stand p l e R s m args below meth c T' (locs ++ L) (cells + mc) (slots + ms) ∧ (∀ q ∈ L, free q.base) ∧ T'.heap = t.heap ∧ T'.vm = t.vm ∧ Qa st₀ (.returned v) t ∧
      Goes p e below T g T' { g with pc := g.pc + 3, stack := v.toList ++ rest }) ∨
    (∃ (q : Addr) (st₀ t T' : State) (L : List Loc) (E : String) (ce : Cell), st₀.heap = H ∧ Stand p l e R s m args below meth c T' (locs ++ L) (cells + mc) (slots + ms) ∧ (∀ z ∈ L, free z.base) ∧ T'.heap = t.heap ∧ T'.vm = t.vm ∧ XC E st₀ t ∧ t.heap[q]? = some ce ∧ ce.vm = .none ∧ s.vm.findClass E = some ce.cls ∧
      Steps p.tables e below (T.setTop g) ((T'.setTop { g with stack := rest }).pushFrame (.throwing q)))
def vx_X {S : Type} (px : S → Prop) (B : String → S → State → Prop) (A : Nat → Prop) : String → State → State → Prop := fun E st t => ∃ u : S, px u ∧ B E u t ∧ va_F A st t
section Runs
variable {p : Program} {l : Launch} {e : Env} {R : Room} {s : State} {m : MethodId} {args : Array Value} {below : List Frame} {meth : Method} {c : Code} {H : Heap} {locs : List Loc} {cells slots : Nat}
variable {y : MethodName} {bytes cc : ByteArray} {maxL nL mc ms n index : Nat} {ret : Option FieldType} {ws : List Cond} {rm : Room} {Pc : Array Value → State → Prop} {Qc : Array Value → State → Outcome → State → Prop} {XC : String → State → State → Prop} {free : Addr → Prop} {Ts : List Cond} {own C : String} {b : Addr} {As rest : List Value} {g : JFrame}
theorem vx_callBack (cb : CallB R s args own index y bytes maxL ret ws rm mc ms n) (hM : vx_Met l y ws rm Pc Qc XC mc ms free) (hbl : FrameBlind Pc) : vx_Back l R p e below s args y 3 8 (PreOf R mc ms Pc) (PostOf Qc mc ms free) (vx_Post XC mc ms free) := by
  obtain ⟨hrc, hrs, hfr, hlo, hws, hcw, -, hini, -⟩ := cb
  exact vx_back (bytes := bytes) (maxL := maxL) (ret := ret) hM hbl hrc hrs hfr hlo hws hcw (fun a' U hW => word_at hW (Or.inl (by first | rfl | simp [Cond.onTables, Cond.keeps, Cond.steady])) hini)
theorem vx_runV (S : CallFix p m c cc nL s args Ts own) (hM : vx_Met l y ws rm Pc Qc XC mc ms free) (cw : CallW R s args own C index y bytes maxL ret ws rm mc ms n) (hp : PreV s H C b Pc As)
    (hg : g.method = m) (hn : As.length = n) (hsize : g.locals.size = nL) (hstack : g.stack = As.reverse ++ .ref b :: rest) (hW : 2 * g.monitorRoom + (rest.map fun v => v.category).sum ≤ 8) (hdg : decode cc g.pc = .ok (.invokevirtual index, 3)) (hf : cells + mc ≤ R.cells ∧ slots + ms ≤ R.slots) :
    vx_Run p l e R s m args below meth c H locs cells slots mc ms g rest (Qc (Value.ref b :: As).toArray) XC free := by
  have hK : vx_Back l R p e below s args y 3 8 (PreOf R mc ms Pc) (PostOf Qc mc ms free) (vx_Post XC mc ms free) := vx_callBack cw.1 hM hp.1
  obtain ⟨⟨-, -, -, -, -, -, hcode, -, hy, hlen, hl⟩, hin, hse⟩ := cw
  obtain ⟨hx, hb, hml, ho, -⟩ := S
  obtain ⟨-, ⟨cellB, hcB, hoB, hclB⟩, hPc⟩ := hp
  intro T hT X
  rcases vx_callV X hx (C := C) (bytes := bytes) (maxL := maxL) (ret := ret) ho hl hin hse hcode hy hK (by rw [hT]; exact hcB) hoB hclB hg (hsize.trans hml.symm) (argsL := As) (rest := rest) (fun sig h => hn.trans (hlen sig h)) hstack hW (by rw [hb]; exact hdg)
    (fun vm₁ hW₁ => ⟨hf.1, hf.2, hPc (T.setVm vm₁) hT hW₁⟩) with ⟨v, vm₁, ⟨U', l2, c2, s2⟩, hW₁, X', ⟨g', mk, t, L, e1, e2, hq, h1, hL, h2, h3⟩, st⟩ | ⟨q, vm₁, ⟨U', l2, c2, s2⟩, hW₁, X', ⟨g', mk, t, L, E, ce, e1, e2, hq, hce, hcv, hcl, h1, hL, h2, h3⟩, st⟩
  · dsimp only [Pt.U, Pt.locs, Pt.cells, Pt.slots] at X' e1 e2 h1 h2 h3 st
    subst h1; subst h2; subst h3
    exact Or.inl ⟨v, (T.setVm vm₁).calling g' mk (Value.ref b :: As).toArray, t, U', L, hT, X', hL, e1, e2, hq, st⟩
  · dsimp only [Pt.U, Pt.locs, Pt.cells, Pt.slots] at X' e1 e2 h1 h2 h3 st hcl
    subst h1; subst h2; subst h3
    exact Or.inr ⟨q, (T.setVm vm₁).calling g' mk (Value.ref b :: As).toArray, t, U', L, E, ce, hT, X', hL, e1, e2, hq, hce, hcv, vx_cls hW₁ hcl, st⟩
theorem vx_runS (S : CallFix p m c cc nL s args Ts own) (hM : vx_Met l y ws rm Pc Qc XC mc ms free) (cw : CallB R s args own index y bytes maxL ret ws rm mc ms n ∧ (Cond.static y).before args s = true) (hp : PreS s H Pc As)
    (hg : g.method = m) (hn : As.length = n) (hsize : g.locals.size = nL) (hstack : g.stack = As.reverse ++ rest) (hW : 2 * g.monitorRoom + (rest.map fun v => v.category).sum ≤ 8) (hdg : decode cc g.pc = .ok (.invokestatic index, 3)) (hf : cells + mc ≤ R.cells ∧ slots + ms ≤ R.slots) :
    vx_Run p l e R s m args below meth c H locs cells slots mc ms g rest (Qc As.toArray) XC free := by
  have hK : vx_Back l R p e below s args y 3 8 (PreOf R mc ms Pc) (PostOf Qc mc ms free) (vx_Post XC mc ms free) := vx_callBack cw.1 hM hp.1
  obtain ⟨⟨-, -, -, -, -, -, hcode, hini, hy, hlen, hl⟩, hstt⟩ := cw
  obtain ⟨hx, hb, hml, ho, -⟩ := S
  intro T hT X
  rcases vx_callS X hx (bytes := bytes) (maxL := maxL) (ret := ret) ho hl hstt hini hcode hy hK hg (hsize.trans hml.symm) (argsL := As) (rest := rest) (fun sig h => hn.trans (hlen sig h)) hstack hW (by rw [hb]; exact hdg)
    (fun vm₁ hW₁ => ⟨hf.1, hf.2, hp.2 (T.setVm vm₁) hT hW₁⟩) with ⟨v, vm₁, ⟨U', l2, c2, s2⟩, hW₁, X', ⟨g', mk, t, L, e1, e2, hq, h1, hL, h2, h3⟩, st⟩ | ⟨q, vm₁, ⟨U', l2, c2, s2⟩, hW₁, X', ⟨g', mk, t, L, E, ce, e1, e2, hq, hce, hcv, hcl, h1, hL, h2, h3⟩, st⟩
  · dsimp only [Pt.U, Pt.locs, Pt.cells, Pt.slots] at X' e1 e2 h1 h2 h3 st
    subst h1; subst h2; subst h3
    exact Or.inl ⟨v, (T.setVm vm₁).calling g' mk As.toArray, t, U', L, hT, X', hL, e1, e2, hq, st⟩
  · dsimp only [Pt.U, Pt.locs, Pt.cells, Pt.slots] at X' e1 e2 h1 h2 h3 st hcl
    subst h1; subst h2; subst h3
    exact Or.inr ⟨q, (T.setVm vm₁).calling g' mk As.toArray, t, U', L, E, ce, hT, X', hL, e1, e2, hq, hce, hcv, vx_cls hW₁ hcl, st⟩
end Runs
section Rows
variable {p : Program} {l : Launch} {e : Env} {R : Room} {s : State} {m : MethodId} {args : Array Value} {below : List Frame} {meth : Method} {c : Code} {H : Heap} {locs : List Loc} {cells slots : Nat} {Q : State → Prop}
variable {mc ms : Nat} {free : Addr → Prop} {A0 A1 : Nat → Prop} {H0 : Heap} {a : Array Value} {pc : Nat} {ls : Array Slot} {st0 rest : List Value}
theorem vx_keep {st₀ t T' : State} {L : List Loc} (h0 : st₀.heap = H) (e1 : T'.heap = t.heap) (hS : va_S A0 H0 H locs) (hA : ∀ q, q < H.size → A1 q → A0 q) (hf : ∀ q, free q → A0 q) (hL : ∀ q ∈ L, free q.base) (hF : va_F A1 st₀ t) :
    H.size ≤ T'.heap.size ∧ (∀ q : Nat, q < H.size → ¬ A1 q → T'.heap[q]? = H[q]?) ∧ va_S A0 H0 T'.heap (locs ++ L) := by
  obtain ⟨hz, hk⟩ := hF
  rw [h0] at hz hk
  exact ⟨by rw [e1]; exact hz, fun q h1 h2 => by rw [e1]; exact hk q h1 h2,
    ⟨Nat.le_trans hS.1 (by rw [e1]; exact hz), fun q h1 h2 => by rw [e1, hk q (Nat.lt_of_lt_of_le h1 hS.1) (fun z => h2 (hA q (Nat.lt_of_lt_of_le h1 hS.1) z))]; exact hS.2.1 q h1 h2, fun q hq => by
      rcases List.mem_append.mp hq with h | h
      · exact hS.2.2 q h
      · exact hf _ (hL q h)⟩⟩
theorem vx_calli {S SX : Type} {post : Int32 → S → Prop} {px : SX → Prop} {B : S → State → Prop} {BX : String → SX → State → Prop} {AX : Nat → Prop} (hr : vx_Run p l e R s m args below meth c H locs cells slots mc ms (F0 m pc ls st0) rest (va_Qi post B A1 a) (vx_X px BX AX) free) (hS : va_S A0 H0 H locs) (hA : ∀ q, q < H.size → A1 q → A0 q) (hf : ∀ q, free q → A0 q) (hAX : ∀ q, q < H.size → AX q → A0 q)
    (kx : ∀ (E : String) (ce : Cell) (q9 : Addr) (u : SX) (t : State) (H1 : Heap) (locs1 : List Loc), t.heap = H1 → s.vm.Alike t.vm → px u → BX E u t → H.size ≤ H1.size → (∀ q : Nat, q < H.size → ¬ AX q → H1[q]? = H[q]?) → va_S A0 H0 H1 locs1 → H1[q9]? = some ce → ce.vm = .none → s.vm.findClass E = some ce.cls → vx_W p l e R s m args below meth c H1 locs1 (cells + mc) (slots + ms) Q (F0 m pc ls rest) q9)
    (kk : ∀ (r : Int32) (u : S) (t : State) (H1 : Heap) (locs1 : List Loc), t.heap = H1 → s.vm.Alike t.vm → post r u → B u t → H.size ≤ H1.size → (∀ q : Nat, q < H.size → ¬ A1 q → H1[q]? = H[q]?) → va_S A0 H0 H1 locs1 → W p l e R s m args below meth c H1 locs1 (cells + mc) (slots + ms) Q (F0 m (pc + 3) ls (.int r :: rest))) : W p l e R s m args below meth c H locs cells slots Q (F0 m pc ls st0) := by
  intro T hT X
  rcases hr T hT X with ⟨v, st₀, t, T', L, h0, X', hL, e1, e2, ⟨⟨r, u, hv, hp, hb⟩, hF⟩, st⟩ | ⟨q, st₀, t, T', L, E, ce, h0, X', hL, e1, e2, ⟨u, hp, hb, hF⟩, hce, hcv, hcl, st⟩
  · cases hv
    obtain ⟨k1, k2, k3⟩ := vx_keep h0 e1 hS hA hf hL hF
    obtain ⟨t2, a1, b1⟩ := kk r u t T'.heap (locs ++ L) e1.symm (by rw [← e2]; exact X'.warmed.alike) hp hb k1 k2 k3 T' rfl X'
    exact ⟨t2, st t2 a1, b1⟩
  · obtain ⟨k1, k2, k3⟩ := vx_keep h0 e1 hS hAX hf hL hF
    obtain ⟨t2, a1, b1⟩ := kx E ce q u t T'.heap (locs ++ L) e1.symm (by rw [← e2]; exact X'.warmed.alike) hp hb k1 k2 k3 (by rw [e1]; exact hce) hcv hcl T' rfl X'
    exact ⟨t2, st.trans a1, b1⟩
theorem vx_calll {S SX : Type} {post : Int64 → S → Prop} {px : SX → Prop} {B : S → State → Prop} {BX : String → SX → State → Prop} {AX : Nat → Prop} (hr : vx_Run p l e R s m args below meth c H locs cells slots mc ms (F0 m pc ls st0) rest (va_Ql post B A1 a) (vx_X px BX AX) free) (hS : va_S A0 H0 H locs) (hA : ∀ q, q < H.size → A1 q → A0 q) (hf : ∀ q, free q → A0 q) (hAX : ∀ q, q < H.size → AX q → A0 q)
    (kx : ∀ (E : String) (ce : Cell) (q9 : Addr) (u : SX) (t : State) (H1 : Heap) (locs1 : List Loc), t.heap = H1 → s.vm.Alike t.vm → px u → BX E u t → H.size ≤ H1.size → (∀ q : Nat, q < H.size → ¬ AX q → H1[q]? = H[q]?) → va_S A0 H0 H1 locs1 → H1[q9]? = some ce → ce.vm = .none → s.vm.findClass E = some ce.cls → vx_W p l e R s m args below meth c H1 locs1 (cells + mc) (slots + ms) Q (F0 m pc ls rest) q9)
    (kk : ∀ (r : Int64) (u : S) (t : State) (H1 : Heap) (locs1 : List Loc), t.heap = H1 → s.vm.Alike t.vm → post r u → B u t → H.size ≤ H1.size → (∀ q : Nat, q < H.size → ¬ A1 q → H1[q]? = H[q]?) → va_S A0 H0 H1 locs1 → W p l e R s m args below meth c H1 locs1 (cells + mc) (slots + ms) Q (F0 m (pc + 3) ls (.long r :: rest))) : W p l e R s m args below meth c H locs cells slots Q (F0 m pc ls st0) := by
  intro T hT X
  rcases hr T hT X with ⟨v, st₀, t, T', L, h0, X', hL, e1, e2, ⟨⟨r, u, hv, hp, hb⟩, hF⟩, st⟩ | ⟨q, st₀, t, T', L, E, ce, h0, X', hL, e1, e2, ⟨u, hp, hb, hF⟩, hce, hcv, hcl, st⟩
  · cases hv
    obtain ⟨k1, k2, k3⟩ := vx_keep h0 e1 hS hA hf hL hF
    obtain ⟨t2, a1, b1⟩ := kk r u t T'.heap (locs ++ L) e1.symm (by rw [← e2]; exact X'.warmed.alike) hp hb k1 k2 k3 T' rfl X'
    exact ⟨t2, st t2 a1, b1⟩
  · obtain ⟨k1, k2, k3⟩ := vx_keep h0 e1 hS hAX hf hL hF
    obtain ⟨t2, a1, b1⟩ := kx E ce q u t T'.heap (locs ++ L) e1.symm (by rw [← e2]; exact X'.warmed.alike) hp hb k1 k2 k3 (by rw [e1]; exact hce) hcv hcl T' rfl X'
    exact ⟨t2, st.trans a1, b1⟩
theorem vx_callf {S SX : Type} {post : UInt32 → S → Prop} {px : SX → Prop} {B : S → State → Prop} {BX : String → SX → State → Prop} {AX : Nat → Prop} (hr : vx_Run p l e R s m args below meth c H locs cells slots mc ms (F0 m pc ls st0) rest (va_Qf post B A1 a) (vx_X px BX AX) free) (hS : va_S A0 H0 H locs) (hA : ∀ q, q < H.size → A1 q → A0 q) (hf : ∀ q, free q → A0 q) (hAX : ∀ q, q < H.size → AX q → A0 q)
    (kx : ∀ (E : String) (ce : Cell) (q9 : Addr) (u : SX) (t : State) (H1 : Heap) (locs1 : List Loc), t.heap = H1 → s.vm.Alike t.vm → px u → BX E u t → H.size ≤ H1.size → (∀ q : Nat, q < H.size → ¬ AX q → H1[q]? = H[q]?) → va_S A0 H0 H1 locs1 → H1[q9]? = some ce → ce.vm = .none → s.vm.findClass E = some ce.cls → vx_W p l e R s m args below meth c H1 locs1 (cells + mc) (slots + ms) Q (F0 m pc ls rest) q9)
    (kk : ∀ (r : UInt32) (u : S) (t : State) (H1 : Heap) (locs1 : List Loc), t.heap = H1 → s.vm.Alike t.vm → post r u → B u t → H.size ≤ H1.size → (∀ q : Nat, q < H.size → ¬ A1 q → H1[q]? = H[q]?) → va_S A0 H0 H1 locs1 → W p l e R s m args below meth c H1 locs1 (cells + mc) (slots + ms) Q (F0 m (pc + 3) ls (.float r :: rest))) : W p l e R s m args below meth c H locs cells slots Q (F0 m pc ls st0) := by
  intro T hT X
  rcases hr T hT X with ⟨v, st₀, t, T', L, h0, X', hL, e1, e2, ⟨⟨r, u, hv, hp, hb⟩, hF⟩, st⟩ | ⟨q, st₀, t, T', L, E, ce, h0, X', hL, e1, e2, ⟨u, hp, hb, hF⟩, hce, hcv, hcl, st⟩
  · cases hv
    obtain ⟨k1, k2, k3⟩ := vx_keep h0 e1 hS hA hf hL hF
    obtain ⟨t2, a1, b1⟩ := kk r u t T'.heap (locs ++ L) e1.symm (by rw [← e2]; exact X'.warmed.alike) hp hb k1 k2 k3 T' rfl X'
    exact ⟨t2, st t2 a1, b1⟩
  · obtain ⟨k1, k2, k3⟩ := vx_keep h0 e1 hS hAX hf hL hF
    obtain ⟨t2, a1, b1⟩ := kx E ce q u t T'.heap (locs ++ L) e1.symm (by rw [← e2]; exact X'.warmed.alike) hp hb k1 k2 k3 (by rw [e1]; exact hce) hcv hcl T' rfl X'
    exact ⟨t2, st.trans a1, b1⟩
theorem vx_calld {S SX : Type} {post : UInt64 → S → Prop} {px : SX → Prop} {B : S → State → Prop} {BX : String → SX → State → Prop} {AX : Nat → Prop} (hr : vx_Run p l e R s m args below meth c H locs cells slots mc ms (F0 m pc ls st0) rest (va_Qd post B A1 a) (vx_X px BX AX) free) (hS : va_S A0 H0 H locs) (hA : ∀ q, q < H.size → A1 q → A0 q) (hf : ∀ q, free q → A0 q) (hAX : ∀ q, q < H.size → AX q → A0 q)
    (kx : ∀ (E : String) (ce : Cell) (q9 : Addr) (u : SX) (t : State) (H1 : Heap) (locs1 : List Loc), t.heap = H1 → s.vm.Alike t.vm → px u → BX E u t → H.size ≤ H1.size → (∀ q : Nat, q < H.size → ¬ AX q → H1[q]? = H[q]?) → va_S A0 H0 H1 locs1 → H1[q9]? = some ce → ce.vm = .none → s.vm.findClass E = some ce.cls → vx_W p l e R s m args below meth c H1 locs1 (cells + mc) (slots + ms) Q (F0 m pc ls rest) q9)
    (kk : ∀ (r : UInt64) (u : S) (t : State) (H1 : Heap) (locs1 : List Loc), t.heap = H1 → s.vm.Alike t.vm → post r u → B u t → H.size ≤ H1.size → (∀ q : Nat, q < H.size → ¬ A1 q → H1[q]? = H[q]?) → va_S A0 H0 H1 locs1 → W p l e R s m args below meth c H1 locs1 (cells + mc) (slots + ms) Q (F0 m (pc + 3) ls (.double r :: rest))) : W p l e R s m args below meth c H locs cells slots Q (F0 m pc ls st0) := by
  intro T hT X
  rcases hr T hT X with ⟨v, st₀, t, T', L, h0, X', hL, e1, e2, ⟨⟨r, u, hv, hp, hb⟩, hF⟩, st⟩ | ⟨q, st₀, t, T', L, E, ce, h0, X', hL, e1, e2, ⟨u, hp, hb, hF⟩, hce, hcv, hcl, st⟩
  · cases hv
    obtain ⟨k1, k2, k3⟩ := vx_keep h0 e1 hS hA hf hL hF
    obtain ⟨t2, a1, b1⟩ := kk r u t T'.heap (locs ++ L) e1.symm (by rw [← e2]; exact X'.warmed.alike) hp hb k1 k2 k3 T' rfl X'
    exact ⟨t2, st t2 a1, b1⟩
  · obtain ⟨k1, k2, k3⟩ := vx_keep h0 e1 hS hAX hf hL hF
    obtain ⟨t2, a1, b1⟩ := kx E ce q u t T'.heap (locs ++ L) e1.symm (by rw [← e2]; exact X'.warmed.alike) hp hb k1 k2 k3 (by rw [e1]; exact hce) hcv hcl T' rfl X'
    exact ⟨t2, st.trans a1, b1⟩
theorem vx_callv {S SX : Type} {post : S → Prop} {px : SX → Prop} {B : S → State → Prop} {BX : String → SX → State → Prop} {AX : Nat → Prop} (hr : vx_Run p l e R s m args below meth c H locs cells slots mc ms (F0 m pc ls st0) rest (va_Qv post B A1 a) (vx_X px BX AX) free) (hS : va_S A0 H0 H locs) (hA : ∀ q, q < H.size → A1 q → A0 q) (hf : ∀ q, free q → A0 q) (hAX : ∀ q, q < H.size → AX q → A0 q)
    (kx : ∀ (E : String) (ce : Cell) (q9 : Addr) (u : SX) (t : State) (H1 : Heap) (locs1 : List Loc), t.heap = H1 → s.vm.Alike t.vm → px u → BX E u t → H.size ≤ H1.size → (∀ q : Nat, q < H.size → ¬ AX q → H1[q]? = H[q]?) → va_S A0 H0 H1 locs1 → H1[q9]? = some ce → ce.vm = .none → s.vm.findClass E = some ce.cls → vx_W p l e R s m args below meth c H1 locs1 (cells + mc) (slots + ms) Q (F0 m pc ls rest) q9)
    (kk : ∀ (u : S) (t : State) (H1 : Heap) (locs1 : List Loc), t.heap = H1 → s.vm.Alike t.vm → post u → B u t → H.size ≤ H1.size → (∀ q : Nat, q < H.size → ¬ A1 q → H1[q]? = H[q]?) → va_S A0 H0 H1 locs1 → W p l e R s m args below meth c H1 locs1 (cells + mc) (slots + ms) Q (F0 m (pc + 3) ls (rest))) : W p l e R s m args below meth c H locs cells slots Q (F0 m pc ls st0) := by
  intro T hT X
  rcases hr T hT X with ⟨v, st₀, t, T', L, h0, X', hL, e1, e2, ⟨⟨u, hv, hp, hb⟩, hF⟩, st⟩ | ⟨q, st₀, t, T', L, E, ce, h0, X', hL, e1, e2, ⟨u, hp, hb, hF⟩, hce, hcv, hcl, st⟩
  · cases hv
    obtain ⟨k1, k2, k3⟩ := vx_keep h0 e1 hS hA hf hL hF
    obtain ⟨t2, a1, b1⟩ := kk u t T'.heap (locs ++ L) e1.symm (by rw [← e2]; exact X'.warmed.alike) hp hb k1 k2 k3 T' rfl X'
    exact ⟨t2, st t2 a1, b1⟩
  · obtain ⟨k1, k2, k3⟩ := vx_keep h0 e1 hS hAX hf hL hF
    obtain ⟨t2, a1, b1⟩ := kx E ce q u t T'.heap (locs ++ L) e1.symm (by rw [← e2]; exact X'.warmed.alike) hp hb k1 k2 k3 (by rw [e1]; exact hce) hcv hcl T' rfl X'
    exact ⟨t2, st.trans a1, b1⟩
/-- caught by the row x of this method's table; the rows ahead don't take it -/
theorem vx_catch {own name : String} {E : String} {ce : Cell} {q : Addr} (hown : s.vm.findClass own = some m.cls) (pre : List ExceptionTableEntry) (x : ExceptionTableEntry) (suf : List ExceptionTableEntry) (hsplit : c.exceptionTable.toList = pre ++ x :: suf)
    (hpass : ∀ z ∈ pre, covers z pc = false ∨ (z.catchType ≠ 0 ∧ ∃ nm : String, (Cond.classLink own z.catchType nm).before args s = true ∧ va_Nc E nm s)) (hx : covers x pc = true) (h0 : x.catchType ≠ 0)
    (hlink : (Cond.classLink own x.catchType name).before args s = true) (hcast : (Cond.castable E name).before args s = true) (hcell : H[q]? = some ce) (hv : ce.vm = .none) (hcl : s.vm.findClass E = some ce.cls)
    (kk : W p l e R s m args below meth c H locs cells slots Q (F0 m x.handlerPc ls [.ref q])) : vx_W p l e R s m args below meth c H locs cells slots Q (F0 m pc ls rest) q := by
  intro T hT X
  have hpl : e.platform.magicAccessors = ({} : Platform).magicAccessors := by rw [X.admits.platform]
  obtain ⟨c3, c4, hc3, hc4, hasg⟩ := Cond.castable_spec hcast
  cases Option.some.inj (hc3.symm.trans hcl)
  obtain ⟨c5, hc5, hcl5⟩ := Cond.classLink_spec hown hlink e.platform hpl
  cases Option.some.inj (hc4.symm.trans hc5)
  obtain ⟨vm', X', st⟩ := X.thenCaughtThrough q (g := F0 m pc ls rest) rfl (Steps.refl _) (by rw [hT]; exact hcell) (by rw [hv]; rfl) (by obtain ⟨k9, h9, -⟩ := Vm.findClass_spec hcl; exact ⟨k9, h9⟩) pre x suf hsplit
    (fun z hz => by
      rcases hpass z hz with h | ⟨hz0, nm, hl1, hn1⟩
      · exact Or.inl h
      · obtain ⟨c6, hc6, hcl6⟩ := Cond.classLink_spec hown hl1 e.platform hpl
        obtain ⟨a8, b8, h1, h2, h3⟩ := hn1
        cases Option.some.inj (h1.symm.trans hcl)
        cases Option.some.inj (h2.symm.trans hc6)
        exact Or.inr ⟨hz0, _, hcl6, h3⟩) hx (Or.inr ⟨h0, c4, hcl5, hasg⟩)
  obtain ⟨t, a1, b1⟩ := kk (T.setVm vm') hT X'
  exact ⟨t, st.trans a1, b1⟩
end Rows
section Ends
variable {p : Program} {l : Launch} {e : Env} {R : Room} {s : State} {m : MethodId} {args : Array Value} {below : List Frame} {meth : Method} {c : Code} {H : Heap} {locs : List Loc} {cells slots : Nat} {Q : State → Prop}
variable {mc ms : Nat} {free : Addr → Prop} {A0 A1 : Nat → Prop} {H0 : Heap} {a : Array Value} {ls : Array Slot} {st0 rest : List Value}
variable {Qc : Array Value → State → Outcome → State → Prop} {XC : String → State → State → Prop}
/-- what a body that may throw owes at its end -/
def vx_MQ (below : List Frame) (Qc : Array Value → State → Outcome → State → Prop) (XC : String → State → State → Prop) (a : Array Value) (s : State) (mc ms : Nat) (free : Addr → Prop) : State → Prop := fun t =>
  ∃ o, t.status = .running ∧ Ended t below o ∧ vx_Q Qc XC mc ms free a s o t
theorem vx_ret {g : JFrame} {mc ms : Nat} (k : W p l e R s m args below meth c H locs cells slots (MQ below Qc args s mc ms free) g) : W p l e R s m args below meth c H locs cells slots (vx_MQ below Qc XC args s mc ms free) g := by
  intro T hT X
  obtain ⟨t, a1, o, b1, b2, b3, b4⟩ := k T hT X
  exact ⟨t, a1, o, b1, b2, Or.inl ⟨b3, b4⟩⟩
/-- not caught here: it goes on to the caller -/
theorem vx_widen {g : JFrame} {q : Addr} {k n : Nat} (h1 : cells ≤ k) (h2 : slots ≤ n) (kk : vx_W p l e R s m args below meth c H locs k n Q g q) : vx_W p l e R s m args below meth c H locs cells slots Q g q := fun T hT X => kk T hT (stand_widen X h1 h2)
theorem vx_out {pc : Nat} {E : String} {ce : Cell} {q : Addr} {mc ms : Nat} (hout : ∀ x ∈ c.exceptionTable.toList, covers x pc = false) (hlocks : meth.locks = false) (hcell : H[q]? = some ce) (hv : ce.vm = .none) (hcl : s.vm.findClass E = some ce.cls)
    (hx : ∀ t : State, t.heap = H → s.vm.Alike t.vm → XC E s t) (hf : ∀ z ∈ locs, free z.base) (hc : cells ≤ mc) (hs : slots ≤ ms) :
    vx_W p l e R s m args below meth c H locs cells slots (vx_MQ below Qc XC args s mc ms free) (F0 m pc ls rest) q := by
  intro T hT X
  obtain ⟨st1, hrun, hend, hW, hsm⟩ := X.leaveThrown q (g := F0 m pc ls rest) rfl rfl rfl hout hlocks
  have hcell9 : (T.setFrames (.throwing q :: below)).heap[q]? = some ce := by
    show T.heap[q]? = some ce
    rw [hT]; exact hcell
  exact ⟨_, st1, .threw q, hrun, hend, Or.inr ⟨q, rfl, E, ce, locs, hx _ hT hW.alike, hcell9, hv, hcl, hW, hsm.mono hc hs, hf⟩⟩
theorem vx_frame {U : State} {k n : Nat} (h : s.sameButNew ({ U with vm := s.vm } : State) locs k n) : s.heap.size ≤ U.heap.size ∧ ∀ q : Nat, q < s.heap.size → (∀ z ∈ locs, z.base ≠ q) → U.heap[q]? = s.heap[q]? := by
  obtain ⟨-, h2, -, -, -, h6⟩ := h
  refine ⟨h2, fun q hq hz => ?_⟩
  obtain ⟨c9, e1, e2, e3, e4⟩ := h6 q _ (Array.getElem?_eq_getElem hq)
  have hs : c9.slots = (s.heap[q]).slots := Array.ext_getElem? fun i => e4 i fun hm => hz _ hm rfl
  have h9 : c9 = s.heap[q] := by
    rw [hs] at e2
    exact e2
  have e5 : U.heap[q]? = some c9 := e1
  rw [e5, h9, Array.getElem?_eq_getElem hq]
/-- the words of a throw but the four that speak of the heap -/
def vx_no (w : Cond) : Bool := decide (w ≠ .isRef (.static Bundle.tN "UNASSIGNED_STACK" Bundle.steD)) && decide (w ≠ .isRef (.static Bundle.tN "SUPPRESSED_SENTINEL" Bundle.listD)) && decide (w ≠ .laysStatic Bundle.tN "UNASSIGNED_STACK" Bundle.steD) && decide (w ≠ .laysStatic Bundle.tN "SUPPRESSED_SENTINEL" Bundle.listD)
def vx_at0 (own : String) (ic : Nat) (X : String) (names : List String) : List Cond := (Bundle.ownAtoms0 own ic X names).filter vx_no
def vx_atS (own : String) (ic : Nat) (X : String) (names : List String) : List Cond := (Bundle.ownAtoms own ic X names).filter vx_no
/-- a word that the tables alone decide, or a good one -/
def vx_ot (w : Cond) : Bool := w.onTables || goodWord w
theorem vx_ot_at {args a' : Array Value} {s U : State} {w : Cond} (hW : s.WarmedH U.vm) (hvm : s.vm = U.vm) (hg : vx_ot w = true) (h : w.before args s = true) : w.before a' U = true := by
  simp only [vx_ot, Bool.or_eq_true] at hg
  rcases hg with hg | hg
  · exact va_tabs hg hvm h
  · exact word_at hW (good_of_word hg) h
/-- a list's words: the good ones out of the method's own list, the others by premises of their own -/
theorem vx_hat {args : Array Value} {s : State} {L B : List Cond} (h1 : ∀ w ∈ L.filter goodWord, w.before args s = true) (h2 : ∀ w ∈ L.filter (fun w => !goodWord w), w ∈ B) (h3 : ∀ w ∈ B, w.before args s = true) : ∀ w ∈ L, w.before args s = true := by
  intro w hw
  by_cases g : goodWord w = true
  · exact h1 w (List.mem_filter.mpr ⟨hw, g⟩)
  · refine h3 w (h2 w (List.mem_filter.mpr ⟨hw, ?_⟩))
    show (!goodWord w) = true
    cases hgw : goodWord w
    · rfl
    · exact absurd hgw g
theorem vx_c {args : Array Value} {s : State} {w : Cond} {B : List Cond} (h : w.before args s = true) (t : ∀ w ∈ B, w.before args s = true) : ∀ w' ∈ w :: B, w'.before args s = true := fun w' h' => (List.mem_cons.mp h').elim (fun e => by rw [e]; exact h) (t w')
theorem vx_n {args : Array Value} {s : State} : ∀ w ∈ ([] : List Cond), w.before args s = true := fun _ h => nomatch h
theorem vx_own {args : Array Value} {s : State} {L : List Cond} (h1 : ∀ w ∈ L.filter vx_no, w.before args s = true)
    (hU : (Cond.isRef (.static Bundle.tN "UNASSIGNED_STACK" Bundle.steD)).before args s = true) (hN : (Cond.isRef (.static Bundle.tN "SUPPRESSED_SENTINEL" Bundle.listD)).before args s = true)
    (lU : (Cond.laysStatic Bundle.tN "UNASSIGNED_STACK" Bundle.steD).before args s = true) (lN : (Cond.laysStatic Bundle.tN "SUPPRESSED_SENTINEL" Bundle.listD).before args s = true) : ∀ w ∈ L, w.before args s = true := by
  intro w hw
  by_cases e1 : w = .isRef (.static Bundle.tN "UNASSIGNED_STACK" Bundle.steD)
  · rw [e1]; exact hU
  · by_cases e2 : w = .isRef (.static Bundle.tN "SUPPRESSED_SENTINEL" Bundle.listD)
    · rw [e2]; exact hN
    · by_cases e3 : w = .laysStatic Bundle.tN "UNASSIGNED_STACK" Bundle.steD
      · rw [e3]; exact lU
      · by_cases e4 : w = .laysStatic Bundle.tN "SUPPRESSED_SENTINEL" Bundle.listD
        · rw [e4]; exact lN
        · exact h1 w (List.mem_filter.mpr ⟨hw, by unfold vx_no; rw [decide_eq_true e1, decide_eq_true e2, decide_eq_true e3, decide_eq_true e4]; rfl⟩)
/-- where a static field lies, its class's statics cell in H -/
def vx_L (C n d : String) (A : Nat → Prop) (U : State) (H : Heap) : Prop := ∃ (c : ClassId) (k : Class) (i : Nat) (f : Field) (a : Nat) (cell : Cell), U.vm.findClass C = some c ∧ U.fieldFound? C n d = some (c, k, i, f) ∧ f.isStatic = true ∧ k.statics = some a ∧ H[a]? = some cell ∧ cell.vm.isStatics = true ∧ cell.cls = c ∧ f.slot < cell.slots.size ∧ k.staticTypes[f.slot]? = some f.type ∧ ¬ A a
theorem vx_L.moved {C n d : String} {A : Nat → Prop} {u U : State} {H : Heap} (hvm : u.vm.Alike U.vm) (h : vx_L C n d A u H) : vx_L C n d A U H := by
  obtain ⟨c, k, i, f, a, cell, h1, h2, h3, h4, h5, h6, h7, h8, h9, h10⟩ := h
  obtain ⟨k', hi', he⟩ := State.fieldFound?_setVm hvm h2
  exact ⟨c, k', i, f, a, cell, by rw [hvm.findClass]; exact h1, hi', h3, by rw [he]; exact h4, h5, h6, h7, h8, by rw [he]; exact h9, h10⟩
theorem vx_L.kept {C n d : String} {A : Nat → Prop} {U : State} {H H1 : Heap} (h : vx_L C n d A U H) (hq : ∀ a : Nat, a < H.size → ¬ A a → H1[a]? = H[a]?) : vx_L C n d A U H1 := by
  obtain ⟨c, k, i, f, a, cell, h1, h2, h3, h4, h5, h6, h7, h8, h9, h10⟩ := h
  exact ⟨c, k, i, f, a, cell, h1, h2, h3, h4, by rw [hq a (Array.getElem?_eq_some_iff.mp h5).1 h10]; exact h5, h6, h7, h8, h9, h10⟩
theorem vx_L.narrow {C n d : String} {A B : Nat → Prop} {U : State} {H : Heap} (h : vx_L C n d A U H) (hAB : ∀ q, B q → A q) : vx_L C n d B U H := by
  obtain ⟨c, k, i, f, a, cell, h1, h2, h3, h4, h5, h6, h7, h8, h9, h10⟩ := h
  exact ⟨c, k, i, f, a, cell, h1, h2, h3, h4, h5, h6, h7, h8, h9, fun z => h10 (hAB _ z)⟩
theorem vx_L.word {C n d : String} {A : Nat → Prop} {s : State} {args : Array Value} (h : vx_L C n d A s s.heap) : (Cond.laysStatic C n d).before args s = true := by
  obtain ⟨c, k, i, f, a, cell, h1, h2, h3, h4, h5, h6, h7, h8, h9, -⟩ := h
  show (Cond.laysStatic C n d).holds args s none s [] = true
  exact Cond.laysStatic_of h1 h2 h3 h4 h5 h6 h7 h8 h9
/-- .. and what it holds: null or some reference -/
def vx_Zq (C n d : String) (A : Nat → Prop) (U : State) (H : Heap) : Prop := va_Zq C n d A U H ∧ vx_L C n d A U H
theorem vx_Zq.moved {C n d : String} {A : Nat → Prop} {u U : State} {H : Heap} (hvm : u.vm.Alike U.vm) (h : vx_Zq C n d A u H) : vx_Zq C n d A U H := ⟨va_Zq.moved hvm h.1, vx_L.moved hvm h.2⟩
theorem vx_Zq.kept {C n d : String} {A : Nat → Prop} {U : State} {H H1 : Heap} (h : vx_Zq C n d A U H) (hq : ∀ a : Nat, a < H.size → ¬ A a → H1[a]? = H[a]?) : vx_Zq C n d A U H1 := ⟨va_Zq.kept h.1 hq, vx_L.kept h.2 hq⟩
theorem vx_Zq.narrow {C n d : String} {A B : Nat → Prop} {U : State} {H : Heap} (h : vx_Zq C n d A U H) (hAB : ∀ q, B q → A q) : vx_Zq C n d B U H := ⟨va_Zq.narrow h.1 hAB, vx_L.narrow h.2 hAB⟩
theorem vx_Zqof {args : Array Value} {s : State} {C n d : String} {A : Nat → Prop} (hl : (Cond.laysStatic C n d).before args s = true) (hini : (Cond.initialized C).before args s = true) (h : (Cond.isRef (.static C n d)).before args s = true) (hA : ∀ a : Nat, a < s.heap.size → ¬ A a) : vx_Zq C n d A s s.heap := by
  refine ⟨va_Zqof hl hini h hA, ?_⟩
  obtain ⟨c, k, i, f, a, cell, h1, h2, h3, h4, h5, h6, h7, h8, h9⟩ := Cond.laysStatic_spec hl
  exact ⟨c, k, i, f, a, cell, h1, h2, h3, h4, h5, h6, h7, h8, h9, hA a (Array.getElem?_eq_some_iff.mp h5).1⟩
theorem vx_isRef {C n d : String} {v : Value} {A : Nat → Prop} {s : State} {args : Array Value} (h : va_Z C n d v A s s.heap) (hv : v.isRef = true) : (Cond.isRef (.static C n d)).before args s = true := by
  obtain ⟨cf, kf, fi, f, a, cell, h1, h2, h3, h4, h5, h6, h7, -⟩ := h
  have he : (Term.static C n d).eval args s none [] s = some v := by
    simp [Term.eval, State.fieldNamed?, h1, h2, h4, h5, h6, h7]
  simp only [Cond.before, Cond.holds, Cond.value, he]
  cases v <;> simp_all [Value.isRef]
theorem vx_isRefq {C n d : String} {A : Nat → Prop} {s : State} {args : Array Value} (h : va_Zq C n d A s s.heap) : (Cond.isRef (.static C n d)).before args s = true := by
  rcases h with h | ⟨t, h⟩
  · exact vx_isRef h rfl
  · exact vx_isRef h rfl
/-- the same frame, seen from here: as if the method were called anew in this heap -/
theorem vx_rebase {T : State} (X : Stand p l e R s m args below meth c T locs cells slots) {R' : Room} (hf : R'.frames ≤ R.frames) (hl : R'.locals ≤ R.locals) (hc : cells + R'.cells ≤ R.cells) (hs : slots + R'.slots ≤ R.slots) :
    Stand p l e R' ((T.setVm s.vm).setFrames (.invoking m args :: below)) m args below meth c T [] 0 0 := by
  have htop : (T.setVm s.vm).topJava?.isSome := X.here.top
  have hF : ((T.setVm s.vm).setFrames (.invoking m args :: below)).frames = .invoking m args :: below := State.frames_setFrames _ (State.cur_lt_of_top htop)
  obtain ⟨g₀, hg0⟩ := Option.isSome_iff_exists.mp htop
  obtain ⟨r, hr⟩ := State.topJava?_eq_some.mp hg0
  have hl9 : e.platform.stackLimits (T.setVm s.vm).me = e.platform.stackLimits s.me := X.limits
  have hb9 : (T.setVm s.vm).me.stackBytes = s.me.stackBytes := X.bytes
  refine ⟨X.admits, X.cas, X.clock, hF, ?_, X.hears, X.method, X.code, X.here, X.tail, X.warmed, ?_, ?_, ?_⟩
  · have h := X.room
    have hU : ((T.setVm s.vm).setFrames (.invoking m args :: below)).localsInUse = s.localsInUse := by
      rw [State.localsInUse_invoking hF (meth := meth) (c := c) X.method X.code, State.localsInUse_invoking X.frames X.method X.code]
    simp only [State.hasRoom, Bool.and_eq_true, decide_eq_true_eq] at h ⊢
    obtain ⟨⟨⟨⟨h1, h2, h3, h4, h5, h6⟩, h7⟩, h8⟩, h9⟩ := h
    rw [X.frames, List.length_cons] at h2 h3
    have q1 := X.heapSize
    have q2 := X.used
    simp only [hF, hU, List.length_cons, State.stackLimits_setFrames, State.stackBytes_setFrames, hl9, hb9]
    refine ⟨⟨⟨⟨by omega, by omega, by omega, by omega, by omega, h6⟩, ?_⟩, ?_⟩, X.book⟩
    · show T.heap.size + R'.cells ≤ e.platform.maxCells
      omega
    · show T.slotsUsed + R'.slots ≤ e.platform.maxSlots
      omega
  · rw [State.stackLimits_setFrames]; rfl
  · rw [State.stackBytes_setFrames]; rfl
  · refine ⟨?_, Nat.le_refl _, Nat.le_refl _, ?_, ?_, fun a c9 h9 => ⟨c9, h9, rfl, rfl, fun _ _ => rfl⟩⟩
    · obtain ⟨t, ht, -⟩ := State.frames_cons hr
      show T.setVm s.vm = { ((T.setVm s.vm).setFrames (.invoking m args :: below)).setFrames (T.setVm s.vm).frames with heap := T.heap, slotsUsed := T.slotsUsed }
      rw [State.setFrames_setFrames, State.setFrames_self ht]
      rfl
    · show T.slotsUsed = T.slotsUsed + ((T.heap.toList.drop T.heap.size).map (·.slots.size)).sum
      rw [List.drop_eq_nil_of_le (Nat.le_of_eq Array.length_toList)]
      rfl
    · show ((T.heap.toList.drop T.heap.size).map (·.slots.size)).sum ≤ 0
      rw [List.drop_eq_nil_of_le (Nat.le_of_eq Array.length_toList)]
      exact Nat.le_refl _
/-- 'throw new E()': new; dup; invokespecial; athrow -/
theorem vx_throw0 {cc : ByteArray} {pc : Nat} (hexec : p.tables.exec = Jvm.exec) (hb : c.code = cc) (hl : l.stackTraces = false) {own cls : String} {names : List String} {ik ic mc ms : Nat} {A : Nat → Prop}
    (hown : s.vm.findClass own = some m.cls) (hcls : Bundle.fit cls = true) (hnames : ∀ n ∈ names, Bundle.fit n = true)
    (hk : (Cond.classLink own ik cls).before args s = true) (hini : (Cond.initialized cls).before args s = true) (hat : ∀ w ∈ vx_at0 own ic cls names, w.before args s = true)
    (hgood : ∀ w ∈ Cond.classLink own ik cls :: Cond.initialized cls :: vx_at0 own ic cls names, vx_ot w = true)
    (hU : vx_Zq Bundle.tN "UNASSIGNED_STACK" Bundle.steD A s s.heap) (hN : vx_Zq Bundle.tN "SUPPRESSED_SENTINEL" Bundle.listD A s s.heap) (hS : va_S A s.heap H locs) (hsize : ls.size = c.maxLocals)
    (d0 : decode cc pc = .ok (.new ik, 3)) (d3 : decode cc (pc + 3) = .ok (.dup, 1)) (d4 : decode cc (pc + 4) = .ok (.invokespecial ic, 3)) (d7 : decode cc (pc + 7) = .ok (.athrow, 1))
    (hout : ∀ x ∈ c.exceptionTable.toList, covers x (pc + 7) = false)
    (hRframes : names.length + 3 < R.frames) (hRlocals : (rest.map fun v => v.category).sum + (13 * (names.length + 1) + 42) ≤ R.locals) (hRcells : cells + 1 ≤ R.cells) (hRslots : slots + 6 ≤ R.slots) (hlocks : meth.locks = false)
    (hx : ∀ t : State, s.vm.Alike t.vm → H.size ≤ t.heap.size → (∀ q : Nat, q < H.size → t.heap[q]? = H[q]?) → XC cls s t)
    (hf : ∀ z ∈ locs, free z.base) (hc : cells + 1 ≤ mc) (hs : slots + 6 ≤ ms) :
    W p l e R s m args below meth c H locs cells slots (vx_MQ below Qc XC args s mc ms free) (F0 m pc ls rest) := by
  intro T hT X
  have htr : e.platform.stackTraces = false := (show e.platform.stackTraces = l.stackTraces by rw [X.admits.platform]).trans hl
  have Y := vx_rebase X (R' := { frames := R.frames, locals := R.locals, cells := 1, slots := 6 }) (Nat.le_refl _) (Nat.le_refl _) hRcells hRslots
  obtain ⟨s', hA⟩ : ∃ z, z = (T.setVm s.vm).setFrames (.invoking m args :: below) := ⟨_, rfl⟩
  rw [← hA] at Y
  have hvm : s'.vm = s.vm := by rw [hA]; rfl
  have hhp : s'.heap = H := by rw [hA]; exact hT
  have hW0 : s.WarmedH s'.vm := by rw [hvm]; exact State.WarmedH.refl s
  have hat' : ∀ w ∈ vx_at0 own ic cls names, w.before args s' = true := fun w hw => vx_ot_at hW0 hvm.symm (hgood w (List.mem_cons_of_mem _ (List.mem_cons_of_mem _ hw))) (hat w hw)
  have hk' : (Cond.classLink own ik cls).before args s' = true := vx_ot_at hW0 hvm.symm (hgood _ List.mem_cons_self) hk
  have hini' : (Cond.initialized cls).before args s' = true := vx_ot_at hW0 hvm.symm (hgood _ (List.mem_cons_of_mem _ List.mem_cons_self)) hini
  have hU' : vx_Zq Bundle.tN "UNASSIGNED_STACK" Bundle.steD A s' s'.heap := by rw [hhp]; exact vx_Zq.moved hW0.alike (hU.kept hS.2.1)
  have hN' : vx_Zq Bundle.tN "SUPPRESSED_SENTINEL" Bundle.listD A s' s'.heap := by rw [hhp]; exact vx_Zq.moved hW0.alike (hN.kept hS.2.1)
  have h : ∀ w ∈ Bundle.ownAtoms0 own ic cls names, w.before args s' = true := vx_own hat' (vx_isRefq hU'.1) (vx_isRefq hN'.1) hU'.2.word hN'.2.word
  have hown' : s'.vm.findClass own = some m.cls := by rw [hvm]; exact hown
  have hins : (Cond.instantiable cls 6).before args s' = true := h _ (by simp [Bundle.ownAtoms0])
  obtain ⟨vm₁, cX, kX, hfX, hkX, -, -, X₁, st1⟩ := Y.newCold hexec (own := own) (C := cls) (index := ik) (n := 6) hown' hk' hins hini'
    (g := F0 m pc ls rest) rfl (by rw [hb]; exact d0) (Nat.le_refl _) (Nat.le_refl _)
  generalize hT1 : (T.setVm vm₁).pushCell { cls := cX, slots := kX.instanceTypes.map defaultValue, vm := .none } = T1 at X₁ st1
  have hcat : (Value.ref T.heap.size).category = 1 := rfl
  have hcellA : T1.heap[T.heap.size]? = some (freshCell cX kX) := by rw [← hT1]; exact State.heap_pushCell_size _ _
  have d3' : decode c.code (pc + 3) = .ok (.dup, 1) := by rw [hb]; exact d3
  obtain ⟨U, hsteps, hrun, hend, hW, hsame, ce, hce, hO⟩ := X₁.ctorThrow0 hexec htr (own := own) (cls := cls) (names := names) (ic := ic) hown' hcls hnames h (fun x hx => nomatch hx) hfX hkX hcellA (by rw [hhp, hT]; exact Nat.le_refl _)
    (g := { method := m, pc := pc + 4, locals := ls, stack := .ref T.heap.size :: .ref T.heap.size :: rest, locked := none }) rfl hsize rfl rfl (rest := rest) rfl
    (by rw [hb]; exact d4) (by rw [hb]; exact d7) hout hRframes (by simp only [List.map_cons, List.sum_cons, hcat]; omega) hlocks
  obtain ⟨f1, f2⟩ := vx_frame hsame
  rw [hhp] at f1 f2
  have hWs : s.WarmedH U.vm := State.WarmedH.trans hW0 hW
  have hcl : s.vm.findClass cls = some ce.cls := by
    have h9 := hO.cls
    rw [hvm] at h9
    exact h9
  have hall : s.sameButNew ({ U with vm := s.vm } : State) locs mc ms := by
    subst hA
    obtain ⟨e1, e2⟩ := hsame
    rw [State.setFrames_setFrames] at e1
    have h2 : (T.setVm s.vm).sameButNew ({ U with vm := s.vm } : State) [] (0 + 1) (0 + 6) := ⟨e1, e2⟩
    have h3 := X.same.trans h2
    rw [List.append_nil] at h3
    exact h3.mono hc hs
  refine ⟨U, ?_, .threw T.heap.size, hrun, hend, Or.inr ⟨T.heap.size, rfl, cls, ce, locs, hx U hWs.alike f1 (fun q hq => f2 q hq (fun z hz => nomatch hz)), hce, hO.vm, hcl, hWs, hall, hf⟩⟩
  refine st1 _ ?_
  show Steps p.tables e below (T1.setTop { method := m, pc := pc + 3, locals := ls, stack := .ref T.heap.size :: rest, locked := none }) _
  jvm_step X₁.here [X₁.here.top, hexec, d3', Value.category]
  exact hsteps
/-- 'throw new E("text")': new; dup; ldc; invokespecial; athrow -/
theorem vx_throwS {cc : ByteArray} {pc : Nat} (hexec : p.tables.exec = Jvm.exec) (hb : c.code = cc) (hl : l.stackTraces = false) {own cls text : String} {names : List String} {ik is ic mc ms sa : Nat} {A : Nat → Prop}
    (hown : s.vm.findClass own = some m.cls) (hcls : Bundle.fit cls = true) (hnames : ∀ n ∈ names, Bundle.fit n = true)
    (hk : (Cond.classLink own ik cls).before args s = true) (hini : (Cond.initialized cls).before args s = true) (hstr : vk_R own is text sa s) (hat : ∀ w ∈ vx_atS own ic cls names, w.before args s = true)
    (hgood : ∀ w ∈ Cond.classLink own ik cls :: Cond.initialized cls :: vx_atS own ic cls names, vx_ot w = true)
    (hU : vx_Zq Bundle.tN "UNASSIGNED_STACK" Bundle.steD A s s.heap) (hN : vx_Zq Bundle.tN "SUPPRESSED_SENTINEL" Bundle.listD A s s.heap) (hS : va_S A s.heap H locs) (hsize : ls.size = c.maxLocals)
    (d0 : decode cc pc = .ok (.new ik, 3)) (d3 : decode cc (pc + 3) = .ok (.dup, 1)) (d4 : decode cc (pc + 4) = .ok (.ldc is, 2)) (d6 : decode cc (pc + 6) = .ok (.invokespecial ic, 3)) (d9 : decode cc (pc + 9) = .ok (.athrow, 1))
    (hout : ∀ x ∈ c.exceptionTable.toList, covers x (pc + 9) = false)
    (hRframes : names.length + 3 < R.frames) (hRlocals : (rest.map fun v => v.category).sum + (13 * (names.length + 1) + 43) ≤ R.locals) (hRcells : cells + 1 ≤ R.cells) (hRslots : slots + 6 ≤ R.slots) (hlocks : meth.locks = false)
    (hx : ∀ t : State, s.vm.Alike t.vm → H.size ≤ t.heap.size → (∀ q : Nat, q < H.size → t.heap[q]? = H[q]?) → XC cls s t)
    (hf : ∀ z ∈ locs, free z.base) (hc : cells + 1 ≤ mc) (hs : slots + 6 ≤ ms) :
    W p l e R s m args below meth c H locs cells slots (vx_MQ below Qc XC args s mc ms free) (F0 m pc ls rest) := by
  intro T hT X
  have htr : e.platform.stackTraces = false := (show e.platform.stackTraces = l.stackTraces by rw [X.admits.platform]).trans hl
  have Y := vx_rebase X (R' := { frames := R.frames, locals := R.locals, cells := 1, slots := 6 }) (Nat.le_refl _) (Nat.le_refl _) hRcells hRslots
  obtain ⟨s', hA⟩ : ∃ z, z = (T.setVm s.vm).setFrames (.invoking m args :: below) := ⟨_, rfl⟩
  rw [← hA] at Y
  have hvm : s'.vm = s.vm := by rw [hA]; rfl
  have hhp : s'.heap = H := by rw [hA]; exact hT
  have hW0 : s.WarmedH s'.vm := by rw [hvm]; exact State.WarmedH.refl s
  have hat' : ∀ w ∈ vx_atS own ic cls names, w.before args s' = true := fun w hw => vx_ot_at hW0 hvm.symm (hgood w (List.mem_cons_of_mem _ (List.mem_cons_of_mem _ hw))) (hat w hw)
  have hk' : (Cond.classLink own ik cls).before args s' = true := vx_ot_at hW0 hvm.symm (hgood _ List.mem_cons_self) hk
  have hini' : (Cond.initialized cls).before args s' = true := vx_ot_at hW0 hvm.symm (hgood _ (List.mem_cons_of_mem _ List.mem_cons_self)) hini
  have hU' : vx_Zq Bundle.tN "UNASSIGNED_STACK" Bundle.steD A s' s'.heap := by rw [hhp]; exact vx_Zq.moved hW0.alike (hU.kept hS.2.1)
  have hN' : vx_Zq Bundle.tN "SUPPRESSED_SENTINEL" Bundle.listD A s' s'.heap := by rw [hhp]; exact vx_Zq.moved hW0.alike (hN.kept hS.2.1)
  have h : ∀ w ∈ Bundle.ownAtoms own ic cls names, w.before args s' = true := vx_own hat' (vx_isRefq hU'.1) (vx_isRefq hN'.1) hU'.2.word hN'.2.word
  have hown' : s'.vm.findClass own = some m.cls := by rw [hvm]; exact hown
  have hins : (Cond.instantiable cls 6).before args s' = true := h _ (by simp [Bundle.ownAtoms])
  obtain ⟨vm₁, cX, kX, hfX, hkX, -, -, X₁, st1⟩ := Y.newCold hexec (own := own) (C := cls) (index := ik) (n := 6) hown' hk' hins hini'
    (g := F0 m pc ls rest) rfl (by rw [hb]; exact d0) (Nat.le_refl _) (Nat.le_refl _)
  generalize hT1 : (T.setVm vm₁).pushCell { cls := cX, slots := kX.instanceTypes.map defaultValue, vm := .none } = T1 at X₁ st1
  have hcat : (Value.ref T.heap.size).category = 1 := rfl
  have hcellA : T1.heap[T.heap.size]? = some (freshCell cX kX) := by rw [← hT1]; exact State.heap_pushCell_size _ _
  have d3' : decode c.code (pc + 3) = .ok (.dup, 1) := by rw [hb]; exact d3
  have d4' : decode c.code (pc + 4) = .ok (.ldc is, 2) := by rw [hb]; exact d4
  have hstr' : vk_R own is text sa s' := vk_R.warm hW0 hstr
  obtain ⟨U, hsteps, hrun, hend, hW, hsame, ce, hce, hO⟩ := X₁.ctorThrowS hexec htr (own := own) (cls := cls) (names := names) (ic := ic) hown' hcls hnames h (fun x hx => nomatch hx) hfX hkX hcellA (by rw [hhp, hT]; exact Nat.le_refl _) (msg := .ref sa) rfl
    (g := { method := m, pc := pc + 6, locals := ls, stack := .ref sa :: .ref T.heap.size :: .ref T.heap.size :: rest, locked := none }) rfl hsize rfl rfl (rest := rest) rfl
    (by rw [hb]; exact d6) (by rw [hb]; exact d9) hout hRframes (by simp only [List.map_cons, List.sum_cons, hcat]; omega) hlocks
  obtain ⟨f1, f2⟩ := vx_frame hsame
  rw [hhp] at f1 f2
  have hWs : s.WarmedH U.vm := State.WarmedH.trans hW0 hW
  have hcl : s.vm.findClass cls = some ce.cls := by
    have h9 := hO.cls
    rw [hvm] at h9
    exact h9
  have hall : s.sameButNew ({ U with vm := s.vm } : State) locs mc ms := by
    subst hA
    obtain ⟨e1, e2⟩ := hsame
    rw [State.setFrames_setFrames] at e1
    have h2 : (T.setVm s.vm).sameButNew ({ U with vm := s.vm } : State) [] (0 + 1) (0 + 6) := ⟨e1, e2⟩
    have h3 := X.same.trans h2
    rw [List.append_nil] at h3
    exact h3.mono hc hs
  refine ⟨U, ?_, .threw T.heap.size, hrun, hend, Or.inr ⟨T.heap.size, rfl, cls, ce, locs, hx U hWs.alike f1 (fun q hq => f2 q hq (fun z hz => nomatch hz)), hce, hO.vm, hcl, hWs, hall, hf⟩⟩
  refine st1 _ ?_
  show Steps p.tables e below (T1.setTop { method := m, pc := pc + 3, locals := ls, stack := .ref T.heap.size :: rest, locked := none }) _
  jvm_step X₁.here [X₁.here.top, hexec, d3', Value.category]
  exact X₁.ldcString hexec (own := own) (text := text) (index := is) (a := sa) hown' hstr'.1 hstr'.2
    (g := { method := m, pc := pc + 4, locals := ls, stack := .ref T.heap.size :: .ref T.heap.size :: rest, locked := none }) rfl d4' _ hsteps
/-- 'throw new E("text")', the text by a wide index -/
theorem vx_throwSW {cc : ByteArray} {pc : Nat} (hexec : p.tables.exec = Jvm.exec) (hb : c.code = cc) (hl : l.stackTraces = false) {own cls text : String} {names : List String} {ik is ic mc ms sa : Nat} {A : Nat → Prop}
    (hown : s.vm.findClass own = some m.cls) (hcls : Bundle.fit cls = true) (hnames : ∀ n ∈ names, Bundle.fit n = true)
    (hk : (Cond.classLink own ik cls).before args s = true) (hini : (Cond.initialized cls).before args s = true) (hstr : vk_R own is text sa s) (hat : ∀ w ∈ vx_atS own ic cls names, w.before args s = true)
    (hgood : ∀ w ∈ Cond.classLink own ik cls :: Cond.initialized cls :: vx_atS own ic cls names, vx_ot w = true)
    (hU : vx_Zq Bundle.tN "UNASSIGNED_STACK" Bundle.steD A s s.heap) (hN : vx_Zq Bundle.tN "SUPPRESSED_SENTINEL" Bundle.listD A s s.heap) (hS : va_S A s.heap H locs) (hsize : ls.size = c.maxLocals)
    (d0 : decode cc pc = .ok (.new ik, 3)) (d3 : decode cc (pc + 3) = .ok (.dup, 1)) (d4 : decode cc (pc + 4) = .ok (.ldc_w is, 3)) (d7 : decode cc (pc + 7) = .ok (.invokespecial ic, 3)) (d10 : decode cc (pc + 10) = .ok (.athrow, 1))
    (hout : ∀ x ∈ c.exceptionTable.toList, covers x (pc + 10) = false)
    (hRframes : names.length + 3 < R.frames) (hRlocals : (rest.map fun v => v.category).sum + (13 * (names.length + 1) + 43) ≤ R.locals) (hRcells : cells + 1 ≤ R.cells) (hRslots : slots + 6 ≤ R.slots) (hlocks : meth.locks = false)
    (hx : ∀ t : State, s.vm.Alike t.vm → H.size ≤ t.heap.size → (∀ q : Nat, q < H.size → t.heap[q]? = H[q]?) → XC cls s t)
    (hf : ∀ z ∈ locs, free z.base) (hc : cells + 1 ≤ mc) (hs : slots + 6 ≤ ms) :
    W p l e R s m args below meth c H locs cells slots (vx_MQ below Qc XC args s mc ms free) (F0 m pc ls rest) := by
  intro T hT X
  have htr : e.platform.stackTraces = false := (show e.platform.stackTraces = l.stackTraces by rw [X.admits.platform]).trans hl
  have Y := vx_rebase X (R' := { frames := R.frames, locals := R.locals, cells := 1, slots := 6 }) (Nat.le_refl _) (Nat.le_refl _) hRcells hRslots
  obtain ⟨s', hA⟩ : ∃ z, z = (T.setVm s.vm).setFrames (.invoking m args :: below) := ⟨_, rfl⟩
  rw [← hA] at Y
  have hvm : s'.vm = s.vm := by rw [hA]; rfl
  have hhp : s'.heap = H := by rw [hA]; exact hT
  have hW0 : s.WarmedH s'.vm := by rw [hvm]; exact State.WarmedH.refl s
  have hat' : ∀ w ∈ vx_atS own ic cls names, w.before args s' = true := fun w hw => vx_ot_at hW0 hvm.symm (hgood w (List.mem_cons_of_mem _ (List.mem_cons_of_mem _ hw))) (hat w hw)
  have hk' : (Cond.classLink own ik cls).before args s' = true := vx_ot_at hW0 hvm.symm (hgood _ List.mem_cons_self) hk
  have hini' : (Cond.initialized cls).before args s' = true := vx_ot_at hW0 hvm.symm (hgood _ (List.mem_cons_of_mem _ List.mem_cons_self)) hini
  have hU' : vx_Zq Bundle.tN "UNASSIGNED_STACK" Bundle.steD A s' s'.heap := by rw [hhp]; exact vx_Zq.moved hW0.alike (hU.kept hS.2.1)
  have hN' : vx_Zq Bundle.tN "SUPPRESSED_SENTINEL" Bundle.listD A s' s'.heap := by rw [hhp]; exact vx_Zq.moved hW0.alike (hN.kept hS.2.1)
  have h : ∀ w ∈ Bundle.ownAtoms own ic cls names, w.before args s' = true := vx_own hat' (vx_isRefq hU'.1) (vx_isRefq hN'.1) hU'.2.word hN'.2.word
  have hown' : s'.vm.findClass own = some m.cls := by rw [hvm]; exact hown
  have hins : (Cond.instantiable cls 6).before args s' = true := h _ (by simp [Bundle.ownAtoms])
  obtain ⟨vm₁, cX, kX, hfX, hkX, -, -, X₁, st1⟩ := Y.newCold hexec (own := own) (C := cls) (index := ik) (n := 6) hown' hk' hins hini'
    (g := F0 m pc ls rest) rfl (by rw [hb]; exact d0) (Nat.le_refl _) (Nat.le_refl _)
  generalize hT1 : (T.setVm vm₁).pushCell { cls := cX, slots := kX.instanceTypes.map defaultValue, vm := .none } = T1 at X₁ st1
  have hcat : (Value.ref T.heap.size).category = 1 := rfl
  have hcellA : T1.heap[T.heap.size]? = some (freshCell cX kX) := by rw [← hT1]; exact State.heap_pushCell_size _ _
  have d3' : decode c.code (pc + 3) = .ok (.dup, 1) := by rw [hb]; exact d3
  have d4' : decode c.code (pc + 4) = .ok (.ldc_w is, 3) := by rw [hb]; exact d4
  have hstr' : vk_R own is text sa s' := vk_R.warm hW0 hstr
  obtain ⟨U, hsteps, hrun, hend, hW, hsame, ce, hce, hO⟩ := X₁.ctorThrowS hexec htr (own := own) (cls := cls) (names := names) (ic := ic) hown' hcls hnames h (fun x hx => nomatch hx) hfX hkX hcellA (by rw [hhp, hT]; exact Nat.le_refl _) (msg := .ref sa) rfl
    (g := { method := m, pc := pc + 7, locals := ls, stack := .ref sa :: .ref T.heap.size :: .ref T.heap.size :: rest, locked := none }) rfl hsize rfl rfl (rest := rest) rfl
    (by rw [hb]; exact d7) (by rw [hb]; exact d10) hout hRframes (by simp only [List.map_cons, List.sum_cons, hcat]; omega) hlocks
  obtain ⟨f1, f2⟩ := vx_frame hsame
  rw [hhp] at f1 f2
  have hWs : s.WarmedH U.vm := State.WarmedH.trans hW0 hW
  have hcl : s.vm.findClass cls = some ce.cls := by
    have h9 := hO.cls
    rw [hvm] at h9
    exact h9
  have hall : s.sameButNew ({ U with vm := s.vm } : State) locs mc ms := by
    subst hA
    obtain ⟨e1, e2⟩ := hsame
    rw [State.setFrames_setFrames] at e1
    have h2 : (T.setVm s.vm).sameButNew ({ U with vm := s.vm } : State) [] (0 + 1) (0 + 6) := ⟨e1, e2⟩
    have h3 := X.same.trans h2
    rw [List.append_nil] at h3
    exact h3.mono hc hs
  refine ⟨U, ?_, .threw T.heap.size, hrun, hend, Or.inr ⟨T.heap.size, rfl, cls, ce, locs, hx U hWs.alike f1 (fun q hq => f2 q hq (fun z hz => nomatch hz)), hce, hO.vm, hcl, hWs, hall, hf⟩⟩
  refine st1 _ ?_
  show Steps p.tables e below (T1.setTop { method := m, pc := pc + 3, locals := ls, stack := .ref T.heap.size :: rest, locked := none }) _
  jvm_step X₁.here [X₁.here.top, hexec, d3', Value.category]
  exact X₁.ldcStringW hexec (own := own) (text := text) (index := is) (a := sa) hown' hstr'.1 hstr'.2
    (g := { method := m, pc := pc + 4, locals := ls, stack := .ref T.heap.size :: .ref T.heap.size :: rest, locked := none }) rfl d4' _ hsteps
end Ends
section Bodies
variable {l : Launch}
theorem vx_ofW {y : MethodName} {ws ws' : List Cond} {rm : Room} {Pc : Array Value → State → Prop} {Qc : Array Value → State → Outcome → State → Prop} {XC : String → State → State → Prop} {mc ms : Nat} {free : Addr → Prop} {cc : ByteArray} {maxL : Nat} {ret : Option FieldType}
    (hy : plainName y.cls = true) (hw : ws = Cond.code y cc maxL ret :: ws')
    (body : ∀ p e s m args below meth c s₁, BodyLoose p l y (headSpec ws rm) cc maxL ret e s m args below meth c s₁ → c.maxLocals = maxL → (∀ x ∈ c.exceptionTable.toList, False) → Pc args s →
      W p l e (headSpec ws rm).room s m args below meth c s.heap [] 0 0 (vx_MQ below Qc XC args s mc ms free) (entryFrame m args maxL)) : vx_Met l y ws rm Pc Qc XC mc ms free := by
  refine MetFree.of_bodyS (code := cc) (maxLocals := maxL) (ret := ret) hy ?_ ?_
  · intro args s m h hn
    obtain ⟨meth, c, h1, h2, h3, h4, h5, h6, -, -⟩ := Cond.code_spec hn (atoms_spec (ws := ws) h _ (by rw [hw]; exact List.mem_cons_self))
    exact ⟨meth, c, h1, h2, h3, h4, h5, h6⟩
  · intro p e s m args below meth c s₁ B hml hP _
    have hh0 : s₁.heap = s.heap := by rw [B.state]; rfl
    have ht : ∀ x ∈ c.exceptionTable.toList, False := by
      obtain ⟨meth9, c9, h1, h2, -, -, -, -, h7, -⟩ := Cond.code_spec B.named (atoms_spec (ws := ws) B.pre _ (by rw [hw]; exact List.mem_cons_self))
      cases Option.some.inj (h1.symm.trans B.method)
      cases Option.some.inj (h2.symm.trans (Stand.of_body B).code)
      intro x hx
      rw [Array.isEmpty_iff.mp h7] at hx
      cases hx
    obtain ⟨t, a1, o, b1, b2, b3⟩ := body p e s m args below meth c s₁ B hml ht hP s₁ hh0 (Stand.of_body B)
    exact ⟨t, o, a1, b1, b2, b3⟩
/-- the table of a body with handlers -/
theorem vx_table {p : Program} {x y : MethodName} {S : Spec} {cc bytes : ByteArray} {maxL maxL' : Nat} {ret ret' : Option FieldType} {e : Env} {s s₁ : State} {m : MethodId} {args : Array Value} {below : List Frame} {meth : Method} {c : Code} {hh : List (Nat × Nat × Nat × Nat)}
    (B : BodyLoose p l y S cc maxL ret e s m args below meth c s₁) (h : (Cond.codeWith y bytes maxL' ret' hh).before args s = true) : c.exceptionTable.toList = tableOf hh := by
  obtain ⟨m9, meth9, c9, hn9, h1, h2, -, -, h6, -⟩ := Cond.codeWith_spec h
  cases Option.some.inj (hn9.symm.trans B.named)
  cases Option.some.inj (h1.symm.trans B.method)
  cases Option.some.inj (h2.symm.trans (Stand.of_body B).code)
  rw [← h6, table_eq]
end Bodies
end VXA
/-! ===== END ===== -/
/-! ===== BEGIN a static call of a method with an exception table ===== -/
section VXS
variable {p : Program} {l : Launch} {e : Env} {R : Room} {s : State} {m : MethodId} {args : Array Value} {below : List Frame} {meth : Method} {c : Code} {T : State} {H : Heap} {locs : List Loc} {cells slots : Nat}
abbrev vx_CSW (R : Room) (s : State) (args : Array Value) (own : String) (index : Nat) (y : MethodName) (bytes : ByteArray) (maxL : Nat) (ret : Option FieldType) (hh : List (Nat × Nat × Nat × Nat)) (ws : List Cond) (rm : Room) (mc ms n : Nat) : Prop :=
  (rm.cells = mc ∧ rm.slots = ms ∧ rm.frames + 1 ≤ R.frames ∧ 8 + (maxL + 11) + rm.locals ≤ R.locals ∧ (∀ w ∈ ws, ∀ (a' : Array Value) (U : State), s.WarmedH U.vm → w.before a' U = true) ∧ Cond.codeWith y bytes maxL ret hh ∈ ws) ∧
  (Cond.codeWith y bytes maxL ret hh).before args s = true ∧ (Cond.initialized y.cls).before args s = true ∧ (y.cls ≠ "java/lang/invoke/MethodHandle" ∧ y.cls ≠ "java/lang/invoke/VarHandle") ∧
  (∀ sig, parseMethodDescriptor y.desc = some sig → n = sig.parameters.length) ∧ (Cond.methodLink own index y).before args s = true ∧ (Cond.static y).before args s = true
theorem vx_cwSW {own : String} {index maxL mc ms : Nat} {y : MethodName} {bytes : ByteArray} {ret : Option FieldType} {hh : List (Nat × Nat × Nat × Nat)} {Ts ws ws' : List Cond} {rm : Room} (n : Nat) (ht : ∀ w ∈ Ts, w.before args s = true) (hT : GoodIn Ts (va_wsS own index y ws)) (hw : ws = Cond.codeWith y bytes maxL ret hh :: ws') (hrc : rm.cells = mc) (hrs : rm.slots = ms)
    (hd : y.cls ≠ "java/lang/invoke/MethodHandle" ∧ y.cls ≠ "java/lang/invoke/VarHandle" ∧ (parseMethodDescriptor y.desc).map (fun d => d.parameters.length) = some n) (hR : rm.frames + 1 ≤ R.frames ∧ 8 + (maxL + 11) + rm.locals ≤ R.locals) :
    vx_CSW R s args own index y bytes maxL ret hh ws rm mc ms n := by
  have ok : ∀ w ∈ va_wsS own index y ws, w.before args s = true := fun w h => ht w (hT w h).1
  have hG : GoodIn Ts ws := fun w h => hT w (by unfold va_wsS; exact List.mem_append_right _ h)
  have hc : Cond.codeWith y bytes maxL ret hh ∈ ws := by rw [hw]; exact List.mem_cons_self
  refine ⟨⟨hrc, hrs, hR.1, hR.2, pay_in ht hG, hc⟩, ht _ (hG _ hc).1, ok _ (by simp [va_wsS]), ⟨hd.1, hd.2.1⟩, fun sig h => ?_, ok _ (by simp [va_wsS]), ok _ (by simp [va_wsS])⟩
  have h2 := hd.2.2
  rw [h] at h2
  exact (Option.some.inj h2).symm
theorem vx_callSW (X : Stand p l e R s m args below meth c T locs cells slots) (hexec : p.tables.exec = Jvm.exec) {own : String} {index : Nat} {y : MethodName} {bytes : ByteArray} {maxL : Nat} {ret : Option FieldType} {hh : List (Nat × Nat × Nat × Nat)}
    (hown : s.vm.findClass own = some m.cls) (hlink : (Cond.methodLink own index y).before args s = true) (hstat : (Cond.static y).before args s = true) (hinit : (Cond.initialized y.cls).before args s = true)
    (hcode : (Cond.codeWith y bytes maxL ret hh).before args s = true) (hy : y.cls ≠ "java/lang/invoke/MethodHandle" ∧ y.cls ≠ "java/lang/invoke/VarHandle")
    {W9 : Nat} {Pre : Pt → Array Value → Prop} {Post : Pt → Array Value → Option Value → Pt → Prop} (hK : Back l R p e below s args y 3 W9 Pre Post)
    {g : JFrame} (hg : g.method = m) (hsize : g.locals.size = c.maxLocals) {argsL rest : List Value} (hlen : ∀ sig, parseMethodDescriptor y.desc = some sig → argsL.length = sig.parameters.length)
    (hstack : g.stack = argsL.reverse ++ rest) (hW : 2 * g.monitorRoom + (rest.map fun v => v.category).sum ≤ W9) (hdg : decode c.code g.pc = .ok (.invokestatic index, 3))
    (hpre : ∀ vm₁, s.WarmedH vm₁ → Pre ⟨T.setVm vm₁, locs, cells, slots⟩ argsL.toArray) :
    ∃ (v : Option Value) (vm₁ : Vm) (B : Pt), s.WarmedH vm₁ ∧ Stand p l e R s m args below meth c B.U B.locs B.cells B.slots ∧ Post ⟨T.setVm vm₁, locs, cells, slots⟩ argsL.toArray v B ∧
      ∀ target, Steps p.tables e below (B.U.setTop { g with pc := g.pc + 3, stack := v.toList ++ rest }) target → Steps p.tables e below (T.setTop g) target := by
  obtain ⟨mk, methM, cM, hnamed, hmethM, -, -, -, -, -, -, hsigM⟩ := Cond.codeWith_spec hcode
  have hstatic : methM.isStatic = true := Cond.static_spec hnamed hmethM hstat
  obtain ⟨kP, hkP, -⟩ := className_of_methodNamed hnamed
  have hinitP : kP.init = .initialized := Cond.initialized_spec (findClass_of_methodNamed hnamed) hkP hinit
  obtain ⟨vm₁, X₁, hstep₁⟩ := X.invokestatic hexec hown hlink hnamed hmethM hstatic hkP hinitP hy (g := g) hg (argsL := argsL) (rest := rest) (hlen _ hsigM) hstack hdg
  obtain ⟨v, B, X', hpost, hsteps⟩ := hK m meth c ⟨T.setVm vm₁, locs, cells, slots⟩ { g with stack := rest } (.invokestatic index) mk argsL.toArray X₁ hg hsize hdg hW (X₁.named hnamed) (hpre vm₁ X₁.warmed)
  exact ⟨v, vm₁, B, X₁.warmed, X', hpost, fun target h => hstep₁ _ fun acts => by rw [doInvoke_state]; exact hsteps.trans h⟩
theorem vx_runSW {y : MethodName} {bytes cc : ByteArray} {maxL nL mc ms n index : Nat} {ret : Option FieldType} {hh : List (Nat × Nat × Nat × Nat)} {ws : List Cond} {rm : Room} {Pc : Array Value → State → Prop} {Qc : Array Value → State → Outcome → State → Prop} {free : Addr → Prop} {Ts : List Cond} {own : String} {As rest : List Value} {g : JFrame}
    (S : CallFix p m c cc nL s args Ts own) (hM : Met l y ws rm Pc Qc mc ms free) (cw : vx_CSW R s args own index y bytes maxL ret hh ws rm mc ms n) (hp : PreS s H Pc As)
    (hg : g.method = m) (hn : As.length = n) (hsize : g.locals.size = nL) (hstack : g.stack = As.reverse ++ rest) (hW : 2 * g.monitorRoom + (rest.map fun v => v.category).sum ≤ 8) (hdg : decode cc g.pc = .ok (.invokestatic index, 3)) (hf : cells + mc ≤ R.cells ∧ slots + ms ≤ R.slots) :
    va_Run p l e R s m args below meth c H locs cells slots mc ms g rest (Qc As.toArray) (free) := by
  obtain ⟨⟨hrc, hrs, hfr, hlo, hws, hcw⟩, hcode, hini, hy, hlen, hl, hstt⟩ := cw
  have hK : Back l R p e below s args y 3 8 (PreOf R mc ms Pc) (PostOf Qc mc ms free) := va_backW (hh := hh) (bytes := bytes) (maxL := maxL) (ret := ret) hM hp.1 hrc hrs hfr hlo hws hcw (fun a' U hW => word_at hW (Or.inl (by first | rfl | simp [Cond.onTables, Cond.keeps, Cond.steady])) hini)
  obtain ⟨hx, hb, hml, ho, -⟩ := S
  intro T hT X
  obtain ⟨v, vm₁, ⟨U', l2, c2, s2⟩, hW₁, X', ⟨g', mk, t, L, e1, e2, hq, h1, hL, h2, h3⟩, st⟩ := vx_callSW X hx (hh := hh) (bytes := bytes) (maxL := maxL) (ret := ret) ho hl hstt hini hcode hy hK hg (hsize.trans hml.symm) (argsL := As) (rest := rest) (fun sig h => hn.trans (hlen sig h)) hstack hW (by rw [hb]; exact hdg)
    (fun vm₁ hW₁ => ⟨hf.1, hf.2, hp.2 (T.setVm vm₁) hT hW₁⟩)
  dsimp only [Pt.U, Pt.locs, Pt.cells, Pt.slots] at X' e1 e2 h1 h2 h3 st
  subst h1; subst h2; subst h3
  exact ⟨v, (T.setVm vm₁).calling g' mk As.toArray, t, U', L, hT, X', hL, e1, e2, hq, st⟩
/-- not caught here, past rows that name other classes: it goes on to the caller -/
theorem vx_outP {p : Program} {l : Launch} {e : Env} {R : Room} {s : State} {m : MethodId} {args : Array Value} {below : List Frame} {meth : Method} {c : Code} {H : Heap} {locs : List Loc} {cells slots : Nat} {free : Addr → Prop} {ls : Array Slot} {rest : List Value} {Qc : Array Value → State → Outcome → State → Prop} {XC : String → State → State → Prop}
    {pc : Nat} {own E : String} {ce : Cell} {q : Addr} {mc ms : Nat} (hown : s.vm.findClass own = some m.cls) (hlocks : meth.locks = false)
    (hpass : ∀ z ∈ c.exceptionTable.toList, covers z pc = false ∨ (z.catchType ≠ 0 ∧ ∃ nm : String, (Cond.classLink own z.catchType nm).before args s = true ∧ va_Nc E nm s)) (hcell : H[q]? = some ce) (hv : ce.vm = .none) (hcl : s.vm.findClass E = some ce.cls)
    (hx : ∀ t : State, t.heap = H → s.vm.Alike t.vm → XC E s t) (hf : ∀ z ∈ locs, free z.base) (hc : cells ≤ mc) (hs : slots ≤ ms) :
    vx_W p l e R s m args below meth c H locs cells slots (vx_MQ below Qc XC args s mc ms free) (F0 m pc ls rest) q := by
  intro T hT X
  have hpl : e.platform.magicAccessors = ({} : Platform).magicAccessors := by rw [X.admits.platform]
  obtain ⟨vm', hW', X', st⟩ := X.outThrough hlocks q (g := F0 m pc ls rest) rfl rfl rfl (cell := ce) (by rw [hT]; exact hcell) (by rw [hv]; rfl)
    (by obtain ⟨k9, h9, -⟩ := Vm.findClass_spec hcl; exact ⟨k9, h9⟩) (fun z hz => by
      rcases hpass z hz with h | ⟨hz0, nm, hl1, hn1⟩
      · exact Or.inl h
      · obtain ⟨c6, hc6, hcl6⟩ := Cond.classLink_spec hown hl1 e.platform hpl
        obtain ⟨a8, b8, h1, h2, h3⟩ := hn1
        cases Option.some.inj (h1.symm.trans hcl)
        cases Option.some.inj (h2.symm.trans hc6)
        exact Or.inr ⟨hz0, _, hcl6, h3⟩)
  obtain ⟨g₀, hfr⟩ := X'.frames_eq
  have hcell9 : ((T.setVm vm').setFrames (.throwing q :: below)).heap[q]? = some ce := by
    show T.heap[q]? = some ce
    rw [hT]; exact hcell
  have hend : Ended ((T.setVm vm').setFrames (.throwing q :: below)) below (.threw q) := State.frames_setFrames _ (State.cur_lt_of_frames hfr)
  refine ⟨(T.setVm vm').setFrames (.throwing q :: below), ?_, .threw q, X'.here.running, hend, Or.inr ⟨q, rfl, E, ce, locs, hx _ hT (X'.ends _).1.alike, hcell9, hv, hcl, (X'.ends _).1, (X'.ends _).2.mono hc hs, hf⟩⟩
  rw [X.pushThrowing_eq]
  exact st
/-- a thing of a world lies in the heap -/
theorem vx_lt {D : va_G} {cl : List vw_C} {ws : va_W} {H1 : Heap} (h : va_P D cl ws H1) {k : Nat} {q : Nat × va_E} (hk : ws[k]? = some q) : q.1 < H1.size := (h k q hk).lt
end VXS
/-! ===== END ===== -/
/-! ===== BEGIN methods with a table of their own: called by a name, returning or throwing ===== -/
section VXH
/-! vx_backW, vx_callVX, vx_callSX, vx_callVW, vx_runVW, vx_runVX, vx_runSX, vx_ofWH follow the same proofs as their sisters above (Free/Laws.lean, Shelf42/LK1.lean); vx_outP calls Shelf42/NT130.lean (outThrough). -/
section
variable {l : Launch} {R : Room} {p : Program} {e : Env} {below : List Frame} {s : State} {sargs : Array Value} {y : MethodName} {len W9 : Nat}
theorem vx_backW {ws : List Cond} {rm : Room} {Pc : Array Value → State → Prop} {Qc : Array Value → State → Outcome → State → Prop} {XC : String → State → State → Prop} {mc ms : Nat} {free : Addr → Prop} {bytes : ByteArray} {maxL : Nat} {ret : Option FieldType} {hh : List (Nat × Nat × Nat × Nat)}
    (hM : vx_Met l y ws rm Pc Qc XC mc ms free) (hblind : FrameBlind Pc) (hrc : rm.cells = mc) (hrs : rm.slots = ms)
    (hframes : rm.frames + 1 ≤ R.frames) (hlocals : W9 + (maxL + 11) + rm.locals ≤ R.locals)
    (hws : ∀ w ∈ ws, ∀ a' U, s.WarmedH U.vm → w.before a' U = true) (hcode : Cond.codeWith y bytes maxL ret hh ∈ ws) (hinit : ∀ a' U, s.WarmedH U.vm → (Cond.initialized y.cls).before a' U = true) :
    vx_Back l R p e below s sargs y len W9 (PreOf R mc ms Pc) (PostOf Qc mc ms free) (vx_Post XC mc ms free) := by
  intro m meth c A g ig mk a X hg hsize hdg hW hn hp
  have h1 : (headSpec ws rm).pre.before a A.U = true := atoms_intro fun w hw => hws w hw _ _ X.warmed
  have h2 : (Cond.codeWith y bytes maxL ret hh).before a A.U = true := hws _ hcode _ _ X.warmed
  have h3 : (Cond.initialized y.cls).before a A.U = true := hinit _ _ X.warmed
  have h4 : A.cells + (headSpec ws rm).room.cells ≤ R.cells := by rw [show (headSpec ws rm).room.cells = mc from hrc]; exact hp.1
  have h5 : A.slots + (headSpec ws rm).room.slots ≤ R.slots := by rw [show (headSpec ws rm).room.slots = ms from hrs]; exact hp.2.1
  have hPc : Pc a (A.U.calling g mk a) := hblind _ _ _ _ hp.2.2
  obtain ⟨U, Ls, c0, s0⟩ := A
  dsimp only [Pt.U, Pt.locs, Pt.cells, Pt.slots] at h1 h2 h3 h4 h5 X hn hPc ⊢
  obtain ⟨m9, methY, cY, hn9, hmY, hcY, -, hlY, -⟩ := Cond.codeWith_spec h2
  cases Option.some.inj (hn9.symm.trans hn)
  obtain ⟨kY, hkY, -⟩ := className_of_methodNamed hn
  have hinitY : kY.init = .initialized := Cond.initialized_spec (findClass_of_methodNamed hn) hkY h3
  have h : At U g.method c below := by rw [hg]; exact X.here
  have hlocals9 : W9 + (maxL + 11) + (headSpec ws rm).room.locals ≤ R.locals := hlocals
  have happ : (headSpec ws rm).appliesLoose y e.platform (U.calling g mk a) = true :=
    Spec.appliesLoose_calling (g := g) h hdg hn hkY hinitY
      (X.room_calling (g := g) (R' := (headSpec ws rm).room) hsize hmY hcY hframes (by rw [hlY]; omega) h4 h5) h1
  obtain ⟨mid, hmid⟩ := h.above
  have hfr : (U.setTop g).frames = (.java g :: mid) ++ below := by rw [State.frames_setTop' g h.top, hmid]; rfl
  obtain ⟨o, s₂, hsteps, -, hend, hq⟩ := Steps.callFree hM p X.admits X.cas X.clock (acts := []) hfr happ hPc trivial
  have hq' : vx_Q Qc XC mc ms free a (U.calling g mk a) o s₂ := hq
  rw [State.frames_setTop' g h.top] at hend
  obtain ⟨g₀, hg0⟩ := Option.isSome_iff_exists.mp h.top
  obtain ⟨r, hr⟩ := State.topJava?_eq_some.mp hg0
  have hr' : (({ U with heap := s₂.heap, slotsUsed := s₂.slotsUsed } : State).setVm s₂.vm).frames = .java g₀ :: r := hr
  rcases hq' with ⟨hqc, L, hfe, hL⟩ | ⟨q, rfl, E, ce, L, hx, hce, hcv, hcl, hW₂, hsm, hL⟩
  · obtain ⟨⟨v, rfl⟩, hW₂, e2, q2, q3, q4, q5, q6⟩ := id hfe
    have e3 : s₂ = ({ (U.calling g mk a).setFrames s₂.frames with heap := s₂.heap, slotsUsed := s₂.slotsUsed } : State).setVm s₂.vm := by
      have : s₂ = ({ s₂ with vm := (U.calling g mk a).vm } : State).setVm s₂.vm := rfl
      rw [e2] at this
      exact this
    obtain ⟨c₂, i₂, len₂, hc₂, hd₂, hf₂⟩ := hend
    have hW' : U.WarmedH s₂.vm := hW₂
    have hcc : c₂ = c := by
      have h1 : s₂.code? g.method = U.code? g.method := by
        rw [State.code?_eq, State.code?_eq, hW'.alike.method?]
      exact Option.some.inj (hc₂.symm.trans (h1.trans h.code))
    subst hcc
    have hlen : len₂ = len := by rw [hdg] at hd₂; cases hd₂; rfl
    subst hlen
    have hs₂ : s₂ = (({ U with heap := s₂.heap, slotsUsed := s₂.slotsUsed } : State).setVm s₂.vm).setTop { g with pc := g.pc + len₂, stack := v.toList ++ g.stack } := by
      refine e3.trans ?_
      rw [hf₂, State.calling_eq h.top, State.setFrames_setFrames, State.setTop_of_frames _ hr', hr]
      rfl
    have hsame : U.sameButNew ({ U with heap := s₂.heap, slotsUsed := s₂.slotsUsed } : State) L mc ms := by
      refine ⟨?_, q2, q3, q4, q5, q6⟩
      obtain ⟨t, ht, -⟩ := State.frames_cons hr
      show ({ U with heap := s₂.heap, slotsUsed := s₂.slotsUsed } : State) = { U.setFrames U.frames with heap := s₂.heap, slotsUsed := s₂.slotsUsed }
      rw [State.setFrames_self ht]
    subst hg
    refine Or.inl ⟨v, ⟨(({ U with heap := s₂.heap, slotsUsed := s₂.slotsUsed } : State).setVm s₂.vm), Ls ++ L, c0 + mc, s0 + ms⟩,
      ⟨X.admits, X.cas, X.clock, X.frames, X.room, X.hears, X.method, X.code, (X.here.setHeapUsed s₂.heap s₂.slotsUsed).setVm hW'.alike, X.tail, State.WarmedH.trans X.warmed hW', X.limits, X.bytes, X.same.trans (hsame.setVm s.vm)⟩,
      ⟨g, mk, s₂, L, rfl, rfl, hqc, rfl, hL, rfl, rfl⟩, ?_⟩
    show Steps p.tables e below _ ((({ U with heap := s₂.heap, slotsUsed := s₂.slotsUsed } : State).setVm s₂.vm).setTop { g with pc := g.pc + len₂, stack := v.toList ++ g.stack })
    rw [← hs₂]
    exact hsteps
  · obtain ⟨e2, q2, q3, q4, q5, q6⟩ := id hsm
    have e3 : s₂ = ({ (U.calling g mk a).setFrames s₂.frames with heap := s₂.heap, slotsUsed := s₂.slotsUsed } : State).setVm s₂.vm := by
      have : s₂ = ({ s₂ with vm := (U.calling g mk a).vm } : State).setVm s₂.vm := rfl
      rw [e2] at this
      exact this
    have hf₂ : s₂.frames = .throwing q :: .java g :: U.frames.tail := hend
    have hW' : U.WarmedH s₂.vm := hW₂
    have hs₂ : s₂ = ((({ U with heap := s₂.heap, slotsUsed := s₂.slotsUsed } : State).setVm s₂.vm).setTop g).pushFrame (.throwing q) := by
      refine e3.trans ?_
      rw [hf₂, State.calling_eq h.top, State.setFrames_setFrames, State.pushFrame, State.frames_setTop _ hr', State.setTop_of_frames _ hr', State.setFrames_setFrames, hr]
      rfl
    have hsame : U.sameButNew ({ U with heap := s₂.heap, slotsUsed := s₂.slotsUsed } : State) L mc ms := by
      refine ⟨?_, q2, q3, q4, q5, q6⟩
      obtain ⟨t, ht, -⟩ := State.frames_cons hr
      show ({ U with heap := s₂.heap, slotsUsed := s₂.slotsUsed } : State) = { U.setFrames U.frames with heap := s₂.heap, slotsUsed := s₂.slotsUsed }
      rw [State.setFrames_self ht]
    subst hg
    refine Or.inr ⟨q, ⟨(({ U with heap := s₂.heap, slotsUsed := s₂.slotsUsed } : State).setVm s₂.vm), Ls ++ L, c0 + mc, s0 + ms⟩,
      ⟨X.admits, X.cas, X.clock, X.frames, X.room, X.hears, X.method, X.code, (X.here.setHeapUsed s₂.heap s₂.slotsUsed).setVm hW'.alike, X.tail, State.WarmedH.trans X.warmed hW', X.limits, X.bytes, X.same.trans (hsame.setVm s.vm)⟩,
      ⟨g, mk, s₂, L, E, ce, rfl, rfl, hx, hce, hcv, hcl, rfl, hL, rfl, rfl⟩, ?_⟩
    show Steps p.tables e below _ (((({ U with heap := s₂.heap, slotsUsed := s₂.slotsUsed } : State).setVm s₂.vm).setTop g).pushFrame (.throwing q))
    rw [← hs₂]
    exact hsteps
end
variable {p : Program} {l : Launch} {e : Env} {R : Room} {s : State} {m : MethodId} {args : Array Value} {below : List Frame} {meth : Method} {c : Code} {T : State} {H : Heap} {locs : List Loc} {cells slots : Nat}
theorem vx_callVX (X : Stand p l e R s m args below meth c T locs cells slots) (hexec : p.tables.exec = Jvm.exec) {own C : String} {index : Nat} {y : MethodName} {bytes : ByteArray} {maxL : Nat} {ret : Option FieldType} {hh : List (Nat × Nat × Nat × Nat)}
    (hown : s.vm.findClass own = some m.cls) (hlink : (Cond.methodLink own index y).before args s = true) (hinst : (Cond.instanceMethod y).before args s = true) (hsel : (Cond.selects C y y).before args s = true)
    (hcode : (Cond.codeWith y bytes maxL ret hh).before args s = true) (hy : y.cls ≠ "java/lang/invoke/MethodHandle" ∧ y.cls ≠ "java/lang/invoke/VarHandle")
    {W9 : Nat} {Pre : Pt → Array Value → Prop} {Post : Pt → Array Value → Option Value → Pt → Prop} {PostX : Pt → Array Value → Addr → Pt → Prop} (hK : vx_Back l R p e below s args y 3 W9 Pre Post PostX)
    {b : Addr} {cellB : Cell} (hcell : T.heap[b]? = some cellB) (hobj : cellB.vm.isStatics = false) (hcls : s.vm.findClass C = some cellB.cls)
    {g : JFrame} (hg : g.method = m) (hsize : g.locals.size = c.maxLocals) {argsL rest : List Value} (hlen : ∀ sig, parseMethodDescriptor y.desc = some sig → argsL.length = sig.parameters.length)
    (hstack : g.stack = argsL.reverse ++ .ref b :: rest) (hW : 2 * g.monitorRoom + (rest.map fun v => v.category).sum ≤ W9) (hdg : decode c.code g.pc = .ok (.invokevirtual index, 3))
    (hpre : ∀ vm₁, s.WarmedH vm₁ → Pre ⟨T.setVm vm₁, locs, cells, slots⟩ (Value.ref b :: argsL).toArray) :
    (∃ (v : Option Value) (vm₁ : Vm) (B : Pt), s.WarmedH vm₁ ∧ Stand p l e R s m args below meth c B.U B.locs B.cells B.slots ∧ Post ⟨T.setVm vm₁, locs, cells, slots⟩ (Value.ref b :: argsL).toArray v B ∧
      ∀ target, Steps p.tables e below (B.U.setTop { g with pc := g.pc + 3, stack := v.toList ++ rest }) target → Steps p.tables e below (T.setTop g) target) ∨
    (∃ (q : Addr) (vm₁ : Vm) (B : Pt), s.WarmedH vm₁ ∧ Stand p l e R s m args below meth c B.U B.locs B.cells B.slots ∧ PostX ⟨T.setVm vm₁, locs, cells, slots⟩ (Value.ref b :: argsL).toArray q B ∧
      Steps p.tables e below (T.setTop g) ((B.U.setTop { g with stack := rest }).pushFrame (.throwing q))) := by
  obtain ⟨mk, methM, hnamed, hmethM, hstM, habM⟩ := Cond.instanceMethod_spec hinst
  obtain ⟨m8, methM', cM, hn8, hmethM', -, -, -, -, -, -, hsigM⟩ := Cond.codeWith_spec hcode
  cases Option.some.inj (hn8.symm.trans hnamed)
  cases hmethM.symm.trans hmethM'
  obtain ⟨c2, r2, m2, q1, q2, q3, q4, kP, hkP, hkPi⟩ := Cond.selects_spec hsel
  cases hcls.symm.trans q1
  cases (State.methodFound?_of_named hnamed hy).symm.trans q2
  cases hnamed.symm.trans q3
  have hselP : selectMethod e.platform s.vm cellB.cls mk = .method mk := by rw [Launch.admits_selectMethod X.admits]; exact q4
  obtain ⟨vm₁, X₁, hstep₁⟩ := X.invokevirtual hexec hown hlink hnamed hmethM hstM hkP hkPi hy (a := b) (cell := cellB) hcell
    (fun z h => by rw [h] at hobj; cases hobj) hselP hmethM habM hkP hkPi (g := g) hg (argsL := argsL) (rest := rest) (hlen _ hsigM) hstack hdg
  rcases hK m meth c ⟨T.setVm vm₁, locs, cells, slots⟩ { g with stack := rest } (.invokevirtual index) mk (Value.ref b :: argsL).toArray X₁ hg hsize hdg hW (X₁.named hnamed) (hpre vm₁ X₁.warmed) with ⟨v, B, X', hpost, hsteps⟩ | ⟨q, B, X', hpost, hsteps⟩
  · exact Or.inl ⟨v, vm₁, B, X₁.warmed, X', hpost, fun target h => hstep₁ _ fun acts => by rw [doInvoke_state]; exact hsteps.trans h⟩
  · exact Or.inr ⟨q, vm₁, B, X₁.warmed, X', hpost, hstep₁ _ fun acts => by rw [doInvoke_state]; exact hsteps⟩
theorem vx_callSX (X : Stand p l e R s m args below meth c T locs cells slots) (hexec : p.tables.exec = Jvm.exec) {own : String} {index : Nat} {y : MethodName} {bytes : ByteArray} {maxL : Nat} {ret : Option FieldType} {hh : List (Nat × Nat × Nat × Nat)}
    (hown : s.vm.findClass own = some m.cls) (hlink : (Cond.methodLink own index y).before args s = true) (hstat : (Cond.static y).before args s = true) (hinit : (Cond.initialized y.cls).before args s = true)
    (hcode : (Cond.codeWith y bytes maxL ret hh).before args s = true) (hy : y.cls ≠ "java/lang/invoke/MethodHandle" ∧ y.cls ≠ "java/lang/invoke/VarHandle")
    {W9 : Nat} {Pre : Pt → Array Value → Prop} {Post : Pt → Array Value → Option Value → Pt → Prop} {PostX : Pt → Array Value → Addr → Pt → Prop} (hK : vx_Back l R p e below s args y 3 W9 Pre Post PostX)
    {g : JFrame} (hg : g.method = m) (hsize : g.locals.size = c.maxLocals) {argsL rest : List Value} (hlen : ∀ sig, parseMethodDescriptor y.desc = some sig → argsL.length = sig.parameters.length)
    (hstack : g.stack = argsL.reverse ++ rest) (hW : 2 * g.monitorRoom + (rest.map fun v => v.category).sum ≤ W9) (hdg : decode c.code g.pc = .ok (.invokestatic index, 3))
    (hpre : ∀ vm₁, s.WarmedH vm₁ → Pre ⟨T.setVm vm₁, locs, cells, slots⟩ argsL.toArray) :
    (∃ (v : Option Value) (vm₁ : Vm) (B : Pt), s.WarmedH vm₁ ∧ Stand p l e R s m args below meth c B.U B.locs B.cells B.slots ∧ Post ⟨T.setVm vm₁, locs, cells, slots⟩ argsL.toArray v B ∧
      ∀ target, Steps p.tables e below (B.U.setTop { g with pc := g.pc + 3, stack := v.toList ++ rest }) target → Steps p.tables e below (T.setTop g) target) ∨
    (∃ (q : Addr) (vm₁ : Vm) (B : Pt), s.WarmedH vm₁ ∧ Stand p l e R s m args below meth c B.U B.locs B.cells B.slots ∧ PostX ⟨T.setVm vm₁, locs, cells, slots⟩ argsL.toArray q B ∧
      Steps p.tables e below (T.setTop g) ((B.U.setTop { g with stack := rest }).pushFrame (.throwing q))) := by
  obtain ⟨mk, methM, cM, hnamed, hmethM, -, -, -, -, -, -, hsigM⟩ := Cond.codeWith_spec hcode
  have hstatic : methM.isStatic = true := Cond.static_spec hnamed hmethM hstat
  obtain ⟨kP, hkP, -⟩ := className_of_methodNamed hnamed
  have hinitP : kP.init = .initialized := Cond.initialized_spec (findClass_of_methodNamed hnamed) hkP hinit
  obtain ⟨vm₁, X₁, hstep₁⟩ := X.invokestatic hexec hown hlink hnamed hmethM hstatic hkP hinitP hy (g := g) hg (argsL := argsL) (rest := rest) (hlen _ hsigM) hstack hdg
  rcases hK m meth c ⟨T.setVm vm₁, locs, cells, slots⟩ { g with stack := rest } (.invokestatic index) mk argsL.toArray X₁ hg hsize hdg hW (X₁.named hnamed) (hpre vm₁ X₁.warmed) with ⟨v, B, X', hpost, hsteps⟩ | ⟨q, B, X', hpost, hsteps⟩
  · exact Or.inl ⟨v, vm₁, B, X₁.warmed, X', hpost, fun target h => hstep₁ _ fun acts => by rw [doInvoke_state]; exact hsteps.trans h⟩
  · exact Or.inr ⟨q, vm₁, B, X₁.warmed, X', hpost, hstep₁ _ fun acts => by rw [doInvoke_state]; exact hsteps⟩
theorem vx_callVW (X : Stand p l e R s m args below meth c T locs cells slots) (hexec : p.tables.exec = Jvm.exec) {own C : String} {index : Nat} {y : MethodName} {bytes : ByteArray} {maxL : Nat} {ret : Option FieldType} {hh : List (Nat × Nat × Nat × Nat)}
    (hown : s.vm.findClass own = some m.cls) (hlink : (Cond.methodLink own index y).before args s = true) (hinst : (Cond.instanceMethod y).before args s = true) (hsel : (Cond.selects C y y).before args s = true)
    (hcode : (Cond.codeWith y bytes maxL ret hh).before args s = true) (hy : y.cls ≠ "java/lang/invoke/MethodHandle" ∧ y.cls ≠ "java/lang/invoke/VarHandle")
    {W9 : Nat} {Pre : Pt → Array Value → Prop} {Post : Pt → Array Value → Option Value → Pt → Prop} (hK : Back l R p e below s args y 3 W9 Pre Post)
    {b : Addr} {cellB : Cell} (hcell : T.heap[b]? = some cellB) (hobj : cellB.vm.isStatics = false) (hcls : s.vm.findClass C = some cellB.cls)
    {g : JFrame} (hg : g.method = m) (hsize : g.locals.size = c.maxLocals) {argsL rest : List Value} (hlen : ∀ sig, parseMethodDescriptor y.desc = some sig → argsL.length = sig.parameters.length)
    (hstack : g.stack = argsL.reverse ++ .ref b :: rest) (hW : 2 * g.monitorRoom + (rest.map fun v => v.category).sum ≤ W9) (hdg : decode c.code g.pc = .ok (.invokevirtual index, 3))
    (hpre : ∀ vm₁, s.WarmedH vm₁ → Pre ⟨T.setVm vm₁, locs, cells, slots⟩ (Value.ref b :: argsL).toArray) :
    ∃ (v : Option Value) (vm₁ : Vm) (B : Pt), s.WarmedH vm₁ ∧ Stand p l e R s m args below meth c B.U B.locs B.cells B.slots ∧ Post ⟨T.setVm vm₁, locs, cells, slots⟩ (Value.ref b :: argsL).toArray v B ∧
      ∀ target, Steps p.tables e below (B.U.setTop { g with pc := g.pc + 3, stack := v.toList ++ rest }) target → Steps p.tables e below (T.setTop g) target := by
  obtain ⟨mk, methM, hnamed, hmethM, hstM, habM⟩ := Cond.instanceMethod_spec hinst
  obtain ⟨m8, methM', cM, hn8, hmethM', -, -, -, -, -, -, hsigM⟩ := Cond.codeWith_spec hcode
  cases Option.some.inj (hn8.symm.trans hnamed)
  cases hmethM.symm.trans hmethM'
  obtain ⟨c2, r2, m2, q1, q2, q3, q4, kP, hkP, hkPi⟩ := Cond.selects_spec hsel
  cases hcls.symm.trans q1
  cases (State.methodFound?_of_named hnamed hy).symm.trans q2
  cases hnamed.symm.trans q3
  have hselP : selectMethod e.platform s.vm cellB.cls mk = .method mk := by rw [Launch.admits_selectMethod X.admits]; exact q4
  obtain ⟨vm₁, X₁, hstep₁⟩ := X.invokevirtual hexec hown hlink hnamed hmethM hstM hkP hkPi hy (a := b) (cell := cellB) hcell
    (fun z h => by rw [h] at hobj; cases hobj) hselP hmethM habM hkP hkPi (g := g) hg (argsL := argsL) (rest := rest) (hlen _ hsigM) hstack hdg
  obtain ⟨v, B, X', hpost, hsteps⟩ := hK m meth c ⟨T.setVm vm₁, locs, cells, slots⟩ { g with stack := rest } (.invokevirtual index) mk (Value.ref b :: argsL).toArray X₁ hg hsize hdg hW (X₁.named hnamed) (hpre vm₁ X₁.warmed)
  exact ⟨v, vm₁, B, X₁.warmed, X', hpost, fun target h => hstep₁ _ fun acts => by rw [doInvoke_state]; exact hsteps.trans h⟩
abbrev vx_CVW (R : Room) (s : State) (args : Array Value) (own C : String) (index : Nat) (y : MethodName) (bytes : ByteArray) (maxL : Nat) (ret : Option FieldType) (hh : List (Nat × Nat × Nat × Nat)) (ws : List Cond) (rm : Room) (mc ms n : Nat) : Prop :=
  (rm.cells = mc ∧ rm.slots = ms ∧ rm.frames + 1 ≤ R.frames ∧ 8 + (maxL + 11) + rm.locals ≤ R.locals ∧ (∀ w ∈ ws, ∀ (a' : Array Value) (U : State), s.WarmedH U.vm → w.before a' U = true) ∧ Cond.codeWith y bytes maxL ret hh ∈ ws) ∧
  (Cond.codeWith y bytes maxL ret hh).before args s = true ∧ (Cond.initialized y.cls).before args s = true ∧ (y.cls ≠ "java/lang/invoke/MethodHandle" ∧ y.cls ≠ "java/lang/invoke/VarHandle") ∧
  (∀ sig, parseMethodDescriptor y.desc = some sig → n = sig.parameters.length) ∧ (Cond.methodLink own index y).before args s = true ∧ (Cond.instanceMethod y).before args s = true ∧ (Cond.selects C y y).before args s = true
theorem vx_cwVW {own C : String} {index maxL mc ms : Nat} {y : MethodName} {bytes : ByteArray} {ret : Option FieldType} {hh : List (Nat × Nat × Nat × Nat)} {Ts ws ws' : List Cond} {rm : Room} (n : Nat) (ht : ∀ w ∈ Ts, w.before args s = true) (hT : GoodIn Ts (wsV own index C y ws)) (hw : ws = Cond.codeWith y bytes maxL ret hh :: ws') (hrc : rm.cells = mc) (hrs : rm.slots = ms)
    (hd : y.cls = C ∧ y.cls ≠ "java/lang/invoke/MethodHandle" ∧ y.cls ≠ "java/lang/invoke/VarHandle" ∧ (parseMethodDescriptor y.desc).map (fun d => d.parameters.length) = some n) (hR : rm.frames + 1 ≤ R.frames ∧ 8 + (maxL + 11) + rm.locals ≤ R.locals) :
    vx_CVW R s args own C index y bytes maxL ret hh ws rm mc ms n := by
  obtain ⟨hC, hd⟩ := hd
  subst hC
  have ok : ∀ w ∈ wsV own index y.cls y ws, w.before args s = true := fun w h => ht w (hT w h).1
  have hG : GoodIn Ts ws := fun w h => hT w (by unfold wsV; exact List.mem_append_right _ h)
  have hc : Cond.codeWith y bytes maxL ret hh ∈ ws := by rw [hw]; exact List.mem_cons_self
  refine ⟨⟨hrc, hrs, hR.1, hR.2, pay_in ht hG, hc⟩, ht _ (hG _ hc).1, ok _ (by simp [wsV]), ⟨hd.1, hd.2.1⟩, fun sig h => ?_, ok _ (by simp [wsV]), ok _ (by simp [wsV]), ok _ (by simp [wsV])⟩
  have h2 := hd.2.2
  rw [h] at h2
  exact (Option.some.inj h2).symm
theorem vx_runVW {y : MethodName} {bytes cc : ByteArray} {maxL nL mc ms n index : Nat} {ret : Option FieldType} {hh : List (Nat × Nat × Nat × Nat)} {ws : List Cond} {rm : Room} {Pc : Array Value → State → Prop} {Qc : Array Value → State → Outcome → State → Prop} {free : Addr → Prop} {Ts : List Cond} {own C : String} {b : Addr} {As rest : List Value} {g : JFrame}
    (S : CallFix p m c cc nL s args Ts own) (hM : Met l y ws rm Pc Qc mc ms free) (cw : vx_CVW R s args own C index y bytes maxL ret hh ws rm mc ms n) (hp : PreV s H C b Pc As)
    (hg : g.method = m) (hn : As.length = n) (hsize : g.locals.size = nL) (hstack : g.stack = As.reverse ++ .ref b :: rest) (hW : 2 * g.monitorRoom + (rest.map fun v => v.category).sum ≤ 8) (hdg : decode cc g.pc = .ok (.invokevirtual index, 3)) (hf : cells + mc ≤ R.cells ∧ slots + ms ≤ R.slots) :
    va_Run p l e R s m args below meth c H locs cells slots mc ms g rest (Qc (Value.ref b :: As).toArray) free := by
  obtain ⟨⟨hrc, hrs, hfr, hlo, hws, hcw⟩, hcode, hini, hy, hlen, hl, hin, hse⟩ := cw
  have hK : Back l R p e below s args y 3 8 (PreOf R mc ms Pc) (PostOf Qc mc ms free) := va_backW (hh := hh) (bytes := bytes) (maxL := maxL) (ret := ret) hM hp.1 hrc hrs hfr hlo hws hcw (fun a' U hW => word_at hW (Or.inl (by first | rfl | simp [Cond.onTables, Cond.keeps, Cond.steady])) hini)
  obtain ⟨hx, hb, hml, ho, -⟩ := S
  obtain ⟨-, ⟨cellB, hcB, hoB, hclB⟩, hPc⟩ := hp
  intro T hT X
  obtain ⟨v, vm₁, ⟨U', l2, c2, s2⟩, hW₁, X', ⟨g', mk, t, L, e1, e2, hq, h1, hL, h2, h3⟩, st⟩ := vx_callVW X hx (C := C) (hh := hh) (bytes := bytes) (maxL := maxL) (ret := ret) ho hl hin hse hcode hy hK (by rw [hT]; exact hcB) hoB hclB hg (hsize.trans hml.symm) (argsL := As) (rest := rest) (fun sig h => hn.trans (hlen sig h)) hstack hW (by rw [hb]; exact hdg)
    (fun vm₁ hW₁ => ⟨hf.1, hf.2, hPc (T.setVm vm₁) hT hW₁⟩)
  dsimp only [Pt.U, Pt.locs, Pt.cells, Pt.slots] at X' e1 e2 h1 h2 h3 st
  subst h1; subst h2; subst h3
  exact ⟨v, (T.setVm vm₁).calling g' mk (Value.ref b :: As).toArray, t, U', L, hT, X', hL, e1, e2, hq, st⟩
section
variable {y : MethodName} {bytes cc : ByteArray} {maxL nL mc ms n index : Nat} {ret : Option FieldType} {ws : List Cond} {rm : Room} {Pc : Array Value → State → Prop} {Qc : Array Value → State → Outcome → State → Prop} {XC : String → State → State → Prop} {free : Addr → Prop} {Ts : List Cond} {own C : String} {b : Addr} {As rest : List Value} {g : JFrame}
theorem vx_runVX {hh : List (Nat × Nat × Nat × Nat)} (S : CallFix p m c cc nL s args Ts own) (hM : vx_Met l y ws rm Pc Qc XC mc ms free) (cw : vx_CVW R s args own C index y bytes maxL ret hh ws rm mc ms n) (hp : PreV s H C b Pc As)
    (hg : g.method = m) (hn : As.length = n) (hsize : g.locals.size = nL) (hstack : g.stack = As.reverse ++ .ref b :: rest) (hW : 2 * g.monitorRoom + (rest.map fun v => v.category).sum ≤ 8) (hdg : decode cc g.pc = .ok (.invokevirtual index, 3)) (hf : cells + mc ≤ R.cells ∧ slots + ms ≤ R.slots) :
    vx_Run p l e R s m args below meth c H locs cells slots mc ms g rest (Qc (Value.ref b :: As).toArray) XC free := by
  obtain ⟨⟨hrc, hrs, hfr, hlo, hws, hcw⟩, hcode, hini, hy, hlen, hl, hin, hse⟩ := cw
  have hK : vx_Back l R p e below s args y 3 8 (PreOf R mc ms Pc) (PostOf Qc mc ms free) (vx_Post XC mc ms free) := vx_backW (hh := hh) (bytes := bytes) (maxL := maxL) (ret := ret) hM hp.1 hrc hrs hfr hlo hws hcw (fun a' U hW => word_at hW (Or.inl (by first | rfl | simp [Cond.onTables, Cond.keeps, Cond.steady])) hini)
  obtain ⟨hx, hb, hml, ho, -⟩ := S
  obtain ⟨-, ⟨cellB, hcB, hoB, hclB⟩, hPc⟩ := hp
  intro T hT X
  rcases vx_callVX X hx (C := C) (hh := hh) (bytes := bytes) (maxL := maxL) (ret := ret) ho hl hin hse hcode hy hK (by rw [hT]; exact hcB) hoB hclB hg (hsize.trans hml.symm) (argsL := As) (rest := rest) (fun sig h => hn.trans (hlen sig h)) hstack hW (by rw [hb]; exact hdg)
    (fun vm₁ hW₁ => ⟨hf.1, hf.2, hPc (T.setVm vm₁) hT hW₁⟩) with ⟨v, vm₁, ⟨U', l2, c2, s2⟩, hW₁, X', ⟨g', mk, t, L, e1, e2, hq, h1, hL, h2, h3⟩, st⟩ | ⟨q, vm₁, ⟨U', l2, c2, s2⟩, hW₁, X', ⟨g', mk, t, L, E, ce, e1, e2, hq, hce, hcv, hcl, h1, hL, h2, h3⟩, st⟩
  · dsimp only [Pt.U, Pt.locs, Pt.cells, Pt.slots] at X' e1 e2 h1 h2 h3 st
    subst h1; subst h2; subst h3
    exact Or.inl ⟨v, (T.setVm vm₁).calling g' mk (Value.ref b :: As).toArray, t, U', L, hT, X', hL, e1, e2, hq, st⟩
  · dsimp only [Pt.U, Pt.locs, Pt.cells, Pt.slots] at X' e1 e2 h1 h2 h3 st hcl
    subst h1; subst h2; subst h3
    exact Or.inr ⟨q, (T.setVm vm₁).calling g' mk (Value.ref b :: As).toArray, t, U', L, E, ce, hT, X', hL, e1, e2, hq, hce, hcv, vx_cls hW₁ hcl, st⟩
theorem vx_runSX {hh : List (Nat × Nat × Nat × Nat)} (S : CallFix p m c cc nL s args Ts own) (hM : vx_Met l y ws rm Pc Qc XC mc ms free) (cw : vx_CSW R s args own index y bytes maxL ret hh ws rm mc ms n) (hp : PreS s H Pc As)
    (hg : g.method = m) (hn : As.length = n) (hsize : g.locals.size = nL) (hstack : g.stack = As.reverse ++ rest) (hW : 2 * g.monitorRoom + (rest.map fun v => v.category).sum ≤ 8) (hdg : decode cc g.pc = .ok (.invokestatic index, 3)) (hf : cells + mc ≤ R.cells ∧ slots + ms ≤ R.slots) :
    vx_Run p l e R s m args below meth c H locs cells slots mc ms g rest (Qc As.toArray) XC free := by
  obtain ⟨⟨hrc, hrs, hfr, hlo, hws, hcw⟩, hcode, hini, hy, hlen, hl, hstt⟩ := cw
  have hK : vx_Back l R p e below s args y 3 8 (PreOf R mc ms Pc) (PostOf Qc mc ms free) (vx_Post XC mc ms free) := vx_backW (hh := hh) (bytes := bytes) (maxL := maxL) (ret := ret) hM hp.1 hrc hrs hfr hlo hws hcw (fun a' U hW => word_at hW (Or.inl (by first | rfl | simp [Cond.onTables, Cond.keeps, Cond.steady])) hini)
  obtain ⟨hx, hb, hml, ho, -⟩ := S
  intro T hT X
  rcases vx_callSX X hx (hh := hh) (bytes := bytes) (maxL := maxL) (ret := ret) ho hl hstt hini hcode hy hK hg (hsize.trans hml.symm) (argsL := As) (rest := rest) (fun sig h => hn.trans (hlen sig h)) hstack hW (by rw [hb]; exact hdg)
    (fun vm₁ hW₁ => ⟨hf.1, hf.2, hp.2 (T.setVm vm₁) hT hW₁⟩) with ⟨v, vm₁, ⟨U', l2, c2, s2⟩, hW₁, X', ⟨g', mk, t, L, e1, e2, hq, h1, hL, h2, h3⟩, st⟩ | ⟨q, vm₁, ⟨U', l2, c2, s2⟩, hW₁, X', ⟨g', mk, t, L, E, ce, e1, e2, hq, hce, hcv, hcl, h1, hL, h2, h3⟩, st⟩
  · dsimp only [Pt.U, Pt.locs, Pt.cells, Pt.slots] at X' e1 e2 h1 h2 h3 st
    subst h1; subst h2; subst h3
    exact Or.inl ⟨v, (T.setVm vm₁).calling g' mk As.toArray, t, U', L, hT, X', hL, e1, e2, hq, st⟩
  · dsimp only [Pt.U, Pt.locs, Pt.cells, Pt.slots] at X' e1 e2 h1 h2 h3 st hcl
    subst h1; subst h2; subst h3
    exact Or.inr ⟨q, (T.setVm vm₁).calling g' mk As.toArray, t, U', L, E, ce, hT, X', hL, e1, e2, hq, hce, hcv, vx_cls hW₁ hcl, st⟩
end
end VXH
theorem vx_ofWH {l : Launch} {y : MethodName} {ws ws' : List Cond} {rm : Room} {Pc : Array Value → State → Prop} {Qc : Array Value → State → Outcome → State → Prop} {XC : String → State → State → Prop} {mc ms : Nat} {free : Addr → Prop} {cc : ByteArray} {maxL : Nat} {ret : Option FieldType} {hh : List (Nat × Nat × Nat × Nat)}
    (hy : plainName y.cls = true) (hw : ws = Cond.codeWith y cc maxL ret hh :: ws')
    (body : ∀ p e s m args below meth c s₁, BodyLoose p l y (headSpec ws rm) cc maxL ret e s m args below meth c s₁ → c.maxLocals = maxL → Pc args s →
      W p l e (headSpec ws rm).room s m args below meth c s.heap [] 0 0 (vx_MQ below Qc XC args s mc ms free) (entryFrame m args maxL)) : vx_Met l y ws rm Pc Qc XC mc ms free := by
  refine MetFree.of_bodyS (code := cc) (maxLocals := maxL) (ret := ret) hy ?_ ?_
  · intro args s m h hn
    obtain ⟨m9, meth, c, hn9, h1, h2, h3, h4, -, h5, h6, -⟩ := Cond.codeWith_spec (atoms_spec (ws := ws) h _ (by rw [hw]; exact List.mem_cons_self))
    cases hn.symm.trans hn9
    exact ⟨meth, c, h1, h2, h3, h4, h5, h6⟩
  · intro p e s m args below meth c s₁ B hml hP _
    have hh0 : s₁.heap = s.heap := by rw [B.state]; rfl
    obtain ⟨t, a1, o, b1, b2, b3⟩ := body p e s m args below meth c s₁ B hml hP s₁ hh0 (Stand.of_body B)
    exact ⟨t, o, a1, b1, b2, b3⟩
/-! ===== END ===== -/
end
section
/-! ===== BEGIN printed: names, fields, word lists, decode rows ===== -/
def RX0 : String := "SquareGears$Gears"
def TX0 : u_T := fun k => match k with
  | 0 => ("SquareGears$Gears", "amplitudes", "[I", true)
  | 1 => ("SquareGears$Gears", "pattern", "[I", true)
  | 2 => ("SquareGears$Gears", "lostWheels", "I", false)
  | _ => ("SquareGears$Gears", "changedByFits", "I", false)
def tyX0 : Nat → FieldType := fun k => match k with
  | 0 => .array .int
  | 1 => .array .int
  | 2 => .int
  | _ => .int
abbrev wsX00 : List Cond := u_ws RX0 TX0 4
theorem nmX0 : ∀ a, a < 4 → ∀ b, b < 4 → a ≠ b → (TX0 a).2.1 ≠ (TX0 b).2.1 := by decide +kernel
theorem tyX0_ok : ∀ k, k < 4 → parseFieldDescriptor (TX0 k).2.2.1 = some (tyX0 k) := by decide +kernel
abbrev cX0_init : ByteArray := prog_2_method_1_code
def yX0_init : MethodName := ⟨RX0, "<init>", "()V"⟩
abbrev cX0_takeFrom : ByteArray := prog_2_method_2_code
def yX0_takeFrom : MethodName := ⟨RX0, "takeFrom", "(LSquareGears$Gears;)V"⟩
abbrev cX0_isLost : ByteArray := prog_2_method_3_code
def yX0_isLost : MethodName := ⟨RX0, "isLost", "(I)Z"⟩
abbrev cX0_drawnAmplitude : ByteArray := prog_2_method_4_code
def yX0_drawnAmplitude : MethodName := ⟨RX0, "drawnAmplitude", "(I)I"⟩
abbrev cX0_drawingWheels : ByteArray := prog_2_method_5_code
def yX0_drawingWheels : MethodName := ⟨RX0, "drawingWheels", "()I"⟩
abbrev cX0_traceAt : ByteArray := prog_2_method_6_code
def yX0_traceAt : MethodName := ⟨RX0, "traceAt", "(I)I"⟩
abbrev cX0_differenceAt : ByteArray := prog_2_method_7_code
def yX0_differenceAt : MethodName := ⟨RX0, "differenceAt", "(I)I"⟩
abbrev cX0_jumpAt : ByteArray := prog_2_method_8_code
def yX0_jumpAt : MethodName := ⟨RX0, "jumpAt", "(I)I"⟩
abbrev cX0_patternAmplitude : ByteArray := prog_2_method_9_code
def yX0_patternAmplitude : MethodName := ⟨RX0, "patternAmplitude", "(I)I"⟩
abbrev cX0_errorWithout : ByteArray := prog_2_method_10_code
def yX0_errorWithout : MethodName := ⟨RX0, "errorWithout", "(I)I"⟩
def RX1 : String := "SquareGears$SavedGears"
def TX1 : u_T := fun k => match k with
  | 0 => ("SquareGears$SavedGears", "ring", "[LSquareGears$Gears;", true)
  | 1 => ("SquareGears$SavedGears", "next", "I", false)
  | _ => ("SquareGears$SavedGears", "count", "I", false)
def tyX1 : Nat → FieldType := fun k => match k with
  | 0 => .array (.object "SquareGears$Gears")
  | 1 => .int
  | _ => .int
abbrev wsX10 : List Cond := u_ws RX1 TX1 3
theorem nmX1 : ∀ a, a < 3 → ∀ b, b < 3 → a ≠ b → (TX1 a).2.1 ≠ (TX1 b).2.1 := by decide +kernel
theorem tyX1_ok : ∀ k, k < 3 → parseFieldDescriptor (TX1 k).2.2.1 = some (tyX1 k) := by decide +kernel
abbrev cX1_init : ByteArray := prog_3_method_1_code
def yX1_init : MethodName := ⟨RX1, "<init>", "()V"⟩
abbrev cX1_push : ByteArray := prog_3_method_2_code
def yX1_push : MethodName := ⟨RX1, "push", "(LSquareGears$Gears;)V"⟩
abbrev cX1_popInto : ByteArray := prog_3_method_3_code
def yX1_popInto : MethodName := ⟨RX1, "popInto", "(LSquareGears$Gears;)V"⟩
def RX2 : String := "SquareGears$WheelText"
def TX2 : u_T := fun k => match k with
  | 0 => ("SquareGears$WheelText", "signs", "[C", true)
  | _ => ("SquareGears$WheelText", "length", "I", false)
def tyX2 : Nat → FieldType := fun k => match k with
  | 0 => .array .char
  | _ => .int
abbrev wsX20 : List Cond := u_ws RX2 TX2 2
theorem nmX2 : ∀ a, a < 2 → ∀ b, b < 2 → a ≠ b → (TX2 a).2.1 ≠ (TX2 b).2.1 := by decide +kernel
theorem tyX2_ok : ∀ k, k < 2 → parseFieldDescriptor (TX2 k).2.2.1 = some (tyX2 k) := by decide +kernel
abbrev cX2_init : ByteArray := prog_4_method_1_code
def yX2_init : MethodName := ⟨RX2, "<init>", "()V"⟩
abbrev cX2_isFull : ByteArray := prog_4_method_2_code
def yX2_isFull : MethodName := ⟨RX2, "isFull", "()Z"⟩
abbrev cX2_put : ByteArray := prog_4_method_3_code
def yX2_put : MethodName := ⟨RX2, "put", "(C)V"⟩
abbrev cX2_empty : ByteArray := prog_4_method_4_code
def yX2_empty : MethodName := ⟨RX2, "empty", "()V"⟩
abbrev cX2_errorPlace : ByteArray := prog_4_method_5_code
def yX2_errorPlace : MethodName := ⟨RX2, "errorPlace", "()I"⟩
abbrev cX2_tellsWheels : ByteArray := prog_4_method_6_code
def yX2_tellsWheels : MethodName := ⟨RX2, "tellsWheels", "()Z"⟩
abbrev cX2_placeBehind : ByteArray := prog_4_method_7_code
def yX2_placeBehind : MethodName := ⟨RX2, "placeBehind", "(IC)I"⟩
abbrev cX2_placeBehindFirstDigit : ByteArray := prog_4_method_8_code
def yX2_placeBehindFirstDigit : MethodName := ⟨RX2, "placeBehindFirstDigit", "(C)I"⟩
abbrev cX2_placeBehindWheel : ByteArray := prog_4_method_9_code
def yX2_placeBehindWheel : MethodName := ⟨RX2, "placeBehindWheel", "(C)I"⟩
abbrev cX2_isLetter : ByteArray := prog_4_method_10_code
def yX2_isLetter : MethodName := ⟨RX2, "isLetter", "(C)Z"⟩
abbrev cX2_isDigit : ByteArray := prog_4_method_11_code
def yX2_isDigit : MethodName := ⟨RX2, "isDigit", "(C)Z"⟩
abbrev cX2_tellTo : ByteArray := prog_4_method_12_code
def yX2_tellTo : MethodName := ⟨RX2, "tellTo", "(LSquareGears$Gears;)V"⟩
def RX3 : String := "SquareGears"
def TX3 : u_T := fun k => match k with
  | 0 => ("SquareGears", "now", "LSquareGears$Gears;", true)
  | 1 => ("SquareGears", "slots", "[LSquareGears$Gears;", true)
  | 2 => ("SquareGears", "keptSlots", "I", false)
  | 3 => ("SquareGears", "saved", "LSquareGears$SavedGears;", true)
  | 4 => ("SquareGears", "text", "LSquareGears$WheelText;", true)
  | _ => ("SquareGears", "row", "[I", true)
def tyX3 : Nat → FieldType := fun k => match k with
  | 0 => .object "SquareGears$Gears"
  | 1 => .array (.object "SquareGears$Gears")
  | 2 => .int
  | 3 => .object "SquareGears$SavedGears"
  | 4 => .object "SquareGears$WheelText"
  | _ => .array .int
abbrev wsX30 : List Cond := u_ws RX3 TX3 6
theorem nmX3 : ∀ a, a < 6 → ∀ b, b < 6 → a ≠ b → (TX3 a).2.1 ≠ (TX3 b).2.1 := by decide +kernel
theorem tyX3_ok : ∀ k, k < 6 → parseFieldDescriptor (TX3 k).2.2.1 = some (tyX3 k) := by decide +kernel
abbrev cX3_init : ByteArray := prog_1_method_1_code
def yX3_init : MethodName := ⟨RX3, "<init>", "()V"⟩
abbrev cX3_set : ByteArray := prog_1_method_2_code
def yX3_set : MethodName := ⟨RX3, "set", "(II)I"⟩
abbrev cX3_lose : ByteArray := prog_1_method_3_code
def yX3_lose : MethodName := ⟨RX3, "lose", "(I)I"⟩
abbrev cX3_turn : ByteArray := prog_1_method_4_code
def yX3_turn : MethodName := ⟨RX3, "turn", "(I)I"⟩
abbrev cX3_drop : ByteArray := prog_1_method_5_code
def yX3_drop : MethodName := ⟨RX3, "drop", "(I)I"⟩
abbrev cX3_point : ByteArray := prog_1_method_6_code
def yX3_point : MethodName := ⟨RX3, "point", "(II)I"⟩
abbrev cX3_copy : ByteArray := prog_1_method_7_code
def yX3_copy : MethodName := ⟨RX3, "copy", "()I"⟩
abbrev cX3_fit : ByteArray := prog_1_method_8_code
def yX3_fit : MethodName := ⟨RX3, "fit", "()I"⟩
abbrev cX3_append : ByteArray := prog_1_method_9_code
def yX3_append : MethodName := ⟨RX3, "append", "(I)I"⟩
abbrev cX3_clearBuffer : ByteArray := prog_1_method_10_code
def yX3_clearBuffer : MethodName := ⟨RX3, "clearBuffer", "()I"⟩
abbrev cX3_firstError : ByteArray := prog_1_method_11_code
def yX3_firstError : MethodName := ⟨RX3, "firstError", "()I"⟩
abbrev cX3_load : ByteArray := prog_1_method_12_code
def yX3_load : MethodName := ⟨RX3, "load", "()I"⟩
abbrev cX3_keep : ByteArray := prog_1_method_13_code
def yX3_keep : MethodName := ⟨RX3, "keep", "(I)I"⟩
abbrev cX3_goBack : ByteArray := prog_1_method_14_code
def yX3_goBack : MethodName := ⟨RX3, "goBack", "(I)I"⟩
abbrev cX3_undo : ByteArray := prog_1_method_15_code
def yX3_undo : MethodName := ⟨RX3, "undo", "()I"⟩
abbrev cX3_wheelOf : ByteArray := prog_1_method_16_code
def yX3_wheelOf : MethodName := ⟨RX3, "wheelOf", "(II)I"⟩
abbrev cX3_trace : ByteArray := prog_1_method_17_code
def yX3_trace : MethodName := ⟨RX3, "trace", "(II)I"⟩
abbrev cX3_pointOf : ByteArray := prog_1_method_18_code
def yX3_pointOf : MethodName := ⟨RX3, "pointOf", "(II)I"⟩
abbrev cX3_count : ByteArray := prog_1_method_19_code
def yX3_count : MethodName := ⟨RX3, "count", "(I)I"⟩
abbrev cX3_findLost : ByteArray := prog_1_method_20_code
def yX3_findLost : MethodName := ⟨RX3, "findLost", "()I"⟩
abbrev cX3_enough : ByteArray := prog_1_method_21_code
def yX3_enough : MethodName := ⟨RX3, "enough", "(II)I"⟩
abbrev cX3_ifTurned : ByteArray := prog_1_method_22_code
def yX3_ifTurned : MethodName := ⟨RX3, "ifTurned", "(II)I"⟩
abbrev cX3_bestTurn : ByteArray := prog_1_method_23_code
def yX3_bestTurn : MethodName := ⟨RX3, "bestTurn", "()I"⟩
abbrev cX3_mainShare : ByteArray := prog_1_method_24_code
def yX3_mainShare : MethodName := ⟨RX3, "mainShare", "()D"⟩
abbrev cX3_digest : ByteArray := prog_1_method_25_code
def yX3_digest : MethodName := ⟨RX3, "digest", "()J"⟩
abbrev cX3_isOutside : ByteArray := prog_1_method_26_code
def yX3_isOutside : MethodName := ⟨RX3, "isOutside", "(III)Z"⟩
abbrev cX3_isNoPlace : ByteArray := prog_1_method_27_code
def yX3_isNoPlace : MethodName := ⟨RX3, "isNoPlace", "(I)Z"⟩
abbrev cX3_wave : ByteArray := prog_1_method_28_code
def yX3_wave : MethodName := ⟨RX3, "wave", "(II)I"⟩
abbrev cX3_hasSnapshot : ByteArray := prog_1_method_29_code
def yX3_hasSnapshot : MethodName := ⟨RX3, "hasSnapshot", "(I)Z"⟩
abbrev cX3_wheelNumber : ByteArray := prog_1_method_30_code
def yX3_wheelNumber : MethodName := ⟨RX3, "wheelNumber", "(II)I"⟩
abbrev cX3_changesOfWave : ByteArray := prog_1_method_31_code
def yX3_changesOfWave : MethodName := ⟨RX3, "changesOfWave", "(I)I"⟩
abbrev cX3_traceNumber : ByteArray := prog_1_method_32_code
def yX3_traceNumber : MethodName := ⟨RX3, "traceNumber", "(II)I"⟩
abbrev cX3_addAndSubtractHalves : ByteArray := prog_1_method_33_code
def yX3_addAndSubtractHalves : MethodName := ⟨RX3, "addAndSubtractHalves", "()V"⟩
abbrev cX3_pointNumber : ByteArray := prog_1_method_34_code
def yX3_pointNumber : MethodName := ⟨RX3, "pointNumber", "(II)I"⟩
abbrev cX3_countNumber : ByteArray := prog_1_method_35_code
def yX3_countNumber : MethodName := ⟨RX3, "countNumber", "(I)I"⟩
abbrev cX3_greatestTrace : ByteArray := prog_1_method_36_code
def yX3_greatestTrace : MethodName := ⟨RX3, "greatestTrace", "()I"⟩
abbrev cX3_leastTrace : ByteArray := prog_1_method_37_code
def yX3_leastTrace : MethodName := ⟨RX3, "leastTrace", "()I"⟩
abbrev cX3_greatestDifference : ByteArray := prog_1_method_38_code
def yX3_greatestDifference : MethodName := ⟨RX3, "greatestDifference", "()I"⟩
abbrev cX3_greatestJump : ByteArray := prog_1_method_39_code
def yX3_greatestJump : MethodName := ⟨RX3, "greatestJump", "()I"⟩
abbrev cX3_overshoot : ByteArray := prog_1_method_40_code
def yX3_overshoot : MethodName := ⟨RX3, "overshoot", "()I"⟩
abbrev cX3_isDifference : ByteArray := prog_1_method_41_code
def yX3_isDifference : MethodName := ⟨RX3, "isDifference", "(II)Z"⟩
abbrev cX3_fewestNumber : ByteArray := prog_1_method_42_code
def yX3_fewestNumber : MethodName := ⟨RX3, "fewestNumber", "(II)I"⟩
abbrev cX3_fewestByDropping : ByteArray := prog_1_method_43_code
def yX3_fewestByDropping : MethodName := ⟨RX3, "fewestByDropping", "(I)I"⟩
abbrev cX3_leastInRow : ByteArray := prog_1_method_44_code
def yX3_leastInRow : MethodName := ⟨RX3, "leastInRow", "()I"⟩
abbrev cX3_fewestOfAllSets : ByteArray := prog_1_method_45_code
def yX3_fewestOfAllSets : MethodName := ⟨RX3, "fewestOfAllSets", "(I)I"⟩
abbrev cX3_differencesIfTurned : ByteArray := prog_1_method_46_code
def yX3_differencesIfTurned : MethodName := ⟨RX3, "differencesIfTurned", "(I)I"⟩
abbrev cX3_hashed : ByteArray := prog_1_method_47_code
def yX3_hashed : MethodName := ⟨RX3, "hashed", "(JJ)J"⟩
abbrev cX3_hashedWheels : ByteArray := prog_1_method_48_code
def yX3_hashedWheels : MethodName := ⟨RX3, "hashedWheels", "(J)J"⟩
abbrev cX3_hashedPoints : ByteArray := prog_1_method_49_code
def yX3_hashedPoints : MethodName := ⟨RX3, "hashedPoints", "(J)J"⟩
abbrev cX3_hashedFewest : ByteArray := prog_1_method_50_code
def yX3_hashedFewest : MethodName := ⟨RX3, "hashedFewest", "(JI)J"⟩
abbrev cX3_bitsOfShare : ByteArray := prog_1_method_51_code
def yX3_bitsOfShare : MethodName := ⟨RX3, "bitsOfShare", "(D)J"⟩
def RX4 : String := "SquareGearsModel"
def TX4 : u_T := fun k => match k with
  | 0 => ("SquareGearsModel", "thrown", "I", false)
  | 1 => ("SquareGearsModel", "z", "[I", true)
  | 2 => ("SquareGearsModel", "saved", "[I", true)
  | 3 => ("SquareGearsModel", "saves", "I", false)
  | 4 => ("SquareGearsModel", "slots", "[I", true)
  | 5 => ("SquareGearsModel", "isKept", "[Z", true)
  | 6 => ("SquareGearsModel", "text", "[I", true)
  | 7 => ("SquareGearsModel", "length", "I", false)
  | 8 => ("SquareGearsModel", "wheel", "I", false)
  | 9 => ("SquareGearsModel", "amplitude", "I", false)
  | 10 => ("SquareGearsModel", "isLoss", "Z", false)
  | _ => ("SquareGearsModel", "isOut", "[Z", true)
def tyX4 : Nat → FieldType := fun k => match k with
  | 0 => .int
  | 1 => .array .int
  | 2 => .array .int
  | 3 => .int
  | 4 => .array .int
  | 5 => .array .boolean
  | 6 => .array .int
  | 7 => .int
  | 8 => .int
  | 9 => .int
  | 10 => .boolean
  | _ => .array .boolean
abbrev wsX40 : List Cond := u_ws RX4 TX4 12
theorem nmX4 : ∀ a, a < 12 → ∀ b, b < 12 → a ≠ b → (TX4 a).2.1 ≠ (TX4 b).2.1 := by decide +kernel
theorem tyX4_ok : ∀ k, k < 12 → parseFieldDescriptor (TX4 k).2.2.1 = some (tyX4 k) := by decide +kernel
abbrev cX4_init : ByteArray := prog_6_method_1_code
def yX4_init : MethodName := ⟨RX4, "<init>", "()V"⟩
abbrev cX4_thrown : ByteArray := prog_6_method_2_code
def yX4_thrown : MethodName := ⟨RX4, "thrown", "()I"⟩
abbrev cX4_in : ByteArray := prog_6_method_3_code
def yX4_in : MethodName := ⟨RX4, "in", "(III)Z"⟩
abbrev cX4_isOne : ByteArray := prog_6_method_4_code
def yX4_isOne : MethodName := ⟨RX4, "isOne", "(I)Z"⟩
abbrev cX4_amount : ByteArray := prog_6_method_5_code
def yX4_amount : MethodName := ⟨RX4, "amount", "(I)I"⟩
abbrev cX4_wave : ByteArray := prog_6_method_6_code
def yX4_wave : MethodName := ⟨RX4, "wave", "(II)I"⟩
abbrev cX4_used : ByteArray := prog_6_method_7_code
def yX4_used : MethodName := ⟨RX4, "used", "(I)I"⟩
abbrev cX4_traceAt : ByteArray := prog_6_method_8_code
def yX4_traceAt : MethodName := ⟨RX4, "traceAt", "(I)I"⟩
abbrev cX4_difference : ByteArray := prog_6_method_9_code
def yX4_difference : MethodName := ⟨RX4, "difference", "(I)I"⟩
abbrev cX4_jump : ByteArray := prog_6_method_10_code
def yX4_jump : MethodName := ⟨RX4, "jump", "(I)I"⟩
abbrev cX4_ofPattern : ByteArray := prog_6_method_11_code
def yX4_ofPattern : MethodName := ⟨RX4, "ofPattern", "(I)I"⟩
abbrev cX4_turning : ByteArray := prog_6_method_12_code
def yX4_turning : MethodName := ⟨RX4, "turning", "()I"⟩
abbrev cX4_record : ByteArray := prog_6_method_13_code
def yX4_record : MethodName := ⟨RX4, "record", "()V"⟩
abbrev cX4_undo : ByteArray := prog_6_method_14_code
def yX4_undo : MethodName := ⟨RX4, "undo", "()I"⟩
abbrev cX4_keep : ByteArray := prog_6_method_15_code
def yX4_keep : MethodName := ⟨RX4, "keep", "(I)I"⟩
abbrev cX4_goBack : ByteArray := prog_6_method_16_code
def yX4_goBack : MethodName := ⟨RX4, "goBack", "(I)I"⟩
abbrev cX4_change : ByteArray := prog_6_method_17_code
def yX4_change : MethodName := ⟨RX4, "change", "(II)I"⟩
abbrev cX4_set : ByteArray := prog_6_method_18_code
def yX4_set : MethodName := ⟨RX4, "set", "(II)I"⟩
abbrev cX4_lose : ByteArray := prog_6_method_19_code
def yX4_lose : MethodName := ⟨RX4, "lose", "(I)I"⟩
abbrev cX4_turn : ByteArray := prog_6_method_20_code
def yX4_turn : MethodName := ⟨RX4, "turn", "(I)I"⟩
abbrev cX4_drop : ByteArray := prog_6_method_21_code
def yX4_drop : MethodName := ⟨RX4, "drop", "(I)I"⟩
abbrev cX4_point : ByteArray := prog_6_method_22_code
def yX4_point : MethodName := ⟨RX4, "point", "(II)I"⟩
abbrev cX4_copy : ByteArray := prog_6_method_23_code
def yX4_copy : MethodName := ⟨RX4, "copy", "()I"⟩
abbrev cX4_fit : ByteArray := prog_6_method_24_code
def yX4_fit : MethodName := ⟨RX4, "fit", "()I"⟩
abbrev cX4_append : ByteArray := prog_6_method_25_code
def yX4_append : MethodName := ⟨RX4, "append", "(I)I"⟩
abbrev cX4_clearBuffer : ByteArray := prog_6_method_26_code
def yX4_clearBuffer : MethodName := ⟨RX4, "clearBuffer", "()I"⟩
abbrev cX4_at : ByteArray := prog_6_method_27_code
def yX4_at : MethodName := ⟨RX4, "at", "(I)I"⟩
abbrev cX4_readPart : ByteArray := prog_6_method_28_code
def yX4_readPart : MethodName := ⟨RX4, "readPart", "(I)I"⟩
abbrev cX4_findError : ByteArray := prog_6_method_29_code
def yX4_findError : MethodName := ⟨RX4, "findError", "()I"⟩
abbrev cX4_firstError : ByteArray := prog_6_method_30_code
def yX4_firstError : MethodName := ⟨RX4, "firstError", "()I"⟩
abbrev cX4_load : ByteArray := prog_6_method_31_code
def yX4_load : MethodName := ⟨RX4, "load", "()I"⟩
abbrev cX4_changes : ByteArray := prog_6_method_32_code
def yX4_changes : MethodName := ⟨RX4, "changes", "(I)I"⟩
abbrev cX4_wheelNow : ByteArray := prog_6_method_33_code
def yX4_wheelNow : MethodName := ⟨RX4, "wheelNow", "(II)I"⟩
abbrev cX4_wheelOf : ByteArray := prog_6_method_34_code
def yX4_wheelOf : MethodName := ⟨RX4, "wheelOf", "(II)I"⟩
abbrev cX4_trace : ByteArray := prog_6_method_35_code
def yX4_trace : MethodName := ⟨RX4, "trace", "(II)I"⟩
abbrev cX4_pointNow : ByteArray := prog_6_method_36_code
def yX4_pointNow : MethodName := ⟨RX4, "pointNow", "(II)I"⟩
abbrev cX4_pointOf : ByteArray := prog_6_method_37_code
def yX4_pointOf : MethodName := ⟨RX4, "pointOf", "(II)I"⟩
abbrev cX4_lost : ByteArray := prog_6_method_38_code
def yX4_lost : MethodName := ⟨RX4, "lost", "()I"⟩
abbrev cX4_greatestTrace : ByteArray := prog_6_method_39_code
def yX4_greatestTrace : MethodName := ⟨RX4, "greatestTrace", "()I"⟩
abbrev cX4_leastTrace : ByteArray := prog_6_method_40_code
def yX4_leastTrace : MethodName := ⟨RX4, "leastTrace", "()I"⟩
abbrev cX4_greatest : ByteArray := prog_6_method_41_code
def yX4_greatest : MethodName := ⟨RX4, "greatest", "(I)I"⟩
abbrev cX4_overshoot : ByteArray := prog_6_method_42_code
def yX4_overshoot : MethodName := ⟨RX4, "overshoot", "()I"⟩
abbrev cX4_countNow : ByteArray := prog_6_method_43_code
def yX4_countNow : MethodName := ⟨RX4, "countNow", "(I)I"⟩
abbrev cX4_count : ByteArray := prog_6_method_44_code
def yX4_count : MethodName := ⟨RX4, "count", "(I)I"⟩
abbrev cX4_explaining : ByteArray := prog_6_method_45_code
def yX4_explaining : MethodName := ⟨RX4, "explaining", "()I"⟩
abbrev cX4_findLost : ByteArray := prog_6_method_46_code
def yX4_findLost : MethodName := ⟨RX4, "findLost", "()I"⟩
abbrev cX4_fewest : ByteArray := prog_6_method_47_code
def yX4_fewest : MethodName := ⟨RX4, "fewest", "(I)I"⟩
abbrev cX4_enough : ByteArray := prog_6_method_48_code
def yX4_enough : MethodName := ⟨RX4, "enough", "(II)I"⟩
abbrev cX4_ifTurned : ByteArray := prog_6_method_49_code
def yX4_ifTurned : MethodName := ⟨RX4, "ifTurned", "(II)I"⟩
abbrev cX4_far : ByteArray := prog_6_method_50_code
def yX4_far : MethodName := ⟨RX4, "far", "(I)I"⟩
abbrev cX4_nearestTurn : ByteArray := prog_6_method_51_code
def yX4_nearestTurn : MethodName := ⟨RX4, "nearestTurn", "()I"⟩
abbrev cX4_bestTurn : ByteArray := prog_6_method_52_code
def yX4_bestTurn : MethodName := ⟨RX4, "bestTurn", "()I"⟩
abbrev cX4_share : ByteArray := prog_6_method_53_code
def yX4_share : MethodName := ⟨RX4, "share", "()D"⟩
abbrev cX4_mainShare : ByteArray := prog_6_method_54_code
def yX4_mainShare : MethodName := ⟨RX4, "mainShare", "()D"⟩
abbrev cX4_digest : ByteArray := prog_6_method_55_code
def yX4_digest : MethodName := ⟨RX4, "digest", "()J"⟩
def RJxe99ae : String := "java/lang/Double"
def TJxe99ae : u_T := fun k => match k with
  | _ => ("", "", "", false)
def tyJxe99ae : Nat → FieldType := fun k => match k with
  | _ => .int
abbrev wsJxe99ae0 : List Cond := u_ws RJxe99ae TJxe99ae 0
theorem nmJxe99ae : ∀ a, a < 0 → ∀ b, b < 0 → a ≠ b → (TJxe99ae a).2.1 ≠ (TJxe99ae b).2.1 := by decide +kernel
theorem tyJxe99ae_ok : ∀ k, k < 0 → parseFieldDescriptor (TJxe99ae k).2.2.1 = some (tyJxe99ae k) := by decide +kernel
abbrev cJxe99ae_isNaN_b9ae7 : ByteArray := prog_7_method_6_code
def yJxe99ae_isNaN_b9ae7 : MethodName := ⟨RJxe99ae, "isNaN", "(D)Z"⟩
abbrev cJxe99ae_doubleToLongBits_ccdee : ByteArray := prog_7_method_23_code
def yJxe99ae_doubleToLongBits_ccdee : MethodName := ⟨RJxe99ae, "doubleToLongBits", "(D)J"⟩
def RJ6 : String := "java/lang/Integer"
def TJ6 : u_T := fun k => match k with
  | _ => ("", "", "", false)
def tyJ6 : Nat → FieldType := fun k => match k with
  | _ => .int
abbrev wsJ60 : List Cond := u_ws RJ6 TJ6 0
theorem nmJ6 : ∀ a, a < 0 → ∀ b, b < 0 → a ≠ b → (TJ6 a).2.1 ≠ (TJ6 b).2.1 := by decide +kernel
theorem tyJ6_ok : ∀ k, k < 0 → parseFieldDescriptor (TJ6 k).2.2.1 = some (tyJ6 k) := by decide +kernel
abbrev cJ6_bitCount_0f7a4 : ByteArray := prog_12_method_49_code
def yJ6_bitCount_0f7a4 : MethodName := ⟨RJ6, "bitCount", "(I)I"⟩
def RJ9 : String := "java/lang/Math"
def TJ9 : u_T := fun k => match k with
  | _ => ("", "", "", false)
def tyJ9 : Nat → FieldType := fun k => match k with
  | _ => .int
abbrev wsJ90 : List Cond := u_ws RJ9 TJ9 0
theorem nmJ9 : ∀ a, a < 0 → ∀ b, b < 0 → a ≠ b → (TJ9 a).2.1 ≠ (TJ9 b).2.1 := by decide +kernel
theorem tyJ9_ok : ∀ k, k < 0 → parseFieldDescriptor (TJ9 k).2.2.1 = some (tyJ9 k) := by decide +kernel
abbrev cJ9_floorDiv_7cf53 : ByteArray := prog_13_method_47_code
def yJ9_floorDiv_7cf53 : MethodName := ⟨RJ9, "floorDiv", "(II)I"⟩
abbrev cJ9_abs_0f7a4 : ByteArray := prog_13_method_59_code
def yJ9_abs_0f7a4 : MethodName := ⟨RJ9, "abs", "(I)I"⟩
abbrev cJ9_max_7cf53 : ByteArray := prog_13_method_65_code
def yJ9_max_7cf53 : MethodName := ⟨RJ9, "max", "(II)I"⟩
abbrev cJ9_min_7cf53 : ByteArray := prog_13_method_69_code
def yJ9_min_7cf53 : MethodName := ⟨RJ9, "min", "(II)I"⟩
def RJ0 : String := "java/lang/String"
def TJ0 : u_T := fun k => match k with
  | _ => ("", "", "", false)
def tyJ0 : Nat → FieldType := fun k => match k with
  | _ => .int
abbrev wsJ00 : List Cond := u_ws RJ0 TJ0 0
theorem nmJ0 : ∀ a, a < 0 → ∀ b, b < 0 → a ≠ b → (TJ0 a).2.1 ≠ (TJ0 b).2.1 := by decide +kernel
theorem tyJ0_ok : ∀ k, k < 0 → parseFieldDescriptor (TJ0 k).2.2.1 = some (tyJ0 k) := by decide +kernel
def RJ10 : String := "java/lang/System"
def TJ10 : u_T := fun k => match k with
  | _ => ("", "", "", false)
def tyJ10 : Nat → FieldType := fun k => match k with
  | _ => .int
abbrev wsJ100 : List Cond := u_ws RJ10 TJ10 0
theorem nmJ10 : ∀ a, a < 0 → ∀ b, b < 0 → a ≠ b → (TJ10 a).2.1 ≠ (TJ10 b).2.1 := by decide +kernel
theorem tyJ10_ok : ∀ k, k < 0 → parseFieldDescriptor (TJ10 k).2.2.1 = some (tyJ10 k) := by decide +kernel
def RL : String := "SquareGearsLaw"
abbrev cL_set : ByteArray := method_3_code
def yL_set : MethodName := ⟨RL, "set", "(LSquareGears;II[J)I"⟩
abbrev cL_lose : ByteArray := method_4_code
def yL_lose : MethodName := ⟨RL, "lose", "(LSquareGears;I[J)I"⟩
abbrev cL_turn : ByteArray := method_5_code
def yL_turn : MethodName := ⟨RL, "turn", "(LSquareGears;I[J)I"⟩
abbrev cL_drop : ByteArray := method_6_code
def yL_drop : MethodName := ⟨RL, "drop", "(LSquareGears;I[J)I"⟩
abbrev cL_point : ByteArray := method_7_code
def yL_point : MethodName := ⟨RL, "point", "(LSquareGears;II[J)I"⟩
abbrev cL_append : ByteArray := method_8_code
def yL_append : MethodName := ⟨RL, "append", "(LSquareGears;I[J)I"⟩
abbrev cL_load : ByteArray := method_9_code
def yL_load : MethodName := ⟨RL, "load", "(LSquareGears;[J)I"⟩
abbrev cL_keep : ByteArray := method_10_code
def yL_keep : MethodName := ⟨RL, "keep", "(LSquareGears;I[J)I"⟩
abbrev cL_goBack : ByteArray := method_11_code
def yL_goBack : MethodName := ⟨RL, "goBack", "(LSquareGears;I[J)I"⟩
abbrev cL_undo : ByteArray := method_12_code
def yL_undo : MethodName := ⟨RL, "undo", "(LSquareGears;[J)I"⟩
abbrev cL_wheelOf : ByteArray := method_13_code
def yL_wheelOf : MethodName := ⟨RL, "wheelOf", "(LSquareGears;II[J)I"⟩
abbrev cL_trace : ByteArray := method_14_code
def yL_trace : MethodName := ⟨RL, "trace", "(LSquareGears;II[J)I"⟩
abbrev cL_pointOf : ByteArray := method_15_code
def yL_pointOf : MethodName := ⟨RL, "pointOf", "(LSquareGears;II[J)I"⟩
abbrev cL_count : ByteArray := method_16_code
def yL_count : MethodName := ⟨RL, "count", "(LSquareGears;I[J)I"⟩
abbrev cL_enough : ByteArray := method_17_code
def yL_enough : MethodName := ⟨RL, "enough", "(LSquareGears;II[J)I"⟩
abbrev cL_ifTurned : ByteArray := method_18_code
def yL_ifTurned : MethodName := ⟨RL, "ifTurned", "(LSquareGears;II[J)I"⟩
abbrev cL_law : ByteArray := code
def yL_law : MethodName := ⟨RL, "law", "([I)Z"⟩
def wsX0_init : List Cond := .code yX0_init cX0_init 1 none :: ([.methodLink RX0 3 objectInit, .instanceMethod objectInit, .code objectInit ⟨#[0xb1]⟩ 1 none, .arrayClass .int, .fieldLink RX0 9 "SquareGears$Gears" "amplitudes" "[I", .fieldLink RX0 15 "SquareGears$Gears" "pattern" "[I", .fieldLink RX0 18 "SquareGears$Gears" "lostWheels" "I", .fieldLink RX0 22 "SquareGears$Gears" "changedByFits" "I"] ++ wsX00)
def wsX0_takeFrom : List Cond := .code yX0_takeFrom cX0_takeFrom 2 none :: ([.fieldLink RX0 9 "SquareGears$Gears" "amplitudes" "[I", .methodLink RX0 25 arraycopyName, .native arraycopyName, .static arraycopyName, .initialized "java/lang/System", .fieldLink RX0 15 "SquareGears$Gears" "pattern" "[I", .fieldLink RX0 18 "SquareGears$Gears" "lostWheels" "I", .fieldLink RX0 22 "SquareGears$Gears" "changedByFits" "I"] ++ wsX00)
def wsX0_isLost : List Cond := .code yX0_isLost cX0_isLost 2 (some .boolean) :: ([.fieldLink RX0 18 "SquareGears$Gears" "lostWheels" "I"] ++ wsX00)
def wsX0_drawnAmplitude : List Cond := .code yX0_drawnAmplitude cX0_drawnAmplitude 2 (some .int) :: ([.fieldLink RX0 9 "SquareGears$Gears" "amplitudes" "[I", .methodLink RX0 31 yX0_isLost, .instanceMethod yX0_isLost, .selects RX0 yX0_isLost yX0_isLost, .initialized RX0, .code yX0_isLost cX0_isLost 2 (some .boolean), .fieldLink RX0 18 "SquareGears$Gears" "lostWheels" "I"] ++ wsX00)
def wsX0_drawingWheels : List Cond := .code yX0_drawingWheels cX0_drawingWheels 3 (some .int) :: ([.fieldLink RX0 9 "SquareGears$Gears" "amplitudes" "[I"] ++ wsX00)
def wsJ6_bitCount_0f7a4 : List Cond := .code yJ6_bitCount_0f7a4 cJ6_bitCount_0f7a4 1 (some .int) :: ([.constant RJ6 265 (1431655765), .constant RJ6 266 (858993459), .constant RJ6 267 (252645135)])
def wsX3_wave : List Cond := .code yX3_wave cX3_wave 2 (some .int) :: ([.methodLink RX3 240 yJ6_bitCount_0f7a4, .static yJ6_bitCount_0f7a4, .initialized RJ6, .code yJ6_bitCount_0f7a4 cJ6_bitCount_0f7a4 1 (some .int), .constant RJ6 265 (1431655765), .constant RJ6 266 (858993459), .constant RJ6 267 (252645135)])
def wsX0_traceAt : List Cond := .code yX0_traceAt cX0_traceAt 4 (some .int) :: ([.methodLink RX0 35 yX0_drawnAmplitude, .instanceMethod yX0_drawnAmplitude, .selects RX0 yX0_drawnAmplitude yX0_drawnAmplitude, .initialized RX0, .code yX0_drawnAmplitude cX0_drawnAmplitude 2 (some .int), .fieldLink RX0 9 "SquareGears$Gears" "amplitudes" "[I", .methodLink RX0 31 yX0_isLost, .instanceMethod yX0_isLost, .selects RX0 yX0_isLost yX0_isLost, .code yX0_isLost cX0_isLost 2 (some .boolean), .fieldLink RX0 18 "SquareGears$Gears" "lostWheels" "I", .static yX3_wave, .initialized RX3, .code yX3_wave cX3_wave 2 (some .int), .methodLink RX3 240 yJ6_bitCount_0f7a4, .static yJ6_bitCount_0f7a4, .initialized RJ6, .code yJ6_bitCount_0f7a4 cJ6_bitCount_0f7a4 1 (some .int), .constant RJ6 265 (1431655765), .constant RJ6 266 (858993459), .constant RJ6 267 (252645135)] ++ wsX00)
def wsX0_differenceAt_r1 : List Cond := [Cond.fieldLink RX0 15 "SquareGears$Gears" "pattern" "[I", Cond.methodLink RX0 43 yX0_traceAt, Cond.instanceMethod yX0_traceAt, Cond.selects RX0 yX0_traceAt yX0_traceAt, Cond.initialized RX0, Cond.code yX0_traceAt cX0_traceAt 4 (some .int), Cond.methodLink RX0 35 yX0_drawnAmplitude, Cond.instanceMethod yX0_drawnAmplitude, Cond.selects RX0 yX0_drawnAmplitude yX0_drawnAmplitude, Cond.code yX0_drawnAmplitude cX0_drawnAmplitude 2 (some .int), Cond.fieldLink RX0 9 "SquareGears$Gears" "amplitudes" "[I", Cond.methodLink RX0 31 yX0_isLost, Cond.instanceMethod yX0_isLost, Cond.selects RX0 yX0_isLost yX0_isLost, Cond.code yX0_isLost cX0_isLost 2 (some .boolean), Cond.fieldLink RX0 18 "SquareGears$Gears" "lostWheels" "I", Cond.static yX3_wave, Cond.initialized RX3, Cond.code yX3_wave cX3_wave 2 (some .int), Cond.methodLink RX3 240 yJ6_bitCount_0f7a4, Cond.static yJ6_bitCount_0f7a4, Cond.initialized RJ6, Cond.code yJ6_bitCount_0f7a4 cJ6_bitCount_0f7a4 1 (some .int), Cond.constant RJ6 265 (1431655765)]
def wsX0_differenceAt_r2 : List Cond := [Cond.constant RJ6 266 (858993459), Cond.constant RJ6 267 (252645135)]
def wsX0_differenceAt : List Cond := .code yX0_differenceAt cX0_differenceAt 2 (some .int) :: ((wsX0_differenceAt_r1 ++ wsX0_differenceAt_r2) ++ wsX00)
def wsX0_jumpAt_r1 : List Cond := [Cond.methodLink RX0 43 yX0_traceAt, Cond.instanceMethod yX0_traceAt, Cond.selects RX0 yX0_traceAt yX0_traceAt, Cond.initialized RX0, Cond.code yX0_traceAt cX0_traceAt 4 (some .int), Cond.methodLink RX0 35 yX0_drawnAmplitude, Cond.instanceMethod yX0_drawnAmplitude, Cond.selects RX0 yX0_drawnAmplitude yX0_drawnAmplitude, Cond.code yX0_drawnAmplitude cX0_drawnAmplitude 2 (some .int), Cond.fieldLink RX0 9 "SquareGears$Gears" "amplitudes" "[I", Cond.methodLink RX0 31 yX0_isLost, Cond.instanceMethod yX0_isLost, Cond.selects RX0 yX0_isLost yX0_isLost, Cond.code yX0_isLost cX0_isLost 2 (some .boolean), Cond.fieldLink RX0 18 "SquareGears$Gears" "lostWheels" "I", Cond.static yX3_wave, Cond.initialized RX3, Cond.code yX3_wave cX3_wave 2 (some .int), Cond.methodLink RX3 240 yJ6_bitCount_0f7a4, Cond.static yJ6_bitCount_0f7a4, Cond.initialized RJ6, Cond.code yJ6_bitCount_0f7a4 cJ6_bitCount_0f7a4 1 (some .int), Cond.constant RJ6 265 (1431655765), Cond.constant RJ6 266 (858993459)]
def wsX0_jumpAt_r2 : List Cond := [Cond.constant RJ6 267 (252645135)]
def wsX0_jumpAt : List Cond := .code yX0_jumpAt cX0_jumpAt 2 (some .int) :: ((wsX0_jumpAt_r1 ++ wsX0_jumpAt_r2) ++ wsX00)
def wsJ9_floorDiv_7cf53 : List Cond := .code yJ9_floorDiv_7cf53 cJ9_floorDiv_7cf53 3 (some .int) :: ([])
def wsX0_patternAmplitude : List Cond := .code yX0_patternAmplitude cX0_patternAmplitude 4 (some .int) :: ([.fieldLink RX0 15 "SquareGears$Gears" "pattern" "[I", .static yX3_wave, .initialized RX3, .code yX3_wave cX3_wave 2 (some .int), .methodLink RX3 240 yJ6_bitCount_0f7a4, .static yJ6_bitCount_0f7a4, .initialized RJ6, .code yJ6_bitCount_0f7a4 cJ6_bitCount_0f7a4 1 (some .int), .constant RJ6 265 (1431655765), .constant RJ6 266 (858993459), .constant RJ6 267 (252645135), .methodLink RX0 46 yJ9_floorDiv_7cf53, .static yJ9_floorDiv_7cf53, .initialized RJ9, .code yJ9_floorDiv_7cf53 cJ9_floorDiv_7cf53 3 (some .int)] ++ wsX00)
def wsX0_errorWithout : List Cond := .code yX0_errorWithout cX0_errorWithout 2 (some .int) :: ([.methodLink RX0 35 yX0_drawnAmplitude, .instanceMethod yX0_drawnAmplitude, .selects RX0 yX0_drawnAmplitude yX0_drawnAmplitude, .initialized RX0, .code yX0_drawnAmplitude cX0_drawnAmplitude 2 (some .int), .fieldLink RX0 9 "SquareGears$Gears" "amplitudes" "[I", .methodLink RX0 31 yX0_isLost, .instanceMethod yX0_isLost, .selects RX0 yX0_isLost yX0_isLost, .code yX0_isLost cX0_isLost 2 (some .boolean), .fieldLink RX0 18 "SquareGears$Gears" "lostWheels" "I"] ++ wsX00)
def wsX1_init : List Cond := .code yX1_init cX1_init 2 none :: ([.methodLink RX1 1 objectInit, .instanceMethod objectInit, .code objectInit ⟨#[0xb1]⟩ 1 none, .classLink RX1 9 RX0, .fieldLink RX1 11 "SquareGears$SavedGears" "ring" "[LSquareGears$Gears;", .fieldLink RX1 15 "SquareGears$SavedGears" "next" "I", .fieldLink RX1 19 "SquareGears$SavedGears" "count" "I", .instantiable RX0 4, .initialized RX0, .instanceMethod yX0_init, .code yX0_init cX0_init 1 none, .methodLink RX0 3 objectInit, .arrayClass .int, .fieldLink RX0 9 "SquareGears$Gears" "amplitudes" "[I", .fieldLink RX0 15 "SquareGears$Gears" "pattern" "[I", .fieldLink RX0 18 "SquareGears$Gears" "lostWheels" "I", .fieldLink RX0 22 "SquareGears$Gears" "changedByFits" "I"] ++ wsX10 ++ wsX00)
def wsX1_push : List Cond := .code yX1_push cX1_push 2 none :: ([.fieldLink RX1 11 "SquareGears$SavedGears" "ring" "[LSquareGears$Gears;", .fieldLink RX1 15 "SquareGears$SavedGears" "next" "I", .fieldLink RX1 19 "SquareGears$SavedGears" "count" "I", .methodLink RX1 27 Lib.Math.min.name, .static Lib.Math.min.name, .initialized "java/lang/Math", .code Lib.Math.min.name Lib.Math.min.code 2 (some .int), .instanceMethod yX0_takeFrom, .initialized RX0, .selects RX0 yX0_takeFrom yX0_takeFrom, .code yX0_takeFrom cX0_takeFrom 2 none, .fieldLink RX0 9 "SquareGears$Gears" "amplitudes" "[I", .methodLink RX0 25 arraycopyName, .native arraycopyName, .static arraycopyName, .initialized "java/lang/System", .fieldLink RX0 15 "SquareGears$Gears" "pattern" "[I", .fieldLink RX0 18 "SquareGears$Gears" "lostWheels" "I", .fieldLink RX0 22 "SquareGears$Gears" "changedByFits" "I"] ++ wsX10 ++ wsX00)
def wsX1_popInto : List Cond := .code yX1_popInto cX1_popInto 2 none :: ([.fieldLink RX1 15 "SquareGears$SavedGears" "next" "I", .fieldLink RX1 19 "SquareGears$SavedGears" "count" "I", .fieldLink RX1 11 "SquareGears$SavedGears" "ring" "[LSquareGears$Gears;", .instanceMethod yX0_takeFrom, .initialized RX0, .selects RX0 yX0_takeFrom yX0_takeFrom, .code yX0_takeFrom cX0_takeFrom 2 none, .fieldLink RX0 9 "SquareGears$Gears" "amplitudes" "[I", .methodLink RX0 25 arraycopyName, .native arraycopyName, .static arraycopyName, .initialized "java/lang/System", .fieldLink RX0 15 "SquareGears$Gears" "pattern" "[I", .fieldLink RX0 18 "SquareGears$Gears" "lostWheels" "I", .fieldLink RX0 22 "SquareGears$Gears" "changedByFits" "I"] ++ wsX10 ++ wsX00)
def wsX2_init : List Cond := .code yX2_init cX2_init 1 none :: ([.methodLink RX2 3 objectInit, .instanceMethod objectInit, .code objectInit ⟨#[0xb1]⟩ 1 none, .arrayClass .char, .fieldLink RX2 11 "SquareGears$WheelText" "signs" "[C", .fieldLink RX2 15 "SquareGears$WheelText" "length" "I"] ++ wsX20)
def wsX2_isFull : List Cond := .code yX2_isFull cX2_isFull 1 (some .boolean) :: ([.fieldLink RX2 15 "SquareGears$WheelText" "length" "I"] ++ wsX20)
def wsX2_put : List Cond := .code yX2_put cX2_put 2 none :: ([.fieldLink RX2 11 "SquareGears$WheelText" "signs" "[C", .fieldLink RX2 15 "SquareGears$WheelText" "length" "I"] ++ wsX20)
def wsX2_empty : List Cond := .code yX2_empty cX2_empty 1 none :: ([.fieldLink RX2 15 "SquareGears$WheelText" "length" "I"] ++ wsX20)
def wsX2_isLetter : List Cond := .code yX2_isLetter cX2_isLetter 1 (some .boolean) :: ([])
def wsX2_isDigit : List Cond := .code yX2_isDigit cX2_isDigit 1 (some .boolean) :: ([])
def wsX2_placeBehindFirstDigit : List Cond := .code yX2_placeBehindFirstDigit cX2_placeBehindFirstDigit 1 (some .int) :: ([.methodLink RX2 31 yX2_isDigit, .static yX2_isDigit, .initialized RX2, .code yX2_isDigit cX2_isDigit 1 (some .boolean)])
def wsX2_placeBehindWheel : List Cond := .code yX2_placeBehindWheel cX2_placeBehindWheel 1 (some .int) :: ([])
def wsX2_placeBehind : List Cond := .code yX2_placeBehind cX2_placeBehind 2 (some .int) :: ([.methodLink RX2 23 yX2_isLetter, .static yX2_isLetter, .initialized RX2, .code yX2_isLetter cX2_isLetter 1 (some .boolean), .methodLink RX2 27 yX2_placeBehindFirstDigit, .static yX2_placeBehindFirstDigit, .code yX2_placeBehindFirstDigit cX2_placeBehindFirstDigit 1 (some .int), .methodLink RX2 31 yX2_isDigit, .static yX2_isDigit, .code yX2_isDigit cX2_isDigit 1 (some .boolean), .methodLink RX2 34 yX2_placeBehindWheel, .static yX2_placeBehindWheel, .code yX2_placeBehindWheel cX2_placeBehindWheel 1 (some .int)])
def wsX2_errorPlace : List Cond := .code yX2_errorPlace cX2_errorPlace 3 (some .int) :: ([.fieldLink RX2 15 "SquareGears$WheelText" "length" "I", .fieldLink RX2 11 "SquareGears$WheelText" "signs" "[C", .methodLink RX2 19 yX2_placeBehind, .static yX2_placeBehind, .initialized RX2, .code yX2_placeBehind cX2_placeBehind 2 (some .int), .methodLink RX2 23 yX2_isLetter, .static yX2_isLetter, .code yX2_isLetter cX2_isLetter 1 (some .boolean), .methodLink RX2 27 yX2_placeBehindFirstDigit, .static yX2_placeBehindFirstDigit, .code yX2_placeBehindFirstDigit cX2_placeBehindFirstDigit 1 (some .int), .methodLink RX2 31 yX2_isDigit, .static yX2_isDigit, .code yX2_isDigit cX2_isDigit 1 (some .boolean), .methodLink RX2 34 yX2_placeBehindWheel, .static yX2_placeBehindWheel, .code yX2_placeBehindWheel cX2_placeBehindWheel 1 (some .int)] ++ wsX20)
def wsX2_tellsWheels : List Cond := .code yX2_tellsWheels cX2_tellsWheels 3 (some .boolean) :: ([.fieldLink RX2 15 "SquareGears$WheelText" "length" "I", .fieldLink RX2 11 "SquareGears$WheelText" "signs" "[C", .methodLink RX2 19 yX2_placeBehind, .static yX2_placeBehind, .initialized RX2, .code yX2_placeBehind cX2_placeBehind 2 (some .int), .methodLink RX2 23 yX2_isLetter, .static yX2_isLetter, .code yX2_isLetter cX2_isLetter 1 (some .boolean), .methodLink RX2 27 yX2_placeBehindFirstDigit, .static yX2_placeBehindFirstDigit, .code yX2_placeBehindFirstDigit cX2_placeBehindFirstDigit 1 (some .int), .methodLink RX2 31 yX2_isDigit, .static yX2_isDigit, .code yX2_isDigit cX2_isDigit 1 (some .boolean), .methodLink RX2 34 yX2_placeBehindWheel, .static yX2_placeBehindWheel, .code yX2_placeBehindWheel cX2_placeBehindWheel 1 (some .int)] ++ wsX20)
def wsX2_tellTo : List Cond := .code yX2_tellTo cX2_tellTo 7 none :: ([.fieldLink RX2 15 "SquareGears$WheelText" "length" "I", .fieldLink RX2 11 "SquareGears$WheelText" "signs" "[C", .methodLink RX2 23 yX2_isLetter, .static yX2_isLetter, .initialized RX2, .code yX2_isLetter cX2_isLetter 1 (some .boolean), .methodLink RX2 31 yX2_isDigit, .static yX2_isDigit, .code yX2_isDigit cX2_isDigit 1 (some .boolean)] ++ wsX00 ++ wsX20)
def wsX3_init_r1 : List Cond := [Cond.methodLink RX3 3 objectInit, Cond.instanceMethod objectInit, Cond.code objectInit ⟨#[0xb1]⟩ 1 none, Cond.classLink RX3 9 RX0, Cond.instantiable RX0 4, Cond.initialized RX0, Cond.fieldLink RX3 12 "SquareGears" "now" "LSquareGears$Gears;", Cond.fieldLink RX3 16 "SquareGears" "slots" "[LSquareGears$Gears;", Cond.fieldLink RX3 20 "SquareGears" "keptSlots" "I", Cond.classLink RX3 24 RX1, Cond.instantiable RX1 3, Cond.initialized RX1, Cond.fieldLink RX3 27 "SquareGears" "saved" "LSquareGears$SavedGears;", Cond.classLink RX3 31 RX2, Cond.instantiable RX2 2, Cond.initialized RX2, Cond.fieldLink RX3 34 "SquareGears" "text" "LSquareGears$WheelText;", Cond.arrayClass .int, Cond.fieldLink RX3 38 "SquareGears" "row" "[I", Cond.instanceMethod yX0_init, Cond.code yX0_init cX0_init 1 none, Cond.methodLink RX0 3 objectInit, Cond.fieldLink RX0 9 "SquareGears$Gears" "amplitudes" "[I", Cond.fieldLink RX0 15 "SquareGears$Gears" "pattern" "[I"]
def wsX3_init_r2 : List Cond := [Cond.fieldLink RX0 18 "SquareGears$Gears" "lostWheels" "I", Cond.fieldLink RX0 22 "SquareGears$Gears" "changedByFits" "I", Cond.instanceMethod yX1_init, Cond.code yX1_init cX1_init 2 none, Cond.methodLink RX1 1 objectInit, Cond.classLink RX1 9 RX0, Cond.fieldLink RX1 11 "SquareGears$SavedGears" "ring" "[LSquareGears$Gears;", Cond.fieldLink RX1 15 "SquareGears$SavedGears" "next" "I", Cond.fieldLink RX1 19 "SquareGears$SavedGears" "count" "I", Cond.instanceMethod yX2_init, Cond.code yX2_init cX2_init 1 none, Cond.methodLink RX2 3 objectInit, Cond.arrayClass .char, Cond.fieldLink RX2 11 "SquareGears$WheelText" "signs" "[C", Cond.fieldLink RX2 15 "SquareGears$WheelText" "length" "I"]
def wsX3_init : List Cond := .code yX3_init cX3_init 2 none :: ((wsX3_init_r1 ++ wsX3_init_r2) ++ wsX00 ++ wsX30 ++ wsX10 ++ wsX20)
def wsX3_isOutside : List Cond := .code yX3_isOutside cX3_isOutside 3 (some .boolean) :: ([])
def wsX3_isNoPlace : List Cond := .code yX3_isNoPlace cX3_isNoPlace 1 (some .boolean) :: ([.methodLink RX3 53 yX3_isOutside, .static yX3_isOutside, .initialized RX3, .code yX3_isOutside cX3_isOutside 3 (some .boolean)])
def wsX3_set_r1 : List Cond := [Cond.classLink RX3 46 "java/lang/IndexOutOfBoundsException", Cond.initialized "java/lang/IndexOutOfBoundsException", Cond.classLink RX3 57 "java/lang/IllegalArgumentException", Cond.initialized "java/lang/IllegalArgumentException", Cond.fieldLink RX3 27 "SquareGears" "saved" "LSquareGears$SavedGears;", Cond.fieldLink RX3 12 "SquareGears" "now" "LSquareGears$Gears;", Cond.methodLink RX3 42 yX3_isNoPlace, Cond.static yX3_isNoPlace, Cond.initialized RX3, Cond.code yX3_isNoPlace cX3_isNoPlace 1 (some .boolean), Cond.methodLink RX3 53 yX3_isOutside, Cond.static yX3_isOutside, Cond.code yX3_isOutside cX3_isOutside 3 (some .boolean), Cond.instanceMethod yX1_push, Cond.initialized RX1, Cond.selects RX1 yX1_push yX1_push, Cond.code yX1_push cX1_push 2 none, Cond.fieldLink RX1 11 "SquareGears$SavedGears" "ring" "[LSquareGears$Gears;", Cond.fieldLink RX1 15 "SquareGears$SavedGears" "next" "I", Cond.fieldLink RX1 19 "SquareGears$SavedGears" "count" "I", Cond.methodLink RX1 27 Lib.Math.min.name, Cond.static Lib.Math.min.name, Cond.initialized "java/lang/Math", Cond.code Lib.Math.min.name Lib.Math.min.code 2 (some .int)]
def wsX3_set_r2 : List Cond := [Cond.instanceMethod yX0_takeFrom, Cond.initialized RX0, Cond.selects RX0 yX0_takeFrom yX0_takeFrom, Cond.code yX0_takeFrom cX0_takeFrom 2 none, Cond.fieldLink RX0 9 "SquareGears$Gears" "amplitudes" "[I", Cond.methodLink RX0 25 arraycopyName, Cond.native arraycopyName, Cond.static arraycopyName, Cond.initialized "java/lang/System", Cond.fieldLink RX0 15 "SquareGears$Gears" "pattern" "[I", Cond.fieldLink RX0 18 "SquareGears$Gears" "lostWheels" "I", Cond.fieldLink RX0 22 "SquareGears$Gears" "changedByFits" "I"]
def wsX3_set : List Cond := .code yX3_set cX3_set 4 (some .int) :: ((wsX3_set_r1 ++ wsX3_set_r2) ++ wsX30 ++ wsX00 ++ wsX10 ++ (vx_atS RX3 50 "java/lang/IndexOutOfBoundsException" ["java/lang/RuntimeException", "java/lang/Exception"]).filter goodWord ++ (vx_atS RX3 61 "java/lang/IllegalArgumentException" ["java/lang/RuntimeException", "java/lang/Exception"]).filter goodWord)
def wsX3_lose_r1 : List Cond := [Cond.classLink RX3 46 "java/lang/IndexOutOfBoundsException", Cond.initialized "java/lang/IndexOutOfBoundsException", Cond.fieldLink RX3 27 "SquareGears" "saved" "LSquareGears$SavedGears;", Cond.fieldLink RX3 12 "SquareGears" "now" "LSquareGears$Gears;", Cond.methodLink RX3 42 yX3_isNoPlace, Cond.static yX3_isNoPlace, Cond.initialized RX3, Cond.code yX3_isNoPlace cX3_isNoPlace 1 (some .boolean), Cond.methodLink RX3 53 yX3_isOutside, Cond.static yX3_isOutside, Cond.code yX3_isOutside cX3_isOutside 3 (some .boolean), Cond.instanceMethod yX1_push, Cond.initialized RX1, Cond.selects RX1 yX1_push yX1_push, Cond.code yX1_push cX1_push 2 none, Cond.fieldLink RX1 11 "SquareGears$SavedGears" "ring" "[LSquareGears$Gears;", Cond.fieldLink RX1 15 "SquareGears$SavedGears" "next" "I", Cond.fieldLink RX1 19 "SquareGears$SavedGears" "count" "I", Cond.methodLink RX1 27 Lib.Math.min.name, Cond.static Lib.Math.min.name, Cond.initialized "java/lang/Math", Cond.code Lib.Math.min.name Lib.Math.min.code 2 (some .int), Cond.instanceMethod yX0_takeFrom, Cond.initialized RX0]
def wsX3_lose_r2 : List Cond := [Cond.selects RX0 yX0_takeFrom yX0_takeFrom, Cond.code yX0_takeFrom cX0_takeFrom 2 none, Cond.fieldLink RX0 9 "SquareGears$Gears" "amplitudes" "[I", Cond.methodLink RX0 25 arraycopyName, Cond.native arraycopyName, Cond.static arraycopyName, Cond.initialized "java/lang/System", Cond.fieldLink RX0 15 "SquareGears$Gears" "pattern" "[I", Cond.fieldLink RX0 18 "SquareGears$Gears" "lostWheels" "I", Cond.fieldLink RX0 22 "SquareGears$Gears" "changedByFits" "I", Cond.instanceMethod yX0_isLost, Cond.selects RX0 yX0_isLost yX0_isLost, Cond.code yX0_isLost cX0_isLost 2 (some .boolean)]
def wsX3_lose : List Cond := .code yX3_lose cX3_lose 2 (some .int) :: ((wsX3_lose_r1 ++ wsX3_lose_r2) ++ wsX30 ++ wsX00 ++ wsX10 ++ (vx_atS RX3 50 "java/lang/IndexOutOfBoundsException" ["java/lang/RuntimeException", "java/lang/Exception"]).filter goodWord)
def wsX3_turn_r1 : List Cond := [Cond.classLink RX3 57 "java/lang/IllegalArgumentException", Cond.initialized "java/lang/IllegalArgumentException", Cond.fieldLink RX3 27 "SquareGears" "saved" "LSquareGears$SavedGears;", Cond.fieldLink RX3 12 "SquareGears" "now" "LSquareGears$Gears;", Cond.methodLink RX3 42 yX3_isNoPlace, Cond.static yX3_isNoPlace, Cond.initialized RX3, Cond.code yX3_isNoPlace cX3_isNoPlace 1 (some .boolean), Cond.methodLink RX3 53 yX3_isOutside, Cond.static yX3_isOutside, Cond.code yX3_isOutside cX3_isOutside 3 (some .boolean), Cond.instanceMethod yX1_push, Cond.initialized RX1, Cond.selects RX1 yX1_push yX1_push, Cond.code yX1_push cX1_push 2 none, Cond.fieldLink RX1 11 "SquareGears$SavedGears" "ring" "[LSquareGears$Gears;", Cond.fieldLink RX1 15 "SquareGears$SavedGears" "next" "I", Cond.fieldLink RX1 19 "SquareGears$SavedGears" "count" "I", Cond.methodLink RX1 27 Lib.Math.min.name, Cond.static Lib.Math.min.name, Cond.initialized "java/lang/Math", Cond.code Lib.Math.min.name Lib.Math.min.code 2 (some .int), Cond.instanceMethod yX0_takeFrom, Cond.initialized RX0]
def wsX3_turn_r2 : List Cond := [Cond.selects RX0 yX0_takeFrom yX0_takeFrom, Cond.code yX0_takeFrom cX0_takeFrom 2 none, Cond.fieldLink RX0 9 "SquareGears$Gears" "amplitudes" "[I", Cond.methodLink RX0 25 arraycopyName, Cond.native arraycopyName, Cond.static arraycopyName, Cond.initialized "java/lang/System", Cond.fieldLink RX0 15 "SquareGears$Gears" "pattern" "[I", Cond.fieldLink RX0 18 "SquareGears$Gears" "lostWheels" "I", Cond.fieldLink RX0 22 "SquareGears$Gears" "changedByFits" "I", Cond.methodLink RX3 77 yX3_wave, Cond.static yX3_wave, Cond.code yX3_wave cX3_wave 2 (some .int), Cond.methodLink RX3 240 yJ6_bitCount_0f7a4, Cond.static yJ6_bitCount_0f7a4, Cond.initialized RJ6, Cond.code yJ6_bitCount_0f7a4 cJ6_bitCount_0f7a4 1 (some .int), Cond.constant RJ6 265 (1431655765), Cond.constant RJ6 266 (858993459), Cond.constant RJ6 267 (252645135)]
def wsX3_turn : List Cond := .code yX3_turn cX3_turn 4 (some .int) :: ((wsX3_turn_r1 ++ wsX3_turn_r2) ++ wsX30 ++ wsX00 ++ wsX10 ++ (vx_atS RX3 61 "java/lang/IllegalArgumentException" ["java/lang/RuntimeException", "java/lang/Exception"]).filter goodWord)
def wsX3_drop_r1 : List Cond := [Cond.classLink RX3 57 "java/lang/IllegalArgumentException", Cond.initialized "java/lang/IllegalArgumentException", Cond.fieldLink RX3 27 "SquareGears" "saved" "LSquareGears$SavedGears;", Cond.fieldLink RX3 12 "SquareGears" "now" "LSquareGears$Gears;", Cond.methodLink RX3 83 Lib.Math.abs.name, Cond.static Lib.Math.abs.name, Cond.initialized "java/lang/Math", Cond.code Lib.Math.abs.name Lib.Math.abs.code 1 (some .int), Cond.methodLink RX3 53 yX3_isOutside, Cond.static yX3_isOutside, Cond.initialized RX3, Cond.code yX3_isOutside cX3_isOutside 3 (some .boolean), Cond.instanceMethod yX1_push, Cond.initialized RX1, Cond.selects RX1 yX1_push yX1_push, Cond.code yX1_push cX1_push 2 none, Cond.fieldLink RX1 11 "SquareGears$SavedGears" "ring" "[LSquareGears$Gears;", Cond.fieldLink RX1 15 "SquareGears$SavedGears" "next" "I", Cond.fieldLink RX1 19 "SquareGears$SavedGears" "count" "I", Cond.methodLink RX1 27 Lib.Math.min.name, Cond.static Lib.Math.min.name, Cond.code Lib.Math.min.name Lib.Math.min.code 2 (some .int), Cond.instanceMethod yX0_takeFrom, Cond.initialized RX0]
def wsX3_drop_r2 : List Cond := [Cond.selects RX0 yX0_takeFrom yX0_takeFrom, Cond.code yX0_takeFrom cX0_takeFrom 2 none, Cond.fieldLink RX0 9 "SquareGears$Gears" "amplitudes" "[I", Cond.methodLink RX0 25 arraycopyName, Cond.native arraycopyName, Cond.static arraycopyName, Cond.initialized "java/lang/System", Cond.fieldLink RX0 15 "SquareGears$Gears" "pattern" "[I", Cond.fieldLink RX0 18 "SquareGears$Gears" "lostWheels" "I", Cond.fieldLink RX0 22 "SquareGears$Gears" "changedByFits" "I"]
def wsX3_drop : List Cond := .code yX3_drop cX3_drop 4 (some .int) :: ((wsX3_drop_r1 ++ wsX3_drop_r2) ++ wsX30 ++ wsX00 ++ wsX10 ++ (vx_atS RX3 61 "java/lang/IllegalArgumentException" ["java/lang/RuntimeException", "java/lang/Exception"]).filter goodWord)
def wsX3_point_r1 : List Cond := [Cond.classLink RX3 46 "java/lang/IndexOutOfBoundsException", Cond.initialized "java/lang/IndexOutOfBoundsException", Cond.classLink RX3 57 "java/lang/IllegalArgumentException", Cond.initialized "java/lang/IllegalArgumentException", Cond.fieldLink RX3 27 "SquareGears" "saved" "LSquareGears$SavedGears;", Cond.fieldLink RX3 12 "SquareGears" "now" "LSquareGears$Gears;", Cond.methodLink RX3 42 yX3_isNoPlace, Cond.static yX3_isNoPlace, Cond.initialized RX3, Cond.code yX3_isNoPlace cX3_isNoPlace 1 (some .boolean), Cond.methodLink RX3 53 yX3_isOutside, Cond.static yX3_isOutside, Cond.code yX3_isOutside cX3_isOutside 3 (some .boolean), Cond.instanceMethod yX1_push, Cond.initialized RX1, Cond.selects RX1 yX1_push yX1_push, Cond.code yX1_push cX1_push 2 none, Cond.fieldLink RX1 11 "SquareGears$SavedGears" "ring" "[LSquareGears$Gears;", Cond.fieldLink RX1 15 "SquareGears$SavedGears" "next" "I", Cond.fieldLink RX1 19 "SquareGears$SavedGears" "count" "I", Cond.methodLink RX1 27 Lib.Math.min.name, Cond.static Lib.Math.min.name, Cond.initialized "java/lang/Math", Cond.code Lib.Math.min.name Lib.Math.min.code 2 (some .int)]
def wsX3_point_r2 : List Cond := [Cond.instanceMethod yX0_takeFrom, Cond.initialized RX0, Cond.selects RX0 yX0_takeFrom yX0_takeFrom, Cond.code yX0_takeFrom cX0_takeFrom 2 none, Cond.fieldLink RX0 9 "SquareGears$Gears" "amplitudes" "[I", Cond.methodLink RX0 25 arraycopyName, Cond.native arraycopyName, Cond.static arraycopyName, Cond.initialized "java/lang/System", Cond.fieldLink RX0 15 "SquareGears$Gears" "pattern" "[I", Cond.fieldLink RX0 18 "SquareGears$Gears" "lostWheels" "I", Cond.fieldLink RX0 22 "SquareGears$Gears" "changedByFits" "I"]
def wsX3_point : List Cond := .code yX3_point cX3_point 4 (some .int) :: ((wsX3_point_r1 ++ wsX3_point_r2) ++ wsX30 ++ wsX00 ++ wsX10 ++ (vx_atS RX3 50 "java/lang/IndexOutOfBoundsException" ["java/lang/RuntimeException", "java/lang/Exception"]).filter goodWord ++ (vx_atS RX3 61 "java/lang/IllegalArgumentException" ["java/lang/RuntimeException", "java/lang/Exception"]).filter goodWord)
def wsX3_copy_r1 : List Cond := [Cond.fieldLink RX3 27 "SquareGears" "saved" "LSquareGears$SavedGears;", Cond.fieldLink RX3 12 "SquareGears" "now" "LSquareGears$Gears;", Cond.instanceMethod yX1_push, Cond.initialized RX1, Cond.selects RX1 yX1_push yX1_push, Cond.code yX1_push cX1_push 2 none, Cond.fieldLink RX1 11 "SquareGears$SavedGears" "ring" "[LSquareGears$Gears;", Cond.fieldLink RX1 15 "SquareGears$SavedGears" "next" "I", Cond.fieldLink RX1 19 "SquareGears$SavedGears" "count" "I", Cond.methodLink RX1 27 Lib.Math.min.name, Cond.static Lib.Math.min.name, Cond.initialized "java/lang/Math", Cond.code Lib.Math.min.name Lib.Math.min.code 2 (some .int), Cond.instanceMethod yX0_takeFrom, Cond.initialized RX0, Cond.selects RX0 yX0_takeFrom yX0_takeFrom, Cond.code yX0_takeFrom cX0_takeFrom 2 none, Cond.fieldLink RX0 9 "SquareGears$Gears" "amplitudes" "[I", Cond.methodLink RX0 25 arraycopyName, Cond.native arraycopyName, Cond.static arraycopyName, Cond.initialized "java/lang/System", Cond.fieldLink RX0 15 "SquareGears$Gears" "pattern" "[I", Cond.fieldLink RX0 18 "SquareGears$Gears" "lostWheels" "I"]
def wsX3_copy_r2 : List Cond := [Cond.fieldLink RX0 22 "SquareGears$Gears" "changedByFits" "I", Cond.instanceMethod yX0_traceAt, Cond.selects RX0 yX0_traceAt yX0_traceAt, Cond.code yX0_traceAt cX0_traceAt 4 (some .int), Cond.methodLink RX0 35 yX0_drawnAmplitude, Cond.instanceMethod yX0_drawnAmplitude, Cond.selects RX0 yX0_drawnAmplitude yX0_drawnAmplitude, Cond.code yX0_drawnAmplitude cX0_drawnAmplitude 2 (some .int), Cond.methodLink RX0 31 yX0_isLost, Cond.instanceMethod yX0_isLost, Cond.selects RX0 yX0_isLost yX0_isLost, Cond.code yX0_isLost cX0_isLost 2 (some .boolean), Cond.static yX3_wave, Cond.initialized RX3, Cond.code yX3_wave cX3_wave 2 (some .int), Cond.methodLink RX3 240 yJ6_bitCount_0f7a4, Cond.static yJ6_bitCount_0f7a4, Cond.initialized RJ6, Cond.code yJ6_bitCount_0f7a4 cJ6_bitCount_0f7a4 1 (some .int), Cond.constant RJ6 265 (1431655765), Cond.constant RJ6 266 (858993459), Cond.constant RJ6 267 (252645135)]
def wsX3_copy : List Cond := .code yX3_copy cX3_copy 4 (some .int) :: ((wsX3_copy_r1 ++ wsX3_copy_r2) ++ wsX30 ++ wsX00 ++ wsX10)
def wsX3_fit_r1 : List Cond := [Cond.fieldLink RX3 27 "SquareGears" "saved" "LSquareGears$SavedGears;", Cond.fieldLink RX3 12 "SquareGears" "now" "LSquareGears$Gears;", Cond.methodLink RX3 102 Lib.Math.min.name, Cond.static Lib.Math.min.name, Cond.initialized "java/lang/Math", Cond.code Lib.Math.min.name Lib.Math.min.code 2 (some .int), Cond.methodLink RX3 105 Lib.Math.max.name, Cond.static Lib.Math.max.name, Cond.code Lib.Math.max.name Lib.Math.max.code 2 (some .int), Cond.instanceMethod yX1_push, Cond.initialized RX1, Cond.selects RX1 yX1_push yX1_push, Cond.code yX1_push cX1_push 2 none, Cond.fieldLink RX1 11 "SquareGears$SavedGears" "ring" "[LSquareGears$Gears;", Cond.fieldLink RX1 15 "SquareGears$SavedGears" "next" "I", Cond.fieldLink RX1 19 "SquareGears$SavedGears" "count" "I", Cond.methodLink RX1 27 Lib.Math.min.name, Cond.instanceMethod yX0_takeFrom, Cond.initialized RX0, Cond.selects RX0 yX0_takeFrom yX0_takeFrom, Cond.code yX0_takeFrom cX0_takeFrom 2 none, Cond.fieldLink RX0 9 "SquareGears$Gears" "amplitudes" "[I", Cond.methodLink RX0 25 arraycopyName, Cond.native arraycopyName]
def wsX3_fit_r2 : List Cond := [Cond.static arraycopyName, Cond.initialized "java/lang/System", Cond.fieldLink RX0 15 "SquareGears$Gears" "pattern" "[I", Cond.fieldLink RX0 18 "SquareGears$Gears" "lostWheels" "I", Cond.fieldLink RX0 22 "SquareGears$Gears" "changedByFits" "I", Cond.instanceMethod yX0_patternAmplitude, Cond.selects RX0 yX0_patternAmplitude yX0_patternAmplitude, Cond.code yX0_patternAmplitude cX0_patternAmplitude 4 (some .int), Cond.static yX3_wave, Cond.initialized RX3, Cond.code yX3_wave cX3_wave 2 (some .int), Cond.methodLink RX3 240 yJ6_bitCount_0f7a4, Cond.static yJ6_bitCount_0f7a4, Cond.initialized RJ6, Cond.code yJ6_bitCount_0f7a4 cJ6_bitCount_0f7a4 1 (some .int), Cond.constant RJ6 265 (1431655765), Cond.constant RJ6 266 (858993459), Cond.constant RJ6 267 (252645135), Cond.methodLink RX0 46 yJ9_floorDiv_7cf53, Cond.static yJ9_floorDiv_7cf53, Cond.initialized RJ9, Cond.code yJ9_floorDiv_7cf53 cJ9_floorDiv_7cf53 3 (some .int)]
def wsX3_fit : List Cond := .code yX3_fit cX3_fit 4 (some .int) :: ((wsX3_fit_r1 ++ wsX3_fit_r2) ++ wsX30 ++ wsX00 ++ wsX10)
def wsX3_append : List Cond := .code yX3_append cX3_append 2 (some .int) :: ([.classLink RX3 57 "java/lang/IllegalArgumentException", .initialized "java/lang/IllegalArgumentException", .classLink RX3 117 "java/lang/IllegalStateException", .initialized "java/lang/IllegalStateException", .fieldLink RX3 34 "SquareGears" "text" "LSquareGears$WheelText;", .methodLink RX3 53 yX3_isOutside, .static yX3_isOutside, .initialized RX3, .code yX3_isOutside cX3_isOutside 3 (some .boolean), .instanceMethod yX2_isFull, .initialized RX2, .selects RX2 yX2_isFull yX2_isFull, .code yX2_isFull cX2_isFull 1 (some .boolean), .fieldLink RX2 15 "SquareGears$WheelText" "length" "I", .instanceMethod yX2_put, .selects RX2 yX2_put yX2_put, .code yX2_put cX2_put 2 none, .fieldLink RX2 11 "SquareGears$WheelText" "signs" "[C"] ++ wsX30 ++ wsX20 ++ (vx_atS RX3 61 "java/lang/IllegalArgumentException" ["java/lang/RuntimeException", "java/lang/Exception"]).filter goodWord ++ (vx_atS RX3 121 "java/lang/IllegalStateException" ["java/lang/RuntimeException", "java/lang/Exception"]).filter goodWord)
def wsX3_clearBuffer : List Cond := .code yX3_clearBuffer cX3_clearBuffer 2 (some .int) :: ([.fieldLink RX3 34 "SquareGears" "text" "LSquareGears$WheelText;", .instanceMethod yX2_empty, .initialized RX2, .selects RX2 yX2_empty yX2_empty, .code yX2_empty cX2_empty 1 none, .fieldLink RX2 15 "SquareGears$WheelText" "length" "I"] ++ wsX30 ++ wsX20)
def wsX3_firstError : List Cond := .code yX3_firstError cX3_firstError 1 (some .int) :: ([.fieldLink RX3 34 "SquareGears" "text" "LSquareGears$WheelText;", .instanceMethod yX2_errorPlace, .initialized RX2, .selects RX2 yX2_errorPlace yX2_errorPlace, .code yX2_errorPlace cX2_errorPlace 3 (some .int), .fieldLink RX2 15 "SquareGears$WheelText" "length" "I", .fieldLink RX2 11 "SquareGears$WheelText" "signs" "[C", .methodLink RX2 19 yX2_placeBehind, .static yX2_placeBehind, .code yX2_placeBehind cX2_placeBehind 2 (some .int), .methodLink RX2 23 yX2_isLetter, .static yX2_isLetter, .code yX2_isLetter cX2_isLetter 1 (some .boolean), .methodLink RX2 27 yX2_placeBehindFirstDigit, .static yX2_placeBehindFirstDigit, .code yX2_placeBehindFirstDigit cX2_placeBehindFirstDigit 1 (some .int), .methodLink RX2 31 yX2_isDigit, .static yX2_isDigit, .code yX2_isDigit cX2_isDigit 1 (some .boolean), .methodLink RX2 34 yX2_placeBehindWheel, .static yX2_placeBehindWheel, .code yX2_placeBehindWheel cX2_placeBehindWheel 1 (some .int)] ++ wsX30 ++ wsX20)
def wsX3_load_r1 : List Cond := [Cond.classLink RX3 57 "java/lang/IllegalArgumentException", Cond.initialized "java/lang/IllegalArgumentException", Cond.fieldLink RX3 34 "SquareGears" "text" "LSquareGears$WheelText;", Cond.fieldLink RX3 27 "SquareGears" "saved" "LSquareGears$SavedGears;", Cond.fieldLink RX3 12 "SquareGears" "now" "LSquareGears$Gears;", Cond.instanceMethod yX2_tellsWheels, Cond.initialized RX2, Cond.selects RX2 yX2_tellsWheels yX2_tellsWheels, Cond.code yX2_tellsWheels cX2_tellsWheels 3 (some .boolean), Cond.fieldLink RX2 15 "SquareGears$WheelText" "length" "I", Cond.fieldLink RX2 11 "SquareGears$WheelText" "signs" "[C", Cond.methodLink RX2 19 yX2_placeBehind, Cond.static yX2_placeBehind, Cond.code yX2_placeBehind cX2_placeBehind 2 (some .int), Cond.methodLink RX2 23 yX2_isLetter, Cond.static yX2_isLetter, Cond.code yX2_isLetter cX2_isLetter 1 (some .boolean), Cond.methodLink RX2 27 yX2_placeBehindFirstDigit, Cond.static yX2_placeBehindFirstDigit, Cond.code yX2_placeBehindFirstDigit cX2_placeBehindFirstDigit 1 (some .int), Cond.methodLink RX2 31 yX2_isDigit, Cond.static yX2_isDigit, Cond.code yX2_isDigit cX2_isDigit 1 (some .boolean), Cond.methodLink RX2 34 yX2_placeBehindWheel]
def wsX3_load_r2 : List Cond := [Cond.static yX2_placeBehindWheel, Cond.code yX2_placeBehindWheel cX2_placeBehindWheel 1 (some .int), Cond.instanceMethod yX1_push, Cond.initialized RX1, Cond.selects RX1 yX1_push yX1_push, Cond.code yX1_push cX1_push 2 none, Cond.fieldLink RX1 11 "SquareGears$SavedGears" "ring" "[LSquareGears$Gears;", Cond.fieldLink RX1 15 "SquareGears$SavedGears" "next" "I", Cond.fieldLink RX1 19 "SquareGears$SavedGears" "count" "I", Cond.methodLink RX1 27 Lib.Math.min.name, Cond.static Lib.Math.min.name, Cond.initialized "java/lang/Math", Cond.code Lib.Math.min.name Lib.Math.min.code 2 (some .int), Cond.instanceMethod yX0_takeFrom, Cond.initialized RX0, Cond.selects RX0 yX0_takeFrom yX0_takeFrom, Cond.code yX0_takeFrom cX0_takeFrom 2 none, Cond.fieldLink RX0 9 "SquareGears$Gears" "amplitudes" "[I", Cond.methodLink RX0 25 arraycopyName, Cond.native arraycopyName, Cond.static arraycopyName, Cond.initialized "java/lang/System", Cond.fieldLink RX0 15 "SquareGears$Gears" "pattern" "[I", Cond.fieldLink RX0 18 "SquareGears$Gears" "lostWheels" "I"]
def wsX3_load_r3 : List Cond := [Cond.fieldLink RX0 22 "SquareGears$Gears" "changedByFits" "I", Cond.instanceMethod yX2_tellTo, Cond.selects RX2 yX2_tellTo yX2_tellTo, Cond.code yX2_tellTo cX2_tellTo 7 none, Cond.instanceMethod yX2_empty, Cond.selects RX2 yX2_empty yX2_empty, Cond.code yX2_empty cX2_empty 1 none, Cond.instanceMethod yX0_drawingWheels, Cond.selects RX0 yX0_drawingWheels yX0_drawingWheels, Cond.code yX0_drawingWheels cX0_drawingWheels 3 (some .int)]
def wsX3_load : List Cond := .code yX3_load cX3_load 1 (some .int) :: ((wsX3_load_r1 ++ (wsX3_load_r2 ++ wsX3_load_r3)) ++ wsX30 ++ wsX20 ++ wsX10 ++ wsX00 ++ (vx_atS RX3 61 "java/lang/IllegalArgumentException" ["java/lang/RuntimeException", "java/lang/Exception"]).filter goodWord)
def wsX3_keep : List Cond := .code yX3_keep cX3_keep 2 (some .int) :: ([.classLink RX3 57 "java/lang/IllegalArgumentException", .initialized "java/lang/IllegalArgumentException", .fieldLink RX3 16 "SquareGears" "slots" "[LSquareGears$Gears;", .fieldLink RX3 12 "SquareGears" "now" "LSquareGears$Gears;", .fieldLink RX3 20 "SquareGears" "keptSlots" "I", .methodLink RX3 53 yX3_isOutside, .static yX3_isOutside, .initialized RX3, .code yX3_isOutside cX3_isOutside 3 (some .boolean), .instanceMethod yX0_takeFrom, .initialized RX0, .selects RX0 yX0_takeFrom yX0_takeFrom, .code yX0_takeFrom cX0_takeFrom 2 none, .fieldLink RX0 9 "SquareGears$Gears" "amplitudes" "[I", .methodLink RX0 25 arraycopyName, .native arraycopyName, .static arraycopyName, .initialized "java/lang/System", .fieldLink RX0 15 "SquareGears$Gears" "pattern" "[I", .fieldLink RX0 18 "SquareGears$Gears" "lostWheels" "I", .fieldLink RX0 22 "SquareGears$Gears" "changedByFits" "I", .instanceMethod yX0_drawingWheels, .selects RX0 yX0_drawingWheels yX0_drawingWheels, .code yX0_drawingWheels cX0_drawingWheels 3 (some .int)] ++ wsX30 ++ wsX00 ++ (vx_atS RX3 61 "java/lang/IllegalArgumentException" ["java/lang/RuntimeException", "java/lang/Exception"]).filter goodWord)
def wsX3_hasSnapshot : List Cond := .code yX3_hasSnapshot cX3_hasSnapshot 2 (some .boolean) :: ([.fieldLink RX3 20 "SquareGears" "keptSlots" "I"] ++ wsX30)
def wsX3_goBack_r1 : List Cond := [Cond.classLink RX3 57 "java/lang/IllegalArgumentException", Cond.initialized "java/lang/IllegalArgumentException", Cond.classLink RX3 117 "java/lang/IllegalStateException", Cond.initialized "java/lang/IllegalStateException", Cond.fieldLink RX3 27 "SquareGears" "saved" "LSquareGears$SavedGears;", Cond.fieldLink RX3 12 "SquareGears" "now" "LSquareGears$Gears;", Cond.fieldLink RX3 16 "SquareGears" "slots" "[LSquareGears$Gears;", Cond.methodLink RX3 53 yX3_isOutside, Cond.static yX3_isOutside, Cond.initialized RX3, Cond.code yX3_isOutside cX3_isOutside 3 (some .boolean), Cond.methodLink RX3 152 yX3_hasSnapshot, Cond.instanceMethod yX3_hasSnapshot, Cond.selects RX3 yX3_hasSnapshot yX3_hasSnapshot, Cond.code yX3_hasSnapshot cX3_hasSnapshot 2 (some .boolean), Cond.fieldLink RX3 20 "SquareGears" "keptSlots" "I", Cond.instanceMethod yX1_push, Cond.initialized RX1, Cond.selects RX1 yX1_push yX1_push, Cond.code yX1_push cX1_push 2 none, Cond.fieldLink RX1 11 "SquareGears$SavedGears" "ring" "[LSquareGears$Gears;", Cond.fieldLink RX1 15 "SquareGears$SavedGears" "next" "I", Cond.fieldLink RX1 19 "SquareGears$SavedGears" "count" "I", Cond.methodLink RX1 27 Lib.Math.min.name]
def wsX3_goBack_r2 : List Cond := [Cond.static Lib.Math.min.name, Cond.initialized "java/lang/Math", Cond.code Lib.Math.min.name Lib.Math.min.code 2 (some .int), Cond.instanceMethod yX0_takeFrom, Cond.initialized RX0, Cond.selects RX0 yX0_takeFrom yX0_takeFrom, Cond.code yX0_takeFrom cX0_takeFrom 2 none, Cond.fieldLink RX0 9 "SquareGears$Gears" "amplitudes" "[I", Cond.methodLink RX0 25 arraycopyName, Cond.native arraycopyName, Cond.static arraycopyName, Cond.initialized "java/lang/System", Cond.fieldLink RX0 15 "SquareGears$Gears" "pattern" "[I", Cond.fieldLink RX0 18 "SquareGears$Gears" "lostWheels" "I", Cond.fieldLink RX0 22 "SquareGears$Gears" "changedByFits" "I", Cond.instanceMethod yX0_drawingWheels, Cond.selects RX0 yX0_drawingWheels yX0_drawingWheels, Cond.code yX0_drawingWheels cX0_drawingWheels 3 (some .int)]
def wsX3_goBack : List Cond := .code yX3_goBack cX3_goBack 2 (some .int) :: ((wsX3_goBack_r1 ++ wsX3_goBack_r2) ++ wsX30 ++ wsX10 ++ wsX00 ++ (vx_atS RX3 61 "java/lang/IllegalArgumentException" ["java/lang/RuntimeException", "java/lang/Exception"]).filter goodWord ++ (vx_atS RX3 121 "java/lang/IllegalStateException" ["java/lang/RuntimeException", "java/lang/Exception"]).filter goodWord)
def wsX3_undo : List Cond := .code yX3_undo cX3_undo 1 (some .int) :: ([.classLink RX3 117 "java/lang/IllegalStateException", .initialized "java/lang/IllegalStateException", .fieldLink RX3 27 "SquareGears" "saved" "LSquareGears$SavedGears;", .fieldLink RX3 12 "SquareGears" "now" "LSquareGears$Gears;", .instanceMethod yX1_popInto, .initialized RX1, .selects RX1 yX1_popInto yX1_popInto, .code yX1_popInto cX1_popInto 2 none, .fieldLink RX1 15 "SquareGears$SavedGears" "next" "I", .fieldLink RX1 19 "SquareGears$SavedGears" "count" "I", .fieldLink RX1 11 "SquareGears$SavedGears" "ring" "[LSquareGears$Gears;", .instanceMethod yX0_takeFrom, .initialized RX0, .selects RX0 yX0_takeFrom yX0_takeFrom, .code yX0_takeFrom cX0_takeFrom 2 none, .fieldLink RX0 9 "SquareGears$Gears" "amplitudes" "[I", .methodLink RX0 25 arraycopyName, .native arraycopyName, .static arraycopyName, .initialized "java/lang/System", .fieldLink RX0 15 "SquareGears$Gears" "pattern" "[I", .fieldLink RX0 18 "SquareGears$Gears" "lostWheels" "I", .fieldLink RX0 22 "SquareGears$Gears" "changedByFits" "I"] ++ wsX30 ++ wsX10 ++ wsX00 ++ (vx_atS RX3 121 "java/lang/IllegalStateException" ["java/lang/RuntimeException", "java/lang/Exception"]).filter goodWord)
def wsX3_changesOfWave : List Cond := .code yX3_changesOfWave cX3_changesOfWave 3 (some .int) :: ([.methodLink RX3 77 yX3_wave, .static yX3_wave, .initialized RX3, .code yX3_wave cX3_wave 2 (some .int), .methodLink RX3 240 yJ6_bitCount_0f7a4, .static yJ6_bitCount_0f7a4, .initialized RJ6, .code yJ6_bitCount_0f7a4 cJ6_bitCount_0f7a4 1 (some .int), .constant RJ6 265 (1431655765), .constant RJ6 266 (858993459), .constant RJ6 267 (252645135)])
def wsX3_wheelNumber_r1 : List Cond := [Cond.fieldLink RX3 12 "SquareGears" "now" "LSquareGears$Gears;", Cond.instanceMethod yX0_isLost, Cond.initialized RX0, Cond.selects RX0 yX0_isLost yX0_isLost, Cond.code yX0_isLost cX0_isLost 2 (some .boolean), Cond.fieldLink RX0 18 "SquareGears$Gears" "lostWheels" "I", Cond.instanceMethod yX0_patternAmplitude, Cond.selects RX0 yX0_patternAmplitude yX0_patternAmplitude, Cond.code yX0_patternAmplitude cX0_patternAmplitude 4 (some .int), Cond.fieldLink RX0 15 "SquareGears$Gears" "pattern" "[I", Cond.static yX3_wave, Cond.initialized RX3, Cond.code yX3_wave cX3_wave 2 (some .int), Cond.methodLink RX3 240 yJ6_bitCount_0f7a4, Cond.static yJ6_bitCount_0f7a4, Cond.initialized RJ6, Cond.code yJ6_bitCount_0f7a4 cJ6_bitCount_0f7a4 1 (some .int), Cond.constant RJ6 265 (1431655765), Cond.constant RJ6 266 (858993459), Cond.constant RJ6 267 (252645135), Cond.methodLink RX0 46 yJ9_floorDiv_7cf53, Cond.static yJ9_floorDiv_7cf53, Cond.initialized RJ9, Cond.code yJ9_floorDiv_7cf53 cJ9_floorDiv_7cf53 3 (some .int)]
def wsX3_wheelNumber_r2 : List Cond := [Cond.methodLink RX3 245 yX3_changesOfWave, Cond.static yX3_changesOfWave, Cond.code yX3_changesOfWave cX3_changesOfWave 3 (some .int), Cond.methodLink RX3 77 yX3_wave]
def wsX3_wheelNumber : List Cond := .code yX3_wheelNumber cX3_wheelNumber 3 (some .int) :: ((wsX3_wheelNumber_r1 ++ wsX3_wheelNumber_r2) ++ wsX30 ++ wsX00)
def wsX3_wheelOf_r1 : List Cond := [Cond.classLink RX3 46 "java/lang/IndexOutOfBoundsException", Cond.initialized "java/lang/IndexOutOfBoundsException", Cond.classLink RX3 57 "java/lang/IllegalArgumentException", Cond.initialized "java/lang/IllegalArgumentException", Cond.methodLink RX3 42 yX3_isNoPlace, Cond.static yX3_isNoPlace, Cond.initialized RX3, Cond.code yX3_isNoPlace cX3_isNoPlace 1 (some .boolean), Cond.methodLink RX3 53 yX3_isOutside, Cond.static yX3_isOutside, Cond.code yX3_isOutside cX3_isOutside 3 (some .boolean), Cond.methodLink RX3 167 yX3_wheelNumber, Cond.instanceMethod yX3_wheelNumber, Cond.selects RX3 yX3_wheelNumber yX3_wheelNumber, Cond.code yX3_wheelNumber cX3_wheelNumber 3 (some .int), Cond.fieldLink RX3 12 "SquareGears" "now" "LSquareGears$Gears;", Cond.instanceMethod yX0_isLost, Cond.initialized RX0, Cond.selects RX0 yX0_isLost yX0_isLost, Cond.code yX0_isLost cX0_isLost 2 (some .boolean), Cond.fieldLink RX0 18 "SquareGears$Gears" "lostWheels" "I", Cond.instanceMethod yX0_patternAmplitude, Cond.selects RX0 yX0_patternAmplitude yX0_patternAmplitude, Cond.code yX0_patternAmplitude cX0_patternAmplitude 4 (some .int)]
def wsX3_wheelOf_r2 : List Cond := [Cond.fieldLink RX0 15 "SquareGears$Gears" "pattern" "[I", Cond.static yX3_wave, Cond.code yX3_wave cX3_wave 2 (some .int), Cond.methodLink RX3 240 yJ6_bitCount_0f7a4, Cond.static yJ6_bitCount_0f7a4, Cond.initialized RJ6, Cond.code yJ6_bitCount_0f7a4 cJ6_bitCount_0f7a4 1 (some .int), Cond.constant RJ6 265 (1431655765), Cond.constant RJ6 266 (858993459), Cond.constant RJ6 267 (252645135), Cond.methodLink RX0 46 yJ9_floorDiv_7cf53, Cond.static yJ9_floorDiv_7cf53, Cond.initialized RJ9, Cond.code yJ9_floorDiv_7cf53 cJ9_floorDiv_7cf53 3 (some .int), Cond.methodLink RX3 245 yX3_changesOfWave, Cond.static yX3_changesOfWave, Cond.code yX3_changesOfWave cX3_changesOfWave 3 (some .int), Cond.methodLink RX3 77 yX3_wave]
def wsX3_wheelOf : List Cond := .code yX3_wheelOf cX3_wheelOf 3 (some .int) :: ((wsX3_wheelOf_r1 ++ wsX3_wheelOf_r2) ++ wsX30 ++ wsX00 ++ (vx_atS RX3 50 "java/lang/IndexOutOfBoundsException" ["java/lang/RuntimeException", "java/lang/Exception"]).filter goodWord ++ (vx_atS RX3 61 "java/lang/IllegalArgumentException" ["java/lang/RuntimeException", "java/lang/Exception"]).filter goodWord)
def wsX3_addAndSubtractHalves : List Cond := .code yX3_addAndSubtractHalves cX3_addAndSubtractHalves 5 none :: ([.fieldLink RX3 38 "SquareGears" "row" "[I"] ++ wsX30)
def wsX3_traceNumber_r1 : List Cond := [Cond.fieldLink RX3 12 "SquareGears" "now" "LSquareGears$Gears;", Cond.fieldLink RX3 38 "SquareGears" "row" "[I", Cond.instanceMethod yX0_traceAt, Cond.initialized RX0, Cond.selects RX0 yX0_traceAt yX0_traceAt, Cond.code yX0_traceAt cX0_traceAt 4 (some .int), Cond.methodLink RX0 35 yX0_drawnAmplitude, Cond.instanceMethod yX0_drawnAmplitude, Cond.selects RX0 yX0_drawnAmplitude yX0_drawnAmplitude, Cond.code yX0_drawnAmplitude cX0_drawnAmplitude 2 (some .int), Cond.fieldLink RX0 9 "SquareGears$Gears" "amplitudes" "[I", Cond.methodLink RX0 31 yX0_isLost, Cond.instanceMethod yX0_isLost, Cond.selects RX0 yX0_isLost yX0_isLost, Cond.code yX0_isLost cX0_isLost 2 (some .boolean), Cond.fieldLink RX0 18 "SquareGears$Gears" "lostWheels" "I", Cond.static yX3_wave, Cond.initialized RX3, Cond.code yX3_wave cX3_wave 2 (some .int), Cond.methodLink RX3 240 yJ6_bitCount_0f7a4, Cond.static yJ6_bitCount_0f7a4, Cond.initialized RJ6, Cond.code yJ6_bitCount_0f7a4 cJ6_bitCount_0f7a4 1 (some .int), Cond.constant RJ6 265 (1431655765)]
def wsX3_traceNumber_r2 : List Cond := [Cond.constant RJ6 266 (858993459), Cond.constant RJ6 267 (252645135), Cond.methodLink RX3 248 yX3_addAndSubtractHalves, Cond.instanceMethod yX3_addAndSubtractHalves, Cond.selects RX3 yX3_addAndSubtractHalves yX3_addAndSubtractHalves, Cond.code yX3_addAndSubtractHalves cX3_addAndSubtractHalves 5 none]
def wsX3_traceNumber : List Cond := .code yX3_traceNumber cX3_traceNumber 4 (some .int) :: ((wsX3_traceNumber_r1 ++ wsX3_traceNumber_r2) ++ wsX30 ++ wsX00)
def wsX3_trace_r1 : List Cond := [Cond.classLink RX3 46 "java/lang/IndexOutOfBoundsException", Cond.initialized "java/lang/IndexOutOfBoundsException", Cond.classLink RX3 57 "java/lang/IllegalArgumentException", Cond.initialized "java/lang/IllegalArgumentException", Cond.methodLink RX3 42 yX3_isNoPlace, Cond.static yX3_isNoPlace, Cond.initialized RX3, Cond.code yX3_isNoPlace cX3_isNoPlace 1 (some .boolean), Cond.methodLink RX3 53 yX3_isOutside, Cond.static yX3_isOutside, Cond.code yX3_isOutside cX3_isOutside 3 (some .boolean), Cond.methodLink RX3 172 yX3_traceNumber, Cond.instanceMethod yX3_traceNumber, Cond.selects RX3 yX3_traceNumber yX3_traceNumber, Cond.code yX3_traceNumber cX3_traceNumber 4 (some .int), Cond.fieldLink RX3 12 "SquareGears" "now" "LSquareGears$Gears;", Cond.fieldLink RX3 38 "SquareGears" "row" "[I", Cond.instanceMethod yX0_traceAt, Cond.initialized RX0, Cond.selects RX0 yX0_traceAt yX0_traceAt, Cond.code yX0_traceAt cX0_traceAt 4 (some .int), Cond.methodLink RX0 35 yX0_drawnAmplitude, Cond.instanceMethod yX0_drawnAmplitude, Cond.selects RX0 yX0_drawnAmplitude yX0_drawnAmplitude]
def wsX3_trace_r2 : List Cond := [Cond.code yX0_drawnAmplitude cX0_drawnAmplitude 2 (some .int), Cond.fieldLink RX0 9 "SquareGears$Gears" "amplitudes" "[I", Cond.methodLink RX0 31 yX0_isLost, Cond.instanceMethod yX0_isLost, Cond.selects RX0 yX0_isLost yX0_isLost, Cond.code yX0_isLost cX0_isLost 2 (some .boolean), Cond.fieldLink RX0 18 "SquareGears$Gears" "lostWheels" "I", Cond.static yX3_wave, Cond.code yX3_wave cX3_wave 2 (some .int), Cond.methodLink RX3 240 yJ6_bitCount_0f7a4, Cond.static yJ6_bitCount_0f7a4, Cond.initialized RJ6, Cond.code yJ6_bitCount_0f7a4 cJ6_bitCount_0f7a4 1 (some .int), Cond.constant RJ6 265 (1431655765), Cond.constant RJ6 266 (858993459), Cond.constant RJ6 267 (252645135), Cond.methodLink RX3 248 yX3_addAndSubtractHalves, Cond.instanceMethod yX3_addAndSubtractHalves, Cond.selects RX3 yX3_addAndSubtractHalves yX3_addAndSubtractHalves, Cond.code yX3_addAndSubtractHalves cX3_addAndSubtractHalves 5 none]
def wsX3_trace : List Cond := .code yX3_trace cX3_trace 3 (some .int) :: ((wsX3_trace_r1 ++ wsX3_trace_r2) ++ wsX30 ++ wsX00 ++ (vx_atS RX3 50 "java/lang/IndexOutOfBoundsException" ["java/lang/RuntimeException", "java/lang/Exception"]).filter goodWord ++ (vx_atS RX3 61 "java/lang/IllegalArgumentException" ["java/lang/RuntimeException", "java/lang/Exception"]).filter goodWord)
def wsX3_pointNumber_r1 : List Cond := [Cond.fieldLink RX3 12 "SquareGears" "now" "LSquareGears$Gears;", Cond.instanceMethod yX0_differenceAt, Cond.initialized RX0, Cond.selects RX0 yX0_differenceAt yX0_differenceAt, Cond.code yX0_differenceAt cX0_differenceAt 2 (some .int), Cond.fieldLink RX0 15 "SquareGears$Gears" "pattern" "[I", Cond.methodLink RX0 43 yX0_traceAt, Cond.instanceMethod yX0_traceAt, Cond.selects RX0 yX0_traceAt yX0_traceAt, Cond.code yX0_traceAt cX0_traceAt 4 (some .int), Cond.methodLink RX0 35 yX0_drawnAmplitude, Cond.instanceMethod yX0_drawnAmplitude, Cond.selects RX0 yX0_drawnAmplitude yX0_drawnAmplitude, Cond.code yX0_drawnAmplitude cX0_drawnAmplitude 2 (some .int), Cond.fieldLink RX0 9 "SquareGears$Gears" "amplitudes" "[I", Cond.methodLink RX0 31 yX0_isLost, Cond.instanceMethod yX0_isLost, Cond.selects RX0 yX0_isLost yX0_isLost, Cond.code yX0_isLost cX0_isLost 2 (some .boolean), Cond.fieldLink RX0 18 "SquareGears$Gears" "lostWheels" "I", Cond.static yX3_wave, Cond.initialized RX3, Cond.code yX3_wave cX3_wave 2 (some .int), Cond.methodLink RX3 240 yJ6_bitCount_0f7a4]
def wsX3_pointNumber_r2 : List Cond := [Cond.static yJ6_bitCount_0f7a4, Cond.initialized RJ6, Cond.code yJ6_bitCount_0f7a4 cJ6_bitCount_0f7a4 1 (some .int), Cond.constant RJ6 265 (1431655765), Cond.constant RJ6 266 (858993459), Cond.constant RJ6 267 (252645135), Cond.instanceMethod yX0_jumpAt, Cond.selects RX0 yX0_jumpAt yX0_jumpAt, Cond.code yX0_jumpAt cX0_jumpAt 2 (some .int)]
def wsX3_pointNumber : List Cond := .code yX3_pointNumber cX3_pointNumber 3 (some .int) :: ((wsX3_pointNumber_r1 ++ wsX3_pointNumber_r2) ++ wsX30 ++ wsX00)
def wsX3_pointOf_r1 : List Cond := [Cond.classLink RX3 46 "java/lang/IndexOutOfBoundsException", Cond.initialized "java/lang/IndexOutOfBoundsException", Cond.classLink RX3 57 "java/lang/IllegalArgumentException", Cond.initialized "java/lang/IllegalArgumentException", Cond.methodLink RX3 42 yX3_isNoPlace, Cond.static yX3_isNoPlace, Cond.initialized RX3, Cond.code yX3_isNoPlace cX3_isNoPlace 1 (some .boolean), Cond.methodLink RX3 53 yX3_isOutside, Cond.static yX3_isOutside, Cond.code yX3_isOutside cX3_isOutside 3 (some .boolean), Cond.methodLink RX3 177 yX3_pointNumber, Cond.instanceMethod yX3_pointNumber, Cond.selects RX3 yX3_pointNumber yX3_pointNumber, Cond.code yX3_pointNumber cX3_pointNumber 3 (some .int), Cond.fieldLink RX3 12 "SquareGears" "now" "LSquareGears$Gears;", Cond.instanceMethod yX0_differenceAt, Cond.initialized RX0, Cond.selects RX0 yX0_differenceAt yX0_differenceAt, Cond.code yX0_differenceAt cX0_differenceAt 2 (some .int), Cond.fieldLink RX0 15 "SquareGears$Gears" "pattern" "[I", Cond.methodLink RX0 43 yX0_traceAt, Cond.instanceMethod yX0_traceAt, Cond.selects RX0 yX0_traceAt yX0_traceAt]
def wsX3_pointOf_r2 : List Cond := [Cond.code yX0_traceAt cX0_traceAt 4 (some .int), Cond.methodLink RX0 35 yX0_drawnAmplitude, Cond.instanceMethod yX0_drawnAmplitude, Cond.selects RX0 yX0_drawnAmplitude yX0_drawnAmplitude, Cond.code yX0_drawnAmplitude cX0_drawnAmplitude 2 (some .int), Cond.fieldLink RX0 9 "SquareGears$Gears" "amplitudes" "[I", Cond.methodLink RX0 31 yX0_isLost, Cond.instanceMethod yX0_isLost, Cond.selects RX0 yX0_isLost yX0_isLost, Cond.code yX0_isLost cX0_isLost 2 (some .boolean), Cond.fieldLink RX0 18 "SquareGears$Gears" "lostWheels" "I", Cond.static yX3_wave, Cond.code yX3_wave cX3_wave 2 (some .int), Cond.methodLink RX3 240 yJ6_bitCount_0f7a4, Cond.static yJ6_bitCount_0f7a4, Cond.initialized RJ6, Cond.code yJ6_bitCount_0f7a4 cJ6_bitCount_0f7a4 1 (some .int), Cond.constant RJ6 265 (1431655765), Cond.constant RJ6 266 (858993459), Cond.constant RJ6 267 (252645135), Cond.instanceMethod yX0_jumpAt, Cond.selects RX0 yX0_jumpAt yX0_jumpAt, Cond.code yX0_jumpAt cX0_jumpAt 2 (some .int)]
def wsX3_pointOf : List Cond := .code yX3_pointOf cX3_pointOf 3 (some .int) :: ((wsX3_pointOf_r1 ++ wsX3_pointOf_r2) ++ wsX30 ++ wsX00 ++ (vx_atS RX3 50 "java/lang/IndexOutOfBoundsException" ["java/lang/RuntimeException", "java/lang/Exception"]).filter goodWord ++ (vx_atS RX3 61 "java/lang/IllegalArgumentException" ["java/lang/RuntimeException", "java/lang/Exception"]).filter goodWord)
def wsX3_greatestTrace_r1 : List Cond := [Cond.fieldLink RX3 12 "SquareGears" "now" "LSquareGears$Gears;", Cond.methodLink RX3 105 Lib.Math.max.name, Cond.static Lib.Math.max.name, Cond.initialized "java/lang/Math", Cond.code Lib.Math.max.name Lib.Math.max.code 2 (some .int), Cond.instanceMethod yX0_traceAt, Cond.initialized RX0, Cond.selects RX0 yX0_traceAt yX0_traceAt, Cond.code yX0_traceAt cX0_traceAt 4 (some .int), Cond.methodLink RX0 35 yX0_drawnAmplitude, Cond.instanceMethod yX0_drawnAmplitude, Cond.selects RX0 yX0_drawnAmplitude yX0_drawnAmplitude, Cond.code yX0_drawnAmplitude cX0_drawnAmplitude 2 (some .int), Cond.fieldLink RX0 9 "SquareGears$Gears" "amplitudes" "[I", Cond.methodLink RX0 31 yX0_isLost, Cond.instanceMethod yX0_isLost, Cond.selects RX0 yX0_isLost yX0_isLost, Cond.code yX0_isLost cX0_isLost 2 (some .boolean), Cond.fieldLink RX0 18 "SquareGears$Gears" "lostWheels" "I", Cond.static yX3_wave, Cond.initialized RX3, Cond.code yX3_wave cX3_wave 2 (some .int), Cond.methodLink RX3 240 yJ6_bitCount_0f7a4, Cond.static yJ6_bitCount_0f7a4]
def wsX3_greatestTrace_r2 : List Cond := [Cond.initialized RJ6, Cond.code yJ6_bitCount_0f7a4 cJ6_bitCount_0f7a4 1 (some .int), Cond.constant RJ6 265 (1431655765), Cond.constant RJ6 266 (858993459), Cond.constant RJ6 267 (252645135)]
def wsX3_greatestTrace : List Cond := .code yX3_greatestTrace cX3_greatestTrace 3 (some .int) :: ((wsX3_greatestTrace_r1 ++ wsX3_greatestTrace_r2) ++ wsX30 ++ wsX00)
def wsX3_leastTrace_r1 : List Cond := [Cond.fieldLink RX3 12 "SquareGears" "now" "LSquareGears$Gears;", Cond.methodLink RX3 102 Lib.Math.min.name, Cond.static Lib.Math.min.name, Cond.initialized "java/lang/Math", Cond.code Lib.Math.min.name Lib.Math.min.code 2 (some .int), Cond.instanceMethod yX0_traceAt, Cond.initialized RX0, Cond.selects RX0 yX0_traceAt yX0_traceAt, Cond.code yX0_traceAt cX0_traceAt 4 (some .int), Cond.methodLink RX0 35 yX0_drawnAmplitude, Cond.instanceMethod yX0_drawnAmplitude, Cond.selects RX0 yX0_drawnAmplitude yX0_drawnAmplitude, Cond.code yX0_drawnAmplitude cX0_drawnAmplitude 2 (some .int), Cond.fieldLink RX0 9 "SquareGears$Gears" "amplitudes" "[I", Cond.methodLink RX0 31 yX0_isLost, Cond.instanceMethod yX0_isLost, Cond.selects RX0 yX0_isLost yX0_isLost, Cond.code yX0_isLost cX0_isLost 2 (some .boolean), Cond.fieldLink RX0 18 "SquareGears$Gears" "lostWheels" "I", Cond.static yX3_wave, Cond.initialized RX3, Cond.code yX3_wave cX3_wave 2 (some .int), Cond.methodLink RX3 240 yJ6_bitCount_0f7a4, Cond.static yJ6_bitCount_0f7a4]
def wsX3_leastTrace_r2 : List Cond := [Cond.initialized RJ6, Cond.code yJ6_bitCount_0f7a4 cJ6_bitCount_0f7a4 1 (some .int), Cond.constant RJ6 265 (1431655765), Cond.constant RJ6 266 (858993459), Cond.constant RJ6 267 (252645135)]
def wsX3_leastTrace : List Cond := .code yX3_leastTrace cX3_leastTrace 3 (some .int) :: ((wsX3_leastTrace_r1 ++ wsX3_leastTrace_r2) ++ wsX30 ++ wsX00)
def wsX3_greatestDifference_r1 : List Cond := [Cond.fieldLink RX3 12 "SquareGears" "now" "LSquareGears$Gears;", Cond.methodLink RX3 83 Lib.Math.abs.name, Cond.static Lib.Math.abs.name, Cond.initialized "java/lang/Math", Cond.code Lib.Math.abs.name Lib.Math.abs.code 1 (some .int), Cond.methodLink RX3 105 Lib.Math.max.name, Cond.static Lib.Math.max.name, Cond.code Lib.Math.max.name Lib.Math.max.code 2 (some .int), Cond.instanceMethod yX0_differenceAt, Cond.initialized RX0, Cond.selects RX0 yX0_differenceAt yX0_differenceAt, Cond.code yX0_differenceAt cX0_differenceAt 2 (some .int), Cond.fieldLink RX0 15 "SquareGears$Gears" "pattern" "[I", Cond.methodLink RX0 43 yX0_traceAt, Cond.instanceMethod yX0_traceAt, Cond.selects RX0 yX0_traceAt yX0_traceAt, Cond.code yX0_traceAt cX0_traceAt 4 (some .int), Cond.methodLink RX0 35 yX0_drawnAmplitude, Cond.instanceMethod yX0_drawnAmplitude, Cond.selects RX0 yX0_drawnAmplitude yX0_drawnAmplitude, Cond.code yX0_drawnAmplitude cX0_drawnAmplitude 2 (some .int), Cond.fieldLink RX0 9 "SquareGears$Gears" "amplitudes" "[I", Cond.methodLink RX0 31 yX0_isLost, Cond.instanceMethod yX0_isLost]
def wsX3_greatestDifference_r2 : List Cond := [Cond.selects RX0 yX0_isLost yX0_isLost, Cond.code yX0_isLost cX0_isLost 2 (some .boolean), Cond.fieldLink RX0 18 "SquareGears$Gears" "lostWheels" "I", Cond.static yX3_wave, Cond.initialized RX3, Cond.code yX3_wave cX3_wave 2 (some .int), Cond.methodLink RX3 240 yJ6_bitCount_0f7a4, Cond.static yJ6_bitCount_0f7a4, Cond.initialized RJ6, Cond.code yJ6_bitCount_0f7a4 cJ6_bitCount_0f7a4 1 (some .int), Cond.constant RJ6 265 (1431655765), Cond.constant RJ6 266 (858993459), Cond.constant RJ6 267 (252645135)]
def wsX3_greatestDifference : List Cond := .code yX3_greatestDifference cX3_greatestDifference 3 (some .int) :: ((wsX3_greatestDifference_r1 ++ wsX3_greatestDifference_r2) ++ wsX30 ++ wsX00)
def wsX3_greatestJump_r1 : List Cond := [Cond.fieldLink RX3 12 "SquareGears" "now" "LSquareGears$Gears;", Cond.methodLink RX3 83 Lib.Math.abs.name, Cond.static Lib.Math.abs.name, Cond.initialized "java/lang/Math", Cond.code Lib.Math.abs.name Lib.Math.abs.code 1 (some .int), Cond.methodLink RX3 105 Lib.Math.max.name, Cond.static Lib.Math.max.name, Cond.code Lib.Math.max.name Lib.Math.max.code 2 (some .int), Cond.instanceMethod yX0_jumpAt, Cond.initialized RX0, Cond.selects RX0 yX0_jumpAt yX0_jumpAt, Cond.code yX0_jumpAt cX0_jumpAt 2 (some .int), Cond.methodLink RX0 43 yX0_traceAt, Cond.instanceMethod yX0_traceAt, Cond.selects RX0 yX0_traceAt yX0_traceAt, Cond.code yX0_traceAt cX0_traceAt 4 (some .int), Cond.methodLink RX0 35 yX0_drawnAmplitude, Cond.instanceMethod yX0_drawnAmplitude, Cond.selects RX0 yX0_drawnAmplitude yX0_drawnAmplitude, Cond.code yX0_drawnAmplitude cX0_drawnAmplitude 2 (some .int), Cond.fieldLink RX0 9 "SquareGears$Gears" "amplitudes" "[I", Cond.methodLink RX0 31 yX0_isLost, Cond.instanceMethod yX0_isLost, Cond.selects RX0 yX0_isLost yX0_isLost]
def wsX3_greatestJump_r2 : List Cond := [Cond.code yX0_isLost cX0_isLost 2 (some .boolean), Cond.fieldLink RX0 18 "SquareGears$Gears" "lostWheels" "I", Cond.static yX3_wave, Cond.initialized RX3, Cond.code yX3_wave cX3_wave 2 (some .int), Cond.methodLink RX3 240 yJ6_bitCount_0f7a4, Cond.static yJ6_bitCount_0f7a4, Cond.initialized RJ6, Cond.code yJ6_bitCount_0f7a4 cJ6_bitCount_0f7a4 1 (some .int), Cond.constant RJ6 265 (1431655765), Cond.constant RJ6 266 (858993459), Cond.constant RJ6 267 (252645135)]
def wsX3_greatestJump : List Cond := .code yX3_greatestJump cX3_greatestJump 3 (some .int) :: ((wsX3_greatestJump_r1 ++ wsX3_greatestJump_r2) ++ wsX30 ++ wsX00)
def wsX3_overshoot_r1 : List Cond := [Cond.methodLink RX3 105 Lib.Math.max.name, Cond.static Lib.Math.max.name, Cond.initialized "java/lang/Math", Cond.code Lib.Math.max.name Lib.Math.max.code 2 (some .int), Cond.fieldLink RX3 12 "SquareGears" "now" "LSquareGears$Gears;", Cond.methodLink RX3 83 Lib.Math.abs.name, Cond.static Lib.Math.abs.name, Cond.code Lib.Math.abs.name Lib.Math.abs.code 1 (some .int), Cond.methodLink RX3 254 yX3_greatestTrace, Cond.instanceMethod yX3_greatestTrace, Cond.selects RX3 yX3_greatestTrace yX3_greatestTrace, Cond.initialized RX3, Cond.code yX3_greatestTrace cX3_greatestTrace 3 (some .int), Cond.instanceMethod yX0_traceAt, Cond.initialized RX0, Cond.selects RX0 yX0_traceAt yX0_traceAt, Cond.code yX0_traceAt cX0_traceAt 4 (some .int), Cond.methodLink RX0 35 yX0_drawnAmplitude, Cond.instanceMethod yX0_drawnAmplitude, Cond.selects RX0 yX0_drawnAmplitude yX0_drawnAmplitude, Cond.code yX0_drawnAmplitude cX0_drawnAmplitude 2 (some .int), Cond.fieldLink RX0 9 "SquareGears$Gears" "amplitudes" "[I", Cond.methodLink RX0 31 yX0_isLost, Cond.instanceMethod yX0_isLost]
def wsX3_overshoot_r2 : List Cond := [Cond.selects RX0 yX0_isLost yX0_isLost, Cond.code yX0_isLost cX0_isLost 2 (some .boolean), Cond.fieldLink RX0 18 "SquareGears$Gears" "lostWheels" "I", Cond.static yX3_wave, Cond.code yX3_wave cX3_wave 2 (some .int), Cond.methodLink RX3 240 yJ6_bitCount_0f7a4, Cond.static yJ6_bitCount_0f7a4, Cond.initialized RJ6, Cond.code yJ6_bitCount_0f7a4 cJ6_bitCount_0f7a4 1 (some .int), Cond.constant RJ6 265 (1431655765), Cond.constant RJ6 266 (858993459), Cond.constant RJ6 267 (252645135), Cond.methodLink RX3 257 yX3_leastTrace, Cond.instanceMethod yX3_leastTrace, Cond.selects RX3 yX3_leastTrace yX3_leastTrace, Cond.code yX3_leastTrace cX3_leastTrace 3 (some .int), Cond.methodLink RX3 102 Lib.Math.min.name, Cond.static Lib.Math.min.name, Cond.code Lib.Math.min.name Lib.Math.min.code 2 (some .int)]
def wsX3_overshoot : List Cond := .code yX3_overshoot cX3_overshoot 1 (some .int) :: ((wsX3_overshoot_r1 ++ wsX3_overshoot_r2) ++ wsX30 ++ wsX00)
def wsX3_countNumber_r1 : List Cond := [Cond.fieldLink RX3 12 "SquareGears" "now" "LSquareGears$Gears;", Cond.fieldLink RX3 27 "SquareGears" "saved" "LSquareGears$SavedGears;", Cond.instanceMethod yX0_drawingWheels, Cond.initialized RX0, Cond.selects RX0 yX0_drawingWheels yX0_drawingWheels, Cond.code yX0_drawingWheels cX0_drawingWheels 3 (some .int), Cond.fieldLink RX0 9 "SquareGears$Gears" "amplitudes" "[I", Cond.methodLink RX3 240 yJ6_bitCount_0f7a4, Cond.static yJ6_bitCount_0f7a4, Cond.initialized RJ6, Cond.code yJ6_bitCount_0f7a4 cJ6_bitCount_0f7a4 1 (some .int), Cond.constant RJ6 265 (1431655765), Cond.constant RJ6 266 (858993459), Cond.constant RJ6 267 (252645135), Cond.methodLink RX3 254 yX3_greatestTrace, Cond.instanceMethod yX3_greatestTrace, Cond.selects RX3 yX3_greatestTrace yX3_greatestTrace, Cond.initialized RX3, Cond.code yX3_greatestTrace cX3_greatestTrace 3 (some .int), Cond.methodLink RX3 105 Lib.Math.max.name, Cond.static Lib.Math.max.name, Cond.initialized "java/lang/Math", Cond.code Lib.Math.max.name Lib.Math.max.code 2 (some .int), Cond.instanceMethod yX0_traceAt]
def wsX3_countNumber_r2 : List Cond := [Cond.selects RX0 yX0_traceAt yX0_traceAt, Cond.code yX0_traceAt cX0_traceAt 4 (some .int), Cond.methodLink RX0 35 yX0_drawnAmplitude, Cond.instanceMethod yX0_drawnAmplitude, Cond.selects RX0 yX0_drawnAmplitude yX0_drawnAmplitude, Cond.code yX0_drawnAmplitude cX0_drawnAmplitude 2 (some .int), Cond.methodLink RX0 31 yX0_isLost, Cond.instanceMethod yX0_isLost, Cond.selects RX0 yX0_isLost yX0_isLost, Cond.code yX0_isLost cX0_isLost 2 (some .boolean), Cond.fieldLink RX0 18 "SquareGears$Gears" "lostWheels" "I", Cond.static yX3_wave, Cond.code yX3_wave cX3_wave 2 (some .int), Cond.methodLink RX3 257 yX3_leastTrace, Cond.instanceMethod yX3_leastTrace, Cond.selects RX3 yX3_leastTrace yX3_leastTrace, Cond.code yX3_leastTrace cX3_leastTrace 3 (some .int), Cond.methodLink RX3 102 Lib.Math.min.name, Cond.static Lib.Math.min.name, Cond.code Lib.Math.min.name Lib.Math.min.code 2 (some .int), Cond.methodLink RX3 260 yX3_greatestDifference, Cond.instanceMethod yX3_greatestDifference, Cond.selects RX3 yX3_greatestDifference yX3_greatestDifference, Cond.code yX3_greatestDifference cX3_greatestDifference 3 (some .int)]
def wsX3_countNumber_r3 : List Cond := [Cond.methodLink RX3 83 Lib.Math.abs.name, Cond.static Lib.Math.abs.name, Cond.code Lib.Math.abs.name Lib.Math.abs.code 1 (some .int), Cond.instanceMethod yX0_differenceAt, Cond.selects RX0 yX0_differenceAt yX0_differenceAt, Cond.code yX0_differenceAt cX0_differenceAt 2 (some .int), Cond.fieldLink RX0 15 "SquareGears$Gears" "pattern" "[I", Cond.methodLink RX0 43 yX0_traceAt, Cond.methodLink RX3 263 yX3_greatestJump, Cond.instanceMethod yX3_greatestJump, Cond.selects RX3 yX3_greatestJump yX3_greatestJump, Cond.code yX3_greatestJump cX3_greatestJump 3 (some .int), Cond.instanceMethod yX0_jumpAt, Cond.selects RX0 yX0_jumpAt yX0_jumpAt, Cond.code yX0_jumpAt cX0_jumpAt 2 (some .int), Cond.methodLink RX3 266 yX3_overshoot, Cond.instanceMethod yX3_overshoot, Cond.selects RX3 yX3_overshoot yX3_overshoot, Cond.code yX3_overshoot cX3_overshoot 1 (some .int)]
def wsX3_countNumber : List Cond := .code yX3_countNumber cX3_countNumber 2 (some .int) :: ((wsX3_countNumber_r1 ++ (wsX3_countNumber_r2 ++ wsX3_countNumber_r3)) ++ wsX30 ++ wsX00 ++ wsX10)
def wsX3_count_r1 : List Cond := [Cond.classLink RX3 57 "java/lang/IllegalArgumentException", Cond.initialized "java/lang/IllegalArgumentException", Cond.methodLink RX3 53 yX3_isOutside, Cond.static yX3_isOutside, Cond.initialized RX3, Cond.code yX3_isOutside cX3_isOutside 3 (some .boolean), Cond.methodLink RX3 182 yX3_countNumber, Cond.instanceMethod yX3_countNumber, Cond.selects RX3 yX3_countNumber yX3_countNumber, Cond.code yX3_countNumber cX3_countNumber 2 (some .int), Cond.fieldLink RX3 12 "SquareGears" "now" "LSquareGears$Gears;", Cond.fieldLink RX3 27 "SquareGears" "saved" "LSquareGears$SavedGears;", Cond.instanceMethod yX0_drawingWheels, Cond.initialized RX0, Cond.selects RX0 yX0_drawingWheels yX0_drawingWheels, Cond.code yX0_drawingWheels cX0_drawingWheels 3 (some .int), Cond.fieldLink RX0 9 "SquareGears$Gears" "amplitudes" "[I", Cond.methodLink RX3 240 yJ6_bitCount_0f7a4, Cond.static yJ6_bitCount_0f7a4, Cond.initialized RJ6, Cond.code yJ6_bitCount_0f7a4 cJ6_bitCount_0f7a4 1 (some .int), Cond.constant RJ6 265 (1431655765), Cond.constant RJ6 266 (858993459), Cond.constant RJ6 267 (252645135)]
def wsX3_count_r2 : List Cond := [Cond.methodLink RX3 254 yX3_greatestTrace, Cond.instanceMethod yX3_greatestTrace, Cond.selects RX3 yX3_greatestTrace yX3_greatestTrace, Cond.code yX3_greatestTrace cX3_greatestTrace 3 (some .int), Cond.methodLink RX3 105 Lib.Math.max.name, Cond.static Lib.Math.max.name, Cond.initialized "java/lang/Math", Cond.code Lib.Math.max.name Lib.Math.max.code 2 (some .int), Cond.instanceMethod yX0_traceAt, Cond.selects RX0 yX0_traceAt yX0_traceAt, Cond.code yX0_traceAt cX0_traceAt 4 (some .int), Cond.methodLink RX0 35 yX0_drawnAmplitude, Cond.instanceMethod yX0_drawnAmplitude, Cond.selects RX0 yX0_drawnAmplitude yX0_drawnAmplitude, Cond.code yX0_drawnAmplitude cX0_drawnAmplitude 2 (some .int), Cond.methodLink RX0 31 yX0_isLost, Cond.instanceMethod yX0_isLost, Cond.selects RX0 yX0_isLost yX0_isLost, Cond.code yX0_isLost cX0_isLost 2 (some .boolean), Cond.fieldLink RX0 18 "SquareGears$Gears" "lostWheels" "I", Cond.static yX3_wave, Cond.code yX3_wave cX3_wave 2 (some .int), Cond.methodLink RX3 257 yX3_leastTrace, Cond.instanceMethod yX3_leastTrace]
def wsX3_count_r3 : List Cond := [Cond.selects RX3 yX3_leastTrace yX3_leastTrace, Cond.code yX3_leastTrace cX3_leastTrace 3 (some .int), Cond.methodLink RX3 102 Lib.Math.min.name, Cond.static Lib.Math.min.name, Cond.code Lib.Math.min.name Lib.Math.min.code 2 (some .int), Cond.methodLink RX3 260 yX3_greatestDifference, Cond.instanceMethod yX3_greatestDifference, Cond.selects RX3 yX3_greatestDifference yX3_greatestDifference, Cond.code yX3_greatestDifference cX3_greatestDifference 3 (some .int), Cond.methodLink RX3 83 Lib.Math.abs.name, Cond.static Lib.Math.abs.name, Cond.code Lib.Math.abs.name Lib.Math.abs.code 1 (some .int), Cond.instanceMethod yX0_differenceAt, Cond.selects RX0 yX0_differenceAt yX0_differenceAt, Cond.code yX0_differenceAt cX0_differenceAt 2 (some .int), Cond.fieldLink RX0 15 "SquareGears$Gears" "pattern" "[I", Cond.methodLink RX0 43 yX0_traceAt, Cond.methodLink RX3 263 yX3_greatestJump, Cond.instanceMethod yX3_greatestJump, Cond.selects RX3 yX3_greatestJump yX3_greatestJump, Cond.code yX3_greatestJump cX3_greatestJump 3 (some .int), Cond.instanceMethod yX0_jumpAt, Cond.selects RX0 yX0_jumpAt yX0_jumpAt, Cond.code yX0_jumpAt cX0_jumpAt 2 (some .int)]
def wsX3_count_r4 : List Cond := [Cond.methodLink RX3 266 yX3_overshoot, Cond.instanceMethod yX3_overshoot, Cond.selects RX3 yX3_overshoot yX3_overshoot, Cond.code yX3_overshoot cX3_overshoot 1 (some .int)]
def wsX3_count : List Cond := .code yX3_count cX3_count 2 (some .int) :: ((wsX3_count_r1 ++ (wsX3_count_r2 ++ (wsX3_count_r3 ++ wsX3_count_r4))) ++ wsX30 ++ wsX00 ++ wsX10 ++ (vx_atS RX3 61 "java/lang/IllegalArgumentException" ["java/lang/RuntimeException", "java/lang/Exception"]).filter goodWord)
def wsX3_isDifference_r1 : List Cond := [Cond.fieldLink RX3 12 "SquareGears" "now" "LSquareGears$Gears;", Cond.instanceMethod yX0_differenceAt, Cond.initialized RX0, Cond.selects RX0 yX0_differenceAt yX0_differenceAt, Cond.code yX0_differenceAt cX0_differenceAt 2 (some .int), Cond.fieldLink RX0 15 "SquareGears$Gears" "pattern" "[I", Cond.methodLink RX0 43 yX0_traceAt, Cond.instanceMethod yX0_traceAt, Cond.selects RX0 yX0_traceAt yX0_traceAt, Cond.code yX0_traceAt cX0_traceAt 4 (some .int), Cond.methodLink RX0 35 yX0_drawnAmplitude, Cond.instanceMethod yX0_drawnAmplitude, Cond.selects RX0 yX0_drawnAmplitude yX0_drawnAmplitude, Cond.code yX0_drawnAmplitude cX0_drawnAmplitude 2 (some .int), Cond.fieldLink RX0 9 "SquareGears$Gears" "amplitudes" "[I", Cond.methodLink RX0 31 yX0_isLost, Cond.instanceMethod yX0_isLost, Cond.selects RX0 yX0_isLost yX0_isLost, Cond.code yX0_isLost cX0_isLost 2 (some .boolean), Cond.fieldLink RX0 18 "SquareGears$Gears" "lostWheels" "I", Cond.static yX3_wave, Cond.initialized RX3, Cond.code yX3_wave cX3_wave 2 (some .int), Cond.methodLink RX3 240 yJ6_bitCount_0f7a4]
def wsX3_isDifference_r2 : List Cond := [Cond.static yJ6_bitCount_0f7a4, Cond.initialized RJ6, Cond.code yJ6_bitCount_0f7a4 cJ6_bitCount_0f7a4 1 (some .int), Cond.constant RJ6 265 (1431655765), Cond.constant RJ6 266 (858993459), Cond.constant RJ6 267 (252645135), Cond.methodLink RX3 77 yX3_wave]
def wsX3_isDifference : List Cond := .code yX3_isDifference cX3_isDifference 4 (some .boolean) :: ((wsX3_isDifference_r1 ++ wsX3_isDifference_r2) ++ wsX30 ++ wsX00)
def wsX3_findLost_r1 : List Cond := [Cond.fieldLink RX3 12 "SquareGears" "now" "LSquareGears$Gears;", Cond.instanceMethod yX0_differenceAt, Cond.initialized RX0, Cond.selects RX0 yX0_differenceAt yX0_differenceAt, Cond.code yX0_differenceAt cX0_differenceAt 2 (some .int), Cond.fieldLink RX0 15 "SquareGears$Gears" "pattern" "[I", Cond.methodLink RX0 43 yX0_traceAt, Cond.instanceMethod yX0_traceAt, Cond.selects RX0 yX0_traceAt yX0_traceAt, Cond.code yX0_traceAt cX0_traceAt 4 (some .int), Cond.methodLink RX0 35 yX0_drawnAmplitude, Cond.instanceMethod yX0_drawnAmplitude, Cond.selects RX0 yX0_drawnAmplitude yX0_drawnAmplitude, Cond.code yX0_drawnAmplitude cX0_drawnAmplitude 2 (some .int), Cond.fieldLink RX0 9 "SquareGears$Gears" "amplitudes" "[I", Cond.methodLink RX0 31 yX0_isLost, Cond.instanceMethod yX0_isLost, Cond.selects RX0 yX0_isLost yX0_isLost, Cond.code yX0_isLost cX0_isLost 2 (some .boolean), Cond.fieldLink RX0 18 "SquareGears$Gears" "lostWheels" "I", Cond.static yX3_wave, Cond.initialized RX3, Cond.code yX3_wave cX3_wave 2 (some .int), Cond.methodLink RX3 240 yJ6_bitCount_0f7a4]
def wsX3_findLost_r2 : List Cond := [Cond.static yJ6_bitCount_0f7a4, Cond.initialized RJ6, Cond.code yJ6_bitCount_0f7a4 cJ6_bitCount_0f7a4 1 (some .int), Cond.constant RJ6 265 (1431655765), Cond.constant RJ6 266 (858993459), Cond.constant RJ6 267 (252645135), Cond.methodLink RX3 188 yX3_isDifference, Cond.instanceMethod yX3_isDifference, Cond.selects RX3 yX3_isDifference yX3_isDifference, Cond.code yX3_isDifference cX3_isDifference 4 (some .boolean), Cond.methodLink RX3 77 yX3_wave]
def wsX3_findLost : List Cond := .code yX3_findLost cX3_findLost 3 (some .int) :: ((wsX3_findLost_r1 ++ wsX3_findLost_r2) ++ wsX30 ++ wsX00)
def wsX3_leastInRow : List Cond := .code yX3_leastInRow cX3_leastInRow 3 (some .int) :: ([.fieldLink RX3 38 "SquareGears" "row" "[I"] ++ wsX30)
def wsX3_fewestByDropping : List Cond := .code yX3_fewestByDropping cX3_fewestByDropping 6 (some .int) :: ([.fieldLink RX3 38 "SquareGears" "row" "[I", .methodLink RX3 278 yX3_leastInRow, .instanceMethod yX3_leastInRow, .selects RX3 yX3_leastInRow yX3_leastInRow, .initialized RX3, .code yX3_leastInRow cX3_leastInRow 3 (some .int)] ++ wsX30)
def wsX3_fewestOfAllSets : List Cond := .code yX3_fewestOfAllSets cX3_fewestOfAllSets 7 (some .int) :: ([.fieldLink RX3 38 "SquareGears" "row" "[I"] ++ wsX30)
def wsX3_fewestNumber_r1 : List Cond := [Cond.fieldLink RX3 38 "SquareGears" "row" "[I", Cond.fieldLink RX3 12 "SquareGears" "now" "LSquareGears$Gears;", Cond.instanceMethod yX0_errorWithout, Cond.initialized RX0, Cond.selects RX0 yX0_errorWithout yX0_errorWithout, Cond.code yX0_errorWithout cX0_errorWithout 2 (some .int), Cond.methodLink RX0 35 yX0_drawnAmplitude, Cond.instanceMethod yX0_drawnAmplitude, Cond.selects RX0 yX0_drawnAmplitude yX0_drawnAmplitude, Cond.code yX0_drawnAmplitude cX0_drawnAmplitude 2 (some .int), Cond.fieldLink RX0 9 "SquareGears$Gears" "amplitudes" "[I", Cond.methodLink RX0 31 yX0_isLost, Cond.instanceMethod yX0_isLost, Cond.selects RX0 yX0_isLost yX0_isLost, Cond.code yX0_isLost cX0_isLost 2 (some .boolean), Cond.fieldLink RX0 18 "SquareGears$Gears" "lostWheels" "I", Cond.methodLink RX3 272 yX3_fewestByDropping, Cond.instanceMethod yX3_fewestByDropping, Cond.selects RX3 yX3_fewestByDropping yX3_fewestByDropping, Cond.initialized RX3, Cond.code yX3_fewestByDropping cX3_fewestByDropping 6 (some .int), Cond.methodLink RX3 278 yX3_leastInRow, Cond.instanceMethod yX3_leastInRow, Cond.selects RX3 yX3_leastInRow yX3_leastInRow]
def wsX3_fewestNumber_r2 : List Cond := [Cond.code yX3_leastInRow cX3_leastInRow 3 (some .int), Cond.methodLink RX3 275 yX3_fewestOfAllSets, Cond.instanceMethod yX3_fewestOfAllSets, Cond.selects RX3 yX3_fewestOfAllSets yX3_fewestOfAllSets, Cond.code yX3_fewestOfAllSets cX3_fewestOfAllSets 7 (some .int)]
def wsX3_fewestNumber : List Cond := .code yX3_fewestNumber cX3_fewestNumber 4 (some .int) :: ((wsX3_fewestNumber_r1 ++ wsX3_fewestNumber_r2) ++ wsX30 ++ wsX00)
def wsX3_enough_r1 : List Cond := [Cond.classLink RX3 57 "java/lang/IllegalArgumentException", Cond.initialized "java/lang/IllegalArgumentException", Cond.constant RX3 192 (9999999), Cond.methodLink RX3 53 yX3_isOutside, Cond.static yX3_isOutside, Cond.initialized RX3, Cond.code yX3_isOutside cX3_isOutside 3 (some .boolean), Cond.methodLink RX3 195 yX3_fewestNumber, Cond.instanceMethod yX3_fewestNumber, Cond.selects RX3 yX3_fewestNumber yX3_fewestNumber, Cond.code yX3_fewestNumber cX3_fewestNumber 4 (some .int), Cond.fieldLink RX3 38 "SquareGears" "row" "[I", Cond.fieldLink RX3 12 "SquareGears" "now" "LSquareGears$Gears;", Cond.instanceMethod yX0_errorWithout, Cond.initialized RX0, Cond.selects RX0 yX0_errorWithout yX0_errorWithout, Cond.code yX0_errorWithout cX0_errorWithout 2 (some .int), Cond.methodLink RX0 35 yX0_drawnAmplitude, Cond.instanceMethod yX0_drawnAmplitude, Cond.selects RX0 yX0_drawnAmplitude yX0_drawnAmplitude, Cond.code yX0_drawnAmplitude cX0_drawnAmplitude 2 (some .int), Cond.fieldLink RX0 9 "SquareGears$Gears" "amplitudes" "[I", Cond.methodLink RX0 31 yX0_isLost, Cond.instanceMethod yX0_isLost]
def wsX3_enough_r2 : List Cond := [Cond.selects RX0 yX0_isLost yX0_isLost, Cond.code yX0_isLost cX0_isLost 2 (some .boolean), Cond.fieldLink RX0 18 "SquareGears$Gears" "lostWheels" "I", Cond.methodLink RX3 272 yX3_fewestByDropping, Cond.instanceMethod yX3_fewestByDropping, Cond.selects RX3 yX3_fewestByDropping yX3_fewestByDropping, Cond.code yX3_fewestByDropping cX3_fewestByDropping 6 (some .int), Cond.methodLink RX3 278 yX3_leastInRow, Cond.instanceMethod yX3_leastInRow, Cond.selects RX3 yX3_leastInRow yX3_leastInRow, Cond.code yX3_leastInRow cX3_leastInRow 3 (some .int), Cond.methodLink RX3 275 yX3_fewestOfAllSets, Cond.instanceMethod yX3_fewestOfAllSets, Cond.selects RX3 yX3_fewestOfAllSets yX3_fewestOfAllSets, Cond.code yX3_fewestOfAllSets cX3_fewestOfAllSets 7 (some .int)]
def wsX3_enough : List Cond := .code yX3_enough cX3_enough 3 (some .int) :: ((wsX3_enough_r1 ++ wsX3_enough_r2) ++ wsX30 ++ wsX00 ++ (vx_atS RX3 61 "java/lang/IllegalArgumentException" ["java/lang/RuntimeException", "java/lang/Exception"]).filter goodWord)
def wsX3_ifTurned_r1 : List Cond := [Cond.classLink RX3 46 "java/lang/IndexOutOfBoundsException", Cond.initialized "java/lang/IndexOutOfBoundsException", Cond.classLink RX3 57 "java/lang/IllegalArgumentException", Cond.initialized "java/lang/IllegalArgumentException", Cond.fieldLink RX3 12 "SquareGears" "now" "LSquareGears$Gears;", Cond.methodLink RX3 42 yX3_isNoPlace, Cond.static yX3_isNoPlace, Cond.initialized RX3, Cond.code yX3_isNoPlace cX3_isNoPlace 1 (some .boolean), Cond.methodLink RX3 53 yX3_isOutside, Cond.static yX3_isOutside, Cond.code yX3_isOutside cX3_isOutside 3 (some .boolean), Cond.instanceMethod yX0_traceAt, Cond.initialized RX0, Cond.selects RX0 yX0_traceAt yX0_traceAt, Cond.code yX0_traceAt cX0_traceAt 4 (some .int), Cond.methodLink RX0 35 yX0_drawnAmplitude, Cond.instanceMethod yX0_drawnAmplitude, Cond.selects RX0 yX0_drawnAmplitude yX0_drawnAmplitude, Cond.code yX0_drawnAmplitude cX0_drawnAmplitude 2 (some .int), Cond.fieldLink RX0 9 "SquareGears$Gears" "amplitudes" "[I", Cond.methodLink RX0 31 yX0_isLost, Cond.instanceMethod yX0_isLost, Cond.selects RX0 yX0_isLost yX0_isLost]
def wsX3_ifTurned_r2 : List Cond := [Cond.code yX0_isLost cX0_isLost 2 (some .boolean), Cond.fieldLink RX0 18 "SquareGears$Gears" "lostWheels" "I", Cond.static yX3_wave, Cond.code yX3_wave cX3_wave 2 (some .int), Cond.methodLink RX3 240 yJ6_bitCount_0f7a4, Cond.static yJ6_bitCount_0f7a4, Cond.initialized RJ6, Cond.code yJ6_bitCount_0f7a4 cJ6_bitCount_0f7a4 1 (some .int), Cond.constant RJ6 265 (1431655765), Cond.constant RJ6 266 (858993459), Cond.constant RJ6 267 (252645135)]
def wsX3_ifTurned : List Cond := .code yX3_ifTurned cX3_ifTurned 3 (some .int) :: ((wsX3_ifTurned_r1 ++ wsX3_ifTurned_r2) ++ wsX30 ++ wsX00 ++ (vx_atS RX3 50 "java/lang/IndexOutOfBoundsException" ["java/lang/RuntimeException", "java/lang/Exception"]).filter goodWord ++ (vx_atS RX3 61 "java/lang/IllegalArgumentException" ["java/lang/RuntimeException", "java/lang/Exception"]).filter goodWord)
def wsX3_differencesIfTurned_r1 : List Cond := [Cond.fieldLink RX3 12 "SquareGears" "now" "LSquareGears$Gears;", Cond.methodLink RX3 83 Lib.Math.abs.name, Cond.static Lib.Math.abs.name, Cond.initialized "java/lang/Math", Cond.code Lib.Math.abs.name Lib.Math.abs.code 1 (some .int), Cond.instanceMethod yX0_traceAt, Cond.initialized RX0, Cond.selects RX0 yX0_traceAt yX0_traceAt, Cond.code yX0_traceAt cX0_traceAt 4 (some .int), Cond.methodLink RX0 35 yX0_drawnAmplitude, Cond.instanceMethod yX0_drawnAmplitude, Cond.selects RX0 yX0_drawnAmplitude yX0_drawnAmplitude, Cond.code yX0_drawnAmplitude cX0_drawnAmplitude 2 (some .int), Cond.fieldLink RX0 9 "SquareGears$Gears" "amplitudes" "[I", Cond.methodLink RX0 31 yX0_isLost, Cond.instanceMethod yX0_isLost, Cond.selects RX0 yX0_isLost yX0_isLost, Cond.code yX0_isLost cX0_isLost 2 (some .boolean), Cond.fieldLink RX0 18 "SquareGears$Gears" "lostWheels" "I", Cond.static yX3_wave, Cond.initialized RX3, Cond.code yX3_wave cX3_wave 2 (some .int), Cond.methodLink RX3 240 yJ6_bitCount_0f7a4, Cond.static yJ6_bitCount_0f7a4]
def wsX3_differencesIfTurned_r2 : List Cond := [Cond.initialized RJ6, Cond.code yJ6_bitCount_0f7a4 cJ6_bitCount_0f7a4 1 (some .int), Cond.constant RJ6 265 (1431655765), Cond.constant RJ6 266 (858993459), Cond.constant RJ6 267 (252645135)]
def wsX3_differencesIfTurned : List Cond := .code yX3_differencesIfTurned cX3_differencesIfTurned 4 (some .int) :: ((wsX3_differencesIfTurned_r1 ++ wsX3_differencesIfTurned_r2) ++ wsX30 ++ wsX00)
def wsX3_bestTurn_r1 : List Cond := [Cond.methodLink RX3 198 yX3_differencesIfTurned, Cond.instanceMethod yX3_differencesIfTurned, Cond.selects RX3 yX3_differencesIfTurned yX3_differencesIfTurned, Cond.initialized RX3, Cond.code yX3_differencesIfTurned cX3_differencesIfTurned 4 (some .int), Cond.fieldLink RX3 12 "SquareGears" "now" "LSquareGears$Gears;", Cond.methodLink RX3 83 Lib.Math.abs.name, Cond.static Lib.Math.abs.name, Cond.initialized "java/lang/Math", Cond.code Lib.Math.abs.name Lib.Math.abs.code 1 (some .int), Cond.instanceMethod yX0_traceAt, Cond.initialized RX0, Cond.selects RX0 yX0_traceAt yX0_traceAt, Cond.code yX0_traceAt cX0_traceAt 4 (some .int), Cond.methodLink RX0 35 yX0_drawnAmplitude, Cond.instanceMethod yX0_drawnAmplitude, Cond.selects RX0 yX0_drawnAmplitude yX0_drawnAmplitude, Cond.code yX0_drawnAmplitude cX0_drawnAmplitude 2 (some .int), Cond.fieldLink RX0 9 "SquareGears$Gears" "amplitudes" "[I", Cond.methodLink RX0 31 yX0_isLost, Cond.instanceMethod yX0_isLost, Cond.selects RX0 yX0_isLost yX0_isLost, Cond.code yX0_isLost cX0_isLost 2 (some .boolean), Cond.fieldLink RX0 18 "SquareGears$Gears" "lostWheels" "I"]
def wsX3_bestTurn_r2 : List Cond := [Cond.static yX3_wave, Cond.code yX3_wave cX3_wave 2 (some .int), Cond.methodLink RX3 240 yJ6_bitCount_0f7a4, Cond.static yJ6_bitCount_0f7a4, Cond.initialized RJ6, Cond.code yJ6_bitCount_0f7a4 cJ6_bitCount_0f7a4 1 (some .int), Cond.constant RJ6 265 (1431655765), Cond.constant RJ6 266 (858993459), Cond.constant RJ6 267 (252645135)]
def wsX3_bestTurn : List Cond := .code yX3_bestTurn cX3_bestTurn 5 (some .int) :: ((wsX3_bestTurn_r1 ++ wsX3_bestTurn_r2) ++ wsX30 ++ wsX00)
def wsX3_mainShare : List Cond := .code yX3_mainShare cX3_mainShare 5 (some .double) :: ([.fieldLink RX3 12 "SquareGears" "now" "LSquareGears$Gears;", .methodLink RX3 105 Lib.Math.max.name, .static Lib.Math.max.name, .initialized "java/lang/Math", .code Lib.Math.max.name Lib.Math.max.code 2 (some .int), .instanceMethod yX0_drawnAmplitude, .initialized RX0, .selects RX0 yX0_drawnAmplitude yX0_drawnAmplitude, .code yX0_drawnAmplitude cX0_drawnAmplitude 2 (some .int), .fieldLink RX0 9 "SquareGears$Gears" "amplitudes" "[I", .methodLink RX0 31 yX0_isLost, .instanceMethod yX0_isLost, .selects RX0 yX0_isLost yX0_isLost, .code yX0_isLost cX0_isLost 2 (some .boolean), .fieldLink RX0 18 "SquareGears$Gears" "lostWheels" "I"] ++ wsX30 ++ wsX00)
def wsX3_hashed : List Cond := .code yX3_hashed cX3_hashed 4 (some .long) :: ([.constantLong RX3 281 (31)])
def wsX3_hashedWheels_r1 : List Cond := [Cond.methodLink RX3 167 yX3_wheelNumber, Cond.instanceMethod yX3_wheelNumber, Cond.selects RX3 yX3_wheelNumber yX3_wheelNumber, Cond.initialized RX3, Cond.code yX3_wheelNumber cX3_wheelNumber 3 (some .int), Cond.fieldLink RX3 12 "SquareGears" "now" "LSquareGears$Gears;", Cond.instanceMethod yX0_isLost, Cond.initialized RX0, Cond.selects RX0 yX0_isLost yX0_isLost, Cond.code yX0_isLost cX0_isLost 2 (some .boolean), Cond.fieldLink RX0 18 "SquareGears$Gears" "lostWheels" "I", Cond.instanceMethod yX0_patternAmplitude, Cond.selects RX0 yX0_patternAmplitude yX0_patternAmplitude, Cond.code yX0_patternAmplitude cX0_patternAmplitude 4 (some .int), Cond.fieldLink RX0 15 "SquareGears$Gears" "pattern" "[I", Cond.static yX3_wave, Cond.code yX3_wave cX3_wave 2 (some .int), Cond.methodLink RX3 240 yJ6_bitCount_0f7a4, Cond.static yJ6_bitCount_0f7a4, Cond.initialized RJ6, Cond.code yJ6_bitCount_0f7a4 cJ6_bitCount_0f7a4 1 (some .int), Cond.constant RJ6 265 (1431655765), Cond.constant RJ6 266 (858993459), Cond.constant RJ6 267 (252645135)]
def wsX3_hashedWheels_r2 : List Cond := [Cond.methodLink RX0 46 yJ9_floorDiv_7cf53, Cond.static yJ9_floorDiv_7cf53, Cond.initialized RJ9, Cond.code yJ9_floorDiv_7cf53 cJ9_floorDiv_7cf53 3 (some .int), Cond.methodLink RX3 245 yX3_changesOfWave, Cond.static yX3_changesOfWave, Cond.code yX3_changesOfWave cX3_changesOfWave 3 (some .int), Cond.methodLink RX3 77 yX3_wave, Cond.methodLink RX3 206 yX3_hashed, Cond.static yX3_hashed, Cond.code yX3_hashed cX3_hashed 4 (some .long), Cond.constantLong RX3 281 (31)]
def wsX3_hashedWheels : List Cond := .code yX3_hashedWheels cX3_hashedWheels 7 (some .long) :: ((wsX3_hashedWheels_r1 ++ wsX3_hashedWheels_r2) ++ wsX30 ++ wsX00)
def wsX3_hashedPoints_r1 : List Cond := [Cond.methodLink RX3 172 yX3_traceNumber, Cond.instanceMethod yX3_traceNumber, Cond.selects RX3 yX3_traceNumber yX3_traceNumber, Cond.initialized RX3, Cond.code yX3_traceNumber cX3_traceNumber 4 (some .int), Cond.fieldLink RX3 12 "SquareGears" "now" "LSquareGears$Gears;", Cond.fieldLink RX3 38 "SquareGears" "row" "[I", Cond.instanceMethod yX0_traceAt, Cond.initialized RX0, Cond.selects RX0 yX0_traceAt yX0_traceAt, Cond.code yX0_traceAt cX0_traceAt 4 (some .int), Cond.methodLink RX0 35 yX0_drawnAmplitude, Cond.instanceMethod yX0_drawnAmplitude, Cond.selects RX0 yX0_drawnAmplitude yX0_drawnAmplitude, Cond.code yX0_drawnAmplitude cX0_drawnAmplitude 2 (some .int), Cond.fieldLink RX0 9 "SquareGears$Gears" "amplitudes" "[I", Cond.methodLink RX0 31 yX0_isLost, Cond.instanceMethod yX0_isLost, Cond.selects RX0 yX0_isLost yX0_isLost, Cond.code yX0_isLost cX0_isLost 2 (some .boolean), Cond.fieldLink RX0 18 "SquareGears$Gears" "lostWheels" "I", Cond.static yX3_wave, Cond.code yX3_wave cX3_wave 2 (some .int), Cond.methodLink RX3 240 yJ6_bitCount_0f7a4]
def wsX3_hashedPoints_r2 : List Cond := [Cond.static yJ6_bitCount_0f7a4, Cond.initialized RJ6, Cond.code yJ6_bitCount_0f7a4 cJ6_bitCount_0f7a4 1 (some .int), Cond.constant RJ6 265 (1431655765), Cond.constant RJ6 266 (858993459), Cond.constant RJ6 267 (252645135), Cond.methodLink RX3 248 yX3_addAndSubtractHalves, Cond.instanceMethod yX3_addAndSubtractHalves, Cond.selects RX3 yX3_addAndSubtractHalves yX3_addAndSubtractHalves, Cond.code yX3_addAndSubtractHalves cX3_addAndSubtractHalves 5 none, Cond.methodLink RX3 206 yX3_hashed, Cond.static yX3_hashed, Cond.code yX3_hashed cX3_hashed 4 (some .long), Cond.constantLong RX3 281 (31), Cond.methodLink RX3 177 yX3_pointNumber, Cond.instanceMethod yX3_pointNumber, Cond.selects RX3 yX3_pointNumber yX3_pointNumber, Cond.code yX3_pointNumber cX3_pointNumber 3 (some .int), Cond.instanceMethod yX0_differenceAt, Cond.selects RX0 yX0_differenceAt yX0_differenceAt, Cond.code yX0_differenceAt cX0_differenceAt 2 (some .int), Cond.fieldLink RX0 15 "SquareGears$Gears" "pattern" "[I", Cond.methodLink RX0 43 yX0_traceAt, Cond.instanceMethod yX0_jumpAt]
def wsX3_hashedPoints_r3 : List Cond := [Cond.selects RX0 yX0_jumpAt yX0_jumpAt, Cond.code yX0_jumpAt cX0_jumpAt 2 (some .int)]
def wsX3_hashedPoints : List Cond := .code yX3_hashedPoints cX3_hashedPoints 7 (some .long) :: ((wsX3_hashedPoints_r1 ++ (wsX3_hashedPoints_r2 ++ wsX3_hashedPoints_r3)) ++ wsX30 ++ wsX00)
def wsX3_hashedFewest_r1 : List Cond := [Cond.methodLink RX3 195 yX3_fewestNumber, Cond.instanceMethod yX3_fewestNumber, Cond.selects RX3 yX3_fewestNumber yX3_fewestNumber, Cond.initialized RX3, Cond.code yX3_fewestNumber cX3_fewestNumber 4 (some .int), Cond.fieldLink RX3 38 "SquareGears" "row" "[I", Cond.fieldLink RX3 12 "SquareGears" "now" "LSquareGears$Gears;", Cond.instanceMethod yX0_errorWithout, Cond.initialized RX0, Cond.selects RX0 yX0_errorWithout yX0_errorWithout, Cond.code yX0_errorWithout cX0_errorWithout 2 (some .int), Cond.methodLink RX0 35 yX0_drawnAmplitude, Cond.instanceMethod yX0_drawnAmplitude, Cond.selects RX0 yX0_drawnAmplitude yX0_drawnAmplitude, Cond.code yX0_drawnAmplitude cX0_drawnAmplitude 2 (some .int), Cond.fieldLink RX0 9 "SquareGears$Gears" "amplitudes" "[I", Cond.methodLink RX0 31 yX0_isLost, Cond.instanceMethod yX0_isLost, Cond.selects RX0 yX0_isLost yX0_isLost, Cond.code yX0_isLost cX0_isLost 2 (some .boolean), Cond.fieldLink RX0 18 "SquareGears$Gears" "lostWheels" "I", Cond.methodLink RX3 272 yX3_fewestByDropping, Cond.instanceMethod yX3_fewestByDropping, Cond.selects RX3 yX3_fewestByDropping yX3_fewestByDropping]
def wsX3_hashedFewest_r2 : List Cond := [Cond.code yX3_fewestByDropping cX3_fewestByDropping 6 (some .int), Cond.methodLink RX3 278 yX3_leastInRow, Cond.instanceMethod yX3_leastInRow, Cond.selects RX3 yX3_leastInRow yX3_leastInRow, Cond.code yX3_leastInRow cX3_leastInRow 3 (some .int), Cond.methodLink RX3 275 yX3_fewestOfAllSets, Cond.instanceMethod yX3_fewestOfAllSets, Cond.selects RX3 yX3_fewestOfAllSets yX3_fewestOfAllSets, Cond.code yX3_fewestOfAllSets cX3_fewestOfAllSets 7 (some .int), Cond.methodLink RX3 206 yX3_hashed, Cond.static yX3_hashed, Cond.code yX3_hashed cX3_hashed 4 (some .long), Cond.constantLong RX3 281 (31)]
def wsX3_hashedFewest : List Cond := .code yX3_hashedFewest cX3_hashedFewest 6 (some .long) :: ((wsX3_hashedFewest_r1 ++ wsX3_hashedFewest_r2) ++ wsX30 ++ wsX00)
def wsX3_bitsOfShare : List Cond := .code yX3_bitsOfShare cX3_bitsOfShare 8 (some .long) :: ([.constantLong RX3 283 (1023), .constantDouble RX3 285 (4611686018427387904), .constantDouble RX3 287 (4841369599423283200), .constantLong RX3 289 (4503599627370496)])
def wsX3_digest_r1 : List Cond := [Cond.constantLong RX3 204 (3733), Cond.constant RX3 224 (100000), Cond.fieldLink RX3 12 "SquareGears" "now" "LSquareGears$Gears;", Cond.fieldLink RX3 34 "SquareGears" "text" "LSquareGears$WheelText;", Cond.methodLink RX3 182 yX3_countNumber, Cond.instanceMethod yX3_countNumber, Cond.selects RX3 yX3_countNumber yX3_countNumber, Cond.initialized RX3, Cond.code yX3_countNumber cX3_countNumber 2 (some .int), Cond.fieldLink RX3 27 "SquareGears" "saved" "LSquareGears$SavedGears;", Cond.instanceMethod yX0_drawingWheels, Cond.initialized RX0, Cond.selects RX0 yX0_drawingWheels yX0_drawingWheels, Cond.code yX0_drawingWheels cX0_drawingWheels 3 (some .int), Cond.fieldLink RX0 9 "SquareGears$Gears" "amplitudes" "[I", Cond.methodLink RX3 240 yJ6_bitCount_0f7a4, Cond.static yJ6_bitCount_0f7a4, Cond.initialized RJ6, Cond.code yJ6_bitCount_0f7a4 cJ6_bitCount_0f7a4 1 (some .int), Cond.constant RJ6 265 (1431655765), Cond.constant RJ6 266 (858993459), Cond.constant RJ6 267 (252645135), Cond.methodLink RX3 254 yX3_greatestTrace, Cond.instanceMethod yX3_greatestTrace]
def wsX3_digest_r2 : List Cond := [Cond.selects RX3 yX3_greatestTrace yX3_greatestTrace, Cond.code yX3_greatestTrace cX3_greatestTrace 3 (some .int), Cond.methodLink RX3 105 Lib.Math.max.name, Cond.static Lib.Math.max.name, Cond.initialized "java/lang/Math", Cond.code Lib.Math.max.name Lib.Math.max.code 2 (some .int), Cond.instanceMethod yX0_traceAt, Cond.selects RX0 yX0_traceAt yX0_traceAt, Cond.code yX0_traceAt cX0_traceAt 4 (some .int), Cond.methodLink RX0 35 yX0_drawnAmplitude, Cond.instanceMethod yX0_drawnAmplitude, Cond.selects RX0 yX0_drawnAmplitude yX0_drawnAmplitude, Cond.code yX0_drawnAmplitude cX0_drawnAmplitude 2 (some .int), Cond.methodLink RX0 31 yX0_isLost, Cond.instanceMethod yX0_isLost, Cond.selects RX0 yX0_isLost yX0_isLost, Cond.code yX0_isLost cX0_isLost 2 (some .boolean), Cond.fieldLink RX0 18 "SquareGears$Gears" "lostWheels" "I", Cond.static yX3_wave, Cond.code yX3_wave cX3_wave 2 (some .int), Cond.methodLink RX3 257 yX3_leastTrace, Cond.instanceMethod yX3_leastTrace, Cond.selects RX3 yX3_leastTrace yX3_leastTrace, Cond.code yX3_leastTrace cX3_leastTrace 3 (some .int)]
def wsX3_digest_r3 : List Cond := [Cond.methodLink RX3 102 Lib.Math.min.name, Cond.static Lib.Math.min.name, Cond.code Lib.Math.min.name Lib.Math.min.code 2 (some .int), Cond.methodLink RX3 260 yX3_greatestDifference, Cond.instanceMethod yX3_greatestDifference, Cond.selects RX3 yX3_greatestDifference yX3_greatestDifference, Cond.code yX3_greatestDifference cX3_greatestDifference 3 (some .int), Cond.methodLink RX3 83 Lib.Math.abs.name, Cond.static Lib.Math.abs.name, Cond.code Lib.Math.abs.name Lib.Math.abs.code 1 (some .int), Cond.instanceMethod yX0_differenceAt, Cond.selects RX0 yX0_differenceAt yX0_differenceAt, Cond.code yX0_differenceAt cX0_differenceAt 2 (some .int), Cond.fieldLink RX0 15 "SquareGears$Gears" "pattern" "[I", Cond.methodLink RX0 43 yX0_traceAt, Cond.methodLink RX3 263 yX3_greatestJump, Cond.instanceMethod yX3_greatestJump, Cond.selects RX3 yX3_greatestJump yX3_greatestJump, Cond.code yX3_greatestJump cX3_greatestJump 3 (some .int), Cond.instanceMethod yX0_jumpAt, Cond.selects RX0 yX0_jumpAt yX0_jumpAt, Cond.code yX0_jumpAt cX0_jumpAt 2 (some .int), Cond.methodLink RX3 266 yX3_overshoot, Cond.instanceMethod yX3_overshoot]
def wsX3_digest_r4 : List Cond := [Cond.selects RX3 yX3_overshoot yX3_overshoot, Cond.code yX3_overshoot cX3_overshoot 1 (some .int), Cond.methodLink RX3 206 yX3_hashed, Cond.static yX3_hashed, Cond.code yX3_hashed cX3_hashed 4 (some .long), Cond.constantLong RX3 281 (31), Cond.methodLink RX3 210 yX3_hashedWheels, Cond.instanceMethod yX3_hashedWheels, Cond.selects RX3 yX3_hashedWheels yX3_hashedWheels, Cond.code yX3_hashedWheels cX3_hashedWheels 7 (some .long), Cond.methodLink RX3 167 yX3_wheelNumber, Cond.instanceMethod yX3_wheelNumber, Cond.selects RX3 yX3_wheelNumber yX3_wheelNumber, Cond.code yX3_wheelNumber cX3_wheelNumber 3 (some .int), Cond.instanceMethod yX0_patternAmplitude, Cond.selects RX0 yX0_patternAmplitude yX0_patternAmplitude, Cond.code yX0_patternAmplitude cX0_patternAmplitude 4 (some .int), Cond.methodLink RX0 46 yJ9_floorDiv_7cf53, Cond.static yJ9_floorDiv_7cf53, Cond.initialized RJ9, Cond.code yJ9_floorDiv_7cf53 cJ9_floorDiv_7cf53 3 (some .int), Cond.methodLink RX3 245 yX3_changesOfWave, Cond.static yX3_changesOfWave, Cond.code yX3_changesOfWave cX3_changesOfWave 3 (some .int)]
def wsX3_digest_r5 : List Cond := [Cond.methodLink RX3 77 yX3_wave, Cond.methodLink RX3 214 yX3_hashedPoints, Cond.instanceMethod yX3_hashedPoints, Cond.selects RX3 yX3_hashedPoints yX3_hashedPoints, Cond.code yX3_hashedPoints cX3_hashedPoints 7 (some .long), Cond.methodLink RX3 172 yX3_traceNumber, Cond.instanceMethod yX3_traceNumber, Cond.selects RX3 yX3_traceNumber yX3_traceNumber, Cond.code yX3_traceNumber cX3_traceNumber 4 (some .int), Cond.fieldLink RX3 38 "SquareGears" "row" "[I", Cond.methodLink RX3 248 yX3_addAndSubtractHalves, Cond.instanceMethod yX3_addAndSubtractHalves, Cond.selects RX3 yX3_addAndSubtractHalves yX3_addAndSubtractHalves, Cond.code yX3_addAndSubtractHalves cX3_addAndSubtractHalves 5 none, Cond.methodLink RX3 177 yX3_pointNumber, Cond.instanceMethod yX3_pointNumber, Cond.selects RX3 yX3_pointNumber yX3_pointNumber, Cond.code yX3_pointNumber cX3_pointNumber 3 (some .int), Cond.methodLink RX3 217 yX3_findLost, Cond.instanceMethod yX3_findLost, Cond.selects RX3 yX3_findLost yX3_findLost, Cond.code yX3_findLost cX3_findLost 3 (some .int), Cond.methodLink RX3 188 yX3_isDifference, Cond.instanceMethod yX3_isDifference]
def wsX3_digest_r6 : List Cond := [Cond.selects RX3 yX3_isDifference yX3_isDifference, Cond.code yX3_isDifference cX3_isDifference 4 (some .boolean), Cond.methodLink RX3 220 yX3_hashedFewest, Cond.instanceMethod yX3_hashedFewest, Cond.selects RX3 yX3_hashedFewest yX3_hashedFewest, Cond.code yX3_hashedFewest cX3_hashedFewest 6 (some .long), Cond.methodLink RX3 195 yX3_fewestNumber, Cond.instanceMethod yX3_fewestNumber, Cond.selects RX3 yX3_fewestNumber yX3_fewestNumber, Cond.code yX3_fewestNumber cX3_fewestNumber 4 (some .int), Cond.instanceMethod yX0_errorWithout, Cond.selects RX0 yX0_errorWithout yX0_errorWithout, Cond.code yX0_errorWithout cX0_errorWithout 2 (some .int), Cond.methodLink RX3 272 yX3_fewestByDropping, Cond.instanceMethod yX3_fewestByDropping, Cond.selects RX3 yX3_fewestByDropping yX3_fewestByDropping, Cond.code yX3_fewestByDropping cX3_fewestByDropping 6 (some .int), Cond.methodLink RX3 278 yX3_leastInRow, Cond.instanceMethod yX3_leastInRow, Cond.selects RX3 yX3_leastInRow yX3_leastInRow, Cond.code yX3_leastInRow cX3_leastInRow 3 (some .int), Cond.methodLink RX3 275 yX3_fewestOfAllSets, Cond.instanceMethod yX3_fewestOfAllSets, Cond.selects RX3 yX3_fewestOfAllSets yX3_fewestOfAllSets]
def wsX3_digest_r7 : List Cond := [Cond.code yX3_fewestOfAllSets cX3_fewestOfAllSets 7 (some .int), Cond.methodLink RX3 225 yX3_bestTurn, Cond.instanceMethod yX3_bestTurn, Cond.selects RX3 yX3_bestTurn yX3_bestTurn, Cond.code yX3_bestTurn cX3_bestTurn 5 (some .int), Cond.methodLink RX3 198 yX3_differencesIfTurned, Cond.instanceMethod yX3_differencesIfTurned, Cond.selects RX3 yX3_differencesIfTurned yX3_differencesIfTurned, Cond.code yX3_differencesIfTurned cX3_differencesIfTurned 4 (some .int), Cond.methodLink RX3 228 yX3_mainShare, Cond.instanceMethod yX3_mainShare, Cond.selects RX3 yX3_mainShare yX3_mainShare, Cond.code yX3_mainShare cX3_mainShare 5 (some .double), Cond.methodLink RX3 232 yX3_bitsOfShare, Cond.static yX3_bitsOfShare, Cond.code yX3_bitsOfShare cX3_bitsOfShare 8 (some .long), Cond.constantLong RX3 283 (1023), Cond.constantDouble RX3 285 (4611686018427387904), Cond.constantDouble RX3 287 (4841369599423283200), Cond.constantLong RX3 289 (4503599627370496), Cond.methodLink RX3 152 yX3_hasSnapshot, Cond.instanceMethod yX3_hasSnapshot, Cond.selects RX3 yX3_hasSnapshot yX3_hasSnapshot, Cond.code yX3_hasSnapshot cX3_hasSnapshot 2 (some .boolean)]
def wsX3_digest_r8 : List Cond := [Cond.fieldLink RX3 20 "SquareGears" "keptSlots" "I"]
def wsX3_digest : List Cond := .code yX3_digest cX3_digest 4 (some .long) :: ((wsX3_digest_r1 ++ (wsX3_digest_r2 ++ (wsX3_digest_r3 ++ (wsX3_digest_r4 ++ (wsX3_digest_r5 ++ (wsX3_digest_r6 ++ (wsX3_digest_r7 ++ wsX3_digest_r8))))))) ++ wsX30 ++ wsX20 ++ wsX00 ++ wsX10)
def wsX4_init : List Cond := .code yX4_init cX4_init 1 none :: ([.methodLink RX4 1 objectInit, .instanceMethod objectInit, .code objectInit ⟨#[0xb1]⟩ 1 none, .arrayClass .int, .fieldLink RX4 7 "SquareGearsModel" "z" "[I", .fieldLink RX4 13 "SquareGearsModel" "saved" "[I", .fieldLink RX4 16 "SquareGearsModel" "slots" "[I", .arrayClass .boolean, .fieldLink RX4 19 "SquareGearsModel" "isKept" "[Z", .fieldLink RX4 23 "SquareGearsModel" "text" "[I", .fieldLink RX4 26 "SquareGearsModel" "isOut" "[Z"] ++ wsX40)
def wsX4_thrown : List Cond := .code yX4_thrown cX4_thrown 1 (some .int) :: ([.fieldLink RX4 29 "SquareGearsModel" "thrown" "I"] ++ wsX40)
def wsX4_in : List Cond := .code yX4_in cX4_in 3 (some .boolean) :: ([])
def wsX4_isOne : List Cond := .code yX4_isOne cX4_isOne 1 (some .boolean) :: ([.methodLink RX4 33 yX4_in, .static yX4_in, .initialized RX4, .code yX4_in cX4_in 3 (some .boolean)])
def wsX4_amount : List Cond := .code yX4_amount cX4_amount 1 (some .int) :: ([])
def wsX4_wave : List Cond := .code yX4_wave cX4_wave 3 (some .int) :: ([])
def wsX4_used : List Cond := .code yX4_used cX4_used 2 (some .int) :: ([.fieldLink RX4 7 "SquareGearsModel" "z" "[I"] ++ wsX40)
def wsX4_traceAt : List Cond := .code yX4_traceAt cX4_traceAt 4 (some .int) :: ([.methodLink RX4 37 yX4_used, .instanceMethod yX4_used, .selects RX4 yX4_used yX4_used, .initialized RX4, .code yX4_used cX4_used 2 (some .int), .fieldLink RX4 7 "SquareGearsModel" "z" "[I", .methodLink RX4 41 yX4_wave, .static yX4_wave, .code yX4_wave cX4_wave 3 (some .int)] ++ wsX40)
def wsX4_difference : List Cond := .code yX4_difference cX4_difference 2 (some .int) :: ([.fieldLink RX4 7 "SquareGearsModel" "z" "[I", .methodLink RX4 45 yX4_traceAt, .instanceMethod yX4_traceAt, .selects RX4 yX4_traceAt yX4_traceAt, .initialized RX4, .code yX4_traceAt cX4_traceAt 4 (some .int), .methodLink RX4 37 yX4_used, .instanceMethod yX4_used, .selects RX4 yX4_used yX4_used, .code yX4_used cX4_used 2 (some .int), .methodLink RX4 41 yX4_wave, .static yX4_wave, .code yX4_wave cX4_wave 3 (some .int)] ++ wsX40)
def wsX4_jump : List Cond := .code yX4_jump cX4_jump 2 (some .int) :: ([.methodLink RX4 45 yX4_traceAt, .instanceMethod yX4_traceAt, .selects RX4 yX4_traceAt yX4_traceAt, .initialized RX4, .code yX4_traceAt cX4_traceAt 4 (some .int), .methodLink RX4 37 yX4_used, .instanceMethod yX4_used, .selects RX4 yX4_used yX4_used, .code yX4_used cX4_used 2 (some .int), .fieldLink RX4 7 "SquareGearsModel" "z" "[I", .methodLink RX4 41 yX4_wave, .static yX4_wave, .code yX4_wave cX4_wave 3 (some .int)] ++ wsX40)
def wsX4_ofPattern : List Cond := .code yX4_ofPattern cX4_ofPattern 4 (some .int) :: ([.fieldLink RX4 7 "SquareGearsModel" "z" "[I", .methodLink RX4 41 yX4_wave, .static yX4_wave, .initialized RX4, .code yX4_wave cX4_wave 3 (some .int)] ++ wsX40)
def wsX4_turning : List Cond := .code yX4_turning cX4_turning 3 (some .int) :: ([.fieldLink RX4 7 "SquareGearsModel" "z" "[I"] ++ wsX40)
def wsX4_record : List Cond := .code yX4_record cX4_record 2 none :: ([.fieldLink RX4 48 "SquareGearsModel" "saves" "I", .fieldLink RX4 13 "SquareGearsModel" "saved" "[I", .fieldLink RX4 7 "SquareGearsModel" "z" "[I"] ++ wsX40)
def wsX4_undo : List Cond := .code yX4_undo cX4_undo 2 (some .int) :: ([.fieldLink RX4 48 "SquareGearsModel" "saves" "I", .fieldLink RX4 29 "SquareGearsModel" "thrown" "I", .fieldLink RX4 7 "SquareGearsModel" "z" "[I", .fieldLink RX4 13 "SquareGearsModel" "saved" "[I"] ++ wsX40)
def wsX4_keep : List Cond := .code yX4_keep cX4_keep 3 (some .int) :: ([.fieldLink RX4 29 "SquareGearsModel" "thrown" "I", .fieldLink RX4 16 "SquareGearsModel" "slots" "[I", .fieldLink RX4 7 "SquareGearsModel" "z" "[I", .fieldLink RX4 19 "SquareGearsModel" "isKept" "[Z", .methodLink RX4 33 yX4_in, .static yX4_in, .initialized RX4, .code yX4_in cX4_in 3 (some .boolean), .methodLink RX4 51 yX4_turning, .instanceMethod yX4_turning, .selects RX4 yX4_turning yX4_turning, .code yX4_turning cX4_turning 3 (some .int)] ++ wsX40)
def wsX4_goBack : List Cond := .code yX4_goBack cX4_goBack 3 (some .int) :: ([.fieldLink RX4 19 "SquareGearsModel" "isKept" "[Z", .fieldLink RX4 29 "SquareGearsModel" "thrown" "I", .fieldLink RX4 7 "SquareGearsModel" "z" "[I", .fieldLink RX4 16 "SquareGearsModel" "slots" "[I", .methodLink RX4 33 yX4_in, .static yX4_in, .initialized RX4, .code yX4_in cX4_in 3 (some .boolean), .methodLink RX4 55 yX4_record, .instanceMethod yX4_record, .selects RX4 yX4_record yX4_record, .code yX4_record cX4_record 2 none, .fieldLink RX4 48 "SquareGearsModel" "saves" "I", .fieldLink RX4 13 "SquareGearsModel" "saved" "[I", .methodLink RX4 51 yX4_turning, .instanceMethod yX4_turning, .selects RX4 yX4_turning yX4_turning, .code yX4_turning cX4_turning 3 (some .int)] ++ wsX40)
def wsX4_change : List Cond := .code yX4_change cX4_change 4 (some .int) :: ([.fieldLink RX4 7 "SquareGearsModel" "z" "[I", .methodLink RX4 55 yX4_record, .instanceMethod yX4_record, .selects RX4 yX4_record yX4_record, .initialized RX4, .code yX4_record cX4_record 2 none, .fieldLink RX4 48 "SquareGearsModel" "saves" "I", .fieldLink RX4 13 "SquareGearsModel" "saved" "[I"] ++ wsX40)
def wsX4_set : List Cond := .code yX4_set cX4_set 3 (some .int) :: ([.fieldLink RX4 29 "SquareGearsModel" "thrown" "I", .methodLink RX4 58 yX4_isOne, .static yX4_isOne, .initialized RX4, .code yX4_isOne cX4_isOne 1 (some .boolean), .methodLink RX4 33 yX4_in, .static yX4_in, .code yX4_in cX4_in 3 (some .boolean), .methodLink RX4 62 yX4_change, .instanceMethod yX4_change, .selects RX4 yX4_change yX4_change, .code yX4_change cX4_change 4 (some .int), .fieldLink RX4 7 "SquareGearsModel" "z" "[I", .methodLink RX4 55 yX4_record, .instanceMethod yX4_record, .selects RX4 yX4_record yX4_record, .code yX4_record cX4_record 2 none, .fieldLink RX4 48 "SquareGearsModel" "saves" "I", .fieldLink RX4 13 "SquareGearsModel" "saved" "[I"] ++ wsX40)
def wsX4_lose : List Cond := .code yX4_lose cX4_lose 2 (some .int) :: ([.fieldLink RX4 29 "SquareGearsModel" "thrown" "I", .fieldLink RX4 7 "SquareGearsModel" "z" "[I", .methodLink RX4 58 yX4_isOne, .static yX4_isOne, .initialized RX4, .code yX4_isOne cX4_isOne 1 (some .boolean), .methodLink RX4 33 yX4_in, .static yX4_in, .code yX4_in cX4_in 3 (some .boolean), .methodLink RX4 62 yX4_change, .instanceMethod yX4_change, .selects RX4 yX4_change yX4_change, .code yX4_change cX4_change 4 (some .int), .methodLink RX4 55 yX4_record, .instanceMethod yX4_record, .selects RX4 yX4_record yX4_record, .code yX4_record cX4_record 2 none, .fieldLink RX4 48 "SquareGearsModel" "saves" "I", .fieldLink RX4 13 "SquareGearsModel" "saved" "[I"] ++ wsX40)
def wsX4_turn : List Cond := .code yX4_turn cX4_turn 4 (some .int) :: ([.fieldLink RX4 29 "SquareGearsModel" "thrown" "I", .fieldLink RX4 7 "SquareGearsModel" "z" "[I", .methodLink RX4 58 yX4_isOne, .static yX4_isOne, .initialized RX4, .code yX4_isOne cX4_isOne 1 (some .boolean), .methodLink RX4 33 yX4_in, .static yX4_in, .code yX4_in cX4_in 3 (some .boolean), .methodLink RX4 55 yX4_record, .instanceMethod yX4_record, .selects RX4 yX4_record yX4_record, .code yX4_record cX4_record 2 none, .fieldLink RX4 48 "SquareGearsModel" "saves" "I", .fieldLink RX4 13 "SquareGearsModel" "saved" "[I", .methodLink RX4 41 yX4_wave, .static yX4_wave, .code yX4_wave cX4_wave 3 (some .int)] ++ wsX40)
def wsX4_drop : List Cond := .code yX4_drop cX4_drop 4 (some .int) :: ([.fieldLink RX4 29 "SquareGearsModel" "thrown" "I", .fieldLink RX4 7 "SquareGearsModel" "z" "[I", .methodLink RX4 33 yX4_in, .static yX4_in, .initialized RX4, .code yX4_in cX4_in 3 (some .boolean), .methodLink RX4 55 yX4_record, .instanceMethod yX4_record, .selects RX4 yX4_record yX4_record, .code yX4_record cX4_record 2 none, .fieldLink RX4 48 "SquareGearsModel" "saves" "I", .fieldLink RX4 13 "SquareGearsModel" "saved" "[I", .methodLink RX4 51 yX4_turning, .instanceMethod yX4_turning, .selects RX4 yX4_turning yX4_turning, .code yX4_turning cX4_turning 3 (some .int), .methodLink RX4 65 yX4_amount, .static yX4_amount, .code yX4_amount cX4_amount 1 (some .int)] ++ wsX40)
def wsX4_point : List Cond := .code yX4_point cX4_point 3 (some .int) :: ([.fieldLink RX4 29 "SquareGearsModel" "thrown" "I", .methodLink RX4 58 yX4_isOne, .static yX4_isOne, .initialized RX4, .code yX4_isOne cX4_isOne 1 (some .boolean), .methodLink RX4 33 yX4_in, .static yX4_in, .code yX4_in cX4_in 3 (some .boolean), .methodLink RX4 62 yX4_change, .instanceMethod yX4_change, .selects RX4 yX4_change yX4_change, .code yX4_change cX4_change 4 (some .int), .fieldLink RX4 7 "SquareGearsModel" "z" "[I", .methodLink RX4 55 yX4_record, .instanceMethod yX4_record, .selects RX4 yX4_record yX4_record, .code yX4_record cX4_record 2 none, .fieldLink RX4 48 "SquareGearsModel" "saves" "I", .fieldLink RX4 13 "SquareGearsModel" "saved" "[I"] ++ wsX40)
def wsX4_copy : List Cond := .code yX4_copy cX4_copy 3 (some .int) :: ([.fieldLink RX4 29 "SquareGearsModel" "thrown" "I", .fieldLink RX4 7 "SquareGearsModel" "z" "[I", .methodLink RX4 55 yX4_record, .instanceMethod yX4_record, .selects RX4 yX4_record yX4_record, .initialized RX4, .code yX4_record cX4_record 2 none, .fieldLink RX4 48 "SquareGearsModel" "saves" "I", .fieldLink RX4 13 "SquareGearsModel" "saved" "[I", .methodLink RX4 68 yX4_difference, .instanceMethod yX4_difference, .selects RX4 yX4_difference yX4_difference, .code yX4_difference cX4_difference 2 (some .int), .methodLink RX4 45 yX4_traceAt, .instanceMethod yX4_traceAt, .selects RX4 yX4_traceAt yX4_traceAt, .code yX4_traceAt cX4_traceAt 4 (some .int), .methodLink RX4 37 yX4_used, .instanceMethod yX4_used, .selects RX4 yX4_used yX4_used, .code yX4_used cX4_used 2 (some .int), .methodLink RX4 41 yX4_wave, .static yX4_wave, .code yX4_wave cX4_wave 3 (some .int)] ++ wsX40)
def wsX4_fit : List Cond := .code yX4_fit cX4_fit 4 (some .int) :: ([.fieldLink RX4 29 "SquareGearsModel" "thrown" "I", .fieldLink RX4 7 "SquareGearsModel" "z" "[I", .methodLink RX4 55 yX4_record, .instanceMethod yX4_record, .selects RX4 yX4_record yX4_record, .initialized RX4, .code yX4_record cX4_record 2 none, .fieldLink RX4 48 "SquareGearsModel" "saves" "I", .fieldLink RX4 13 "SquareGearsModel" "saved" "[I", .methodLink RX4 71 yX4_ofPattern, .instanceMethod yX4_ofPattern, .selects RX4 yX4_ofPattern yX4_ofPattern, .code yX4_ofPattern cX4_ofPattern 4 (some .int), .methodLink RX4 41 yX4_wave, .static yX4_wave, .code yX4_wave cX4_wave 3 (some .int)] ++ wsX40)
def wsX4_append : List Cond := .code yX4_append cX4_append 2 (some .int) :: ([.fieldLink RX4 74 "SquareGearsModel" "length" "I", .fieldLink RX4 29 "SquareGearsModel" "thrown" "I", .fieldLink RX4 23 "SquareGearsModel" "text" "[I", .methodLink RX4 33 yX4_in, .static yX4_in, .initialized RX4, .code yX4_in cX4_in 3 (some .boolean)] ++ wsX40)
def wsX4_clearBuffer : List Cond := .code yX4_clearBuffer cX4_clearBuffer 2 (some .int) :: ([.fieldLink RX4 29 "SquareGearsModel" "thrown" "I", .fieldLink RX4 74 "SquareGearsModel" "length" "I"] ++ wsX40)
def wsX4_at : List Cond := .code yX4_at cX4_at 2 (some .int) :: ([.fieldLink RX4 74 "SquareGearsModel" "length" "I", .fieldLink RX4 23 "SquareGearsModel" "text" "[I"] ++ wsX40)
def wsX4_readPart : List Cond := .code yX4_readPart cX4_readPart 4 (some .int) :: ([.fieldLink RX4 80 "SquareGearsModel" "wheel" "I", .fieldLink RX4 83 "SquareGearsModel" "isLoss" "Z", .fieldLink RX4 87 "SquareGearsModel" "amplitude" "I", .methodLink RX4 77 yX4_at, .instanceMethod yX4_at, .selects RX4 yX4_at yX4_at, .initialized RX4, .code yX4_at cX4_at 2 (some .int), .fieldLink RX4 74 "SquareGearsModel" "length" "I", .fieldLink RX4 23 "SquareGearsModel" "text" "[I", .methodLink RX4 58 yX4_isOne, .static yX4_isOne, .code yX4_isOne cX4_isOne 1 (some .boolean), .methodLink RX4 33 yX4_in, .static yX4_in, .code yX4_in cX4_in 3 (some .boolean)] ++ wsX40)
def wsX4_findError : List Cond := .code yX4_findError cX4_findError 2 (some .int) :: ([.fieldLink RX4 74 "SquareGearsModel" "length" "I", .fieldLink RX4 23 "SquareGearsModel" "text" "[I", .methodLink RX4 90 yX4_readPart, .instanceMethod yX4_readPart, .selects RX4 yX4_readPart yX4_readPart, .initialized RX4, .code yX4_readPart cX4_readPart 4 (some .int), .fieldLink RX4 80 "SquareGearsModel" "wheel" "I", .fieldLink RX4 83 "SquareGearsModel" "isLoss" "Z", .fieldLink RX4 87 "SquareGearsModel" "amplitude" "I", .methodLink RX4 77 yX4_at, .instanceMethod yX4_at, .selects RX4 yX4_at yX4_at, .code yX4_at cX4_at 2 (some .int), .methodLink RX4 58 yX4_isOne, .static yX4_isOne, .code yX4_isOne cX4_isOne 1 (some .boolean), .methodLink RX4 33 yX4_in, .static yX4_in, .code yX4_in cX4_in 3 (some .boolean)] ++ wsX40)
def wsX4_firstError_r1 : List Cond := [Cond.fieldLink RX4 29 "SquareGearsModel" "thrown" "I", Cond.fieldLink RX4 74 "SquareGearsModel" "length" "I", Cond.methodLink RX4 93 yX4_findError, Cond.instanceMethod yX4_findError, Cond.selects RX4 yX4_findError yX4_findError, Cond.initialized RX4, Cond.code yX4_findError cX4_findError 2 (some .int), Cond.fieldLink RX4 23 "SquareGearsModel" "text" "[I", Cond.methodLink RX4 90 yX4_readPart, Cond.instanceMethod yX4_readPart, Cond.selects RX4 yX4_readPart yX4_readPart, Cond.code yX4_readPart cX4_readPart 4 (some .int), Cond.fieldLink RX4 80 "SquareGearsModel" "wheel" "I", Cond.fieldLink RX4 83 "SquareGearsModel" "isLoss" "Z", Cond.fieldLink RX4 87 "SquareGearsModel" "amplitude" "I", Cond.methodLink RX4 77 yX4_at, Cond.instanceMethod yX4_at, Cond.selects RX4 yX4_at yX4_at, Cond.code yX4_at cX4_at 2 (some .int), Cond.methodLink RX4 58 yX4_isOne, Cond.static yX4_isOne, Cond.code yX4_isOne cX4_isOne 1 (some .boolean), Cond.methodLink RX4 33 yX4_in, Cond.static yX4_in]
def wsX4_firstError_r2 : List Cond := [Cond.code yX4_in cX4_in 3 (some .boolean)]
def wsX4_firstError : List Cond := .code yX4_firstError cX4_firstError 2 (some .int) :: ((wsX4_firstError_r1 ++ wsX4_firstError_r2) ++ wsX40)
def wsX4_load_r1 : List Cond := [Cond.fieldLink RX4 29 "SquareGearsModel" "thrown" "I", Cond.fieldLink RX4 7 "SquareGearsModel" "z" "[I", Cond.fieldLink RX4 74 "SquareGearsModel" "length" "I", Cond.fieldLink RX4 83 "SquareGearsModel" "isLoss" "Z", Cond.fieldLink RX4 80 "SquareGearsModel" "wheel" "I", Cond.fieldLink RX4 87 "SquareGearsModel" "amplitude" "I", Cond.methodLink RX4 93 yX4_findError, Cond.instanceMethod yX4_findError, Cond.selects RX4 yX4_findError yX4_findError, Cond.initialized RX4, Cond.code yX4_findError cX4_findError 2 (some .int), Cond.fieldLink RX4 23 "SquareGearsModel" "text" "[I", Cond.methodLink RX4 90 yX4_readPart, Cond.instanceMethod yX4_readPart, Cond.selects RX4 yX4_readPart yX4_readPart, Cond.code yX4_readPart cX4_readPart 4 (some .int), Cond.methodLink RX4 77 yX4_at, Cond.instanceMethod yX4_at, Cond.selects RX4 yX4_at yX4_at, Cond.code yX4_at cX4_at 2 (some .int), Cond.methodLink RX4 58 yX4_isOne, Cond.static yX4_isOne, Cond.code yX4_isOne cX4_isOne 1 (some .boolean), Cond.methodLink RX4 33 yX4_in]
def wsX4_load_r2 : List Cond := [Cond.static yX4_in, Cond.code yX4_in cX4_in 3 (some .boolean), Cond.methodLink RX4 55 yX4_record, Cond.instanceMethod yX4_record, Cond.selects RX4 yX4_record yX4_record, Cond.code yX4_record cX4_record 2 none, Cond.fieldLink RX4 48 "SquareGearsModel" "saves" "I", Cond.fieldLink RX4 13 "SquareGearsModel" "saved" "[I", Cond.methodLink RX4 51 yX4_turning, Cond.instanceMethod yX4_turning, Cond.selects RX4 yX4_turning yX4_turning, Cond.code yX4_turning cX4_turning 3 (some .int)]
def wsX4_load : List Cond := .code yX4_load cX4_load 2 (some .int) :: ((wsX4_load_r1 ++ wsX4_load_r2) ++ wsX40)
def wsX4_changes : List Cond := .code yX4_changes cX4_changes 3 (some .int) :: ([.methodLink RX4 41 yX4_wave, .static yX4_wave, .initialized RX4, .code yX4_wave cX4_wave 3 (some .int)])
def wsX4_wheelNow : List Cond := .code yX4_wheelNow cX4_wheelNow 3 (some .int) :: ([.fieldLink RX4 7 "SquareGearsModel" "z" "[I", .methodLink RX4 71 yX4_ofPattern, .instanceMethod yX4_ofPattern, .selects RX4 yX4_ofPattern yX4_ofPattern, .initialized RX4, .code yX4_ofPattern cX4_ofPattern 4 (some .int), .methodLink RX4 41 yX4_wave, .static yX4_wave, .code yX4_wave cX4_wave 3 (some .int), .methodLink RX4 96 yX4_changes, .static yX4_changes, .code yX4_changes cX4_changes 3 (some .int)] ++ wsX40)
def wsX4_wheelOf : List Cond := .code yX4_wheelOf cX4_wheelOf 3 (some .int) :: ([.fieldLink RX4 29 "SquareGearsModel" "thrown" "I", .methodLink RX4 58 yX4_isOne, .static yX4_isOne, .initialized RX4, .code yX4_isOne cX4_isOne 1 (some .boolean), .methodLink RX4 33 yX4_in, .static yX4_in, .code yX4_in cX4_in 3 (some .boolean), .methodLink RX4 99 yX4_wheelNow, .instanceMethod yX4_wheelNow, .selects RX4 yX4_wheelNow yX4_wheelNow, .code yX4_wheelNow cX4_wheelNow 3 (some .int), .fieldLink RX4 7 "SquareGearsModel" "z" "[I", .methodLink RX4 71 yX4_ofPattern, .instanceMethod yX4_ofPattern, .selects RX4 yX4_ofPattern yX4_ofPattern, .code yX4_ofPattern cX4_ofPattern 4 (some .int), .methodLink RX4 41 yX4_wave, .static yX4_wave, .code yX4_wave cX4_wave 3 (some .int), .methodLink RX4 96 yX4_changes, .static yX4_changes, .code yX4_changes cX4_changes 3 (some .int)] ++ wsX40)
def wsX4_trace : List Cond := .code yX4_trace cX4_trace 3 (some .int) :: ([.fieldLink RX4 29 "SquareGearsModel" "thrown" "I", .methodLink RX4 58 yX4_isOne, .static yX4_isOne, .initialized RX4, .code yX4_isOne cX4_isOne 1 (some .boolean), .methodLink RX4 33 yX4_in, .static yX4_in, .code yX4_in cX4_in 3 (some .boolean), .methodLink RX4 45 yX4_traceAt, .instanceMethod yX4_traceAt, .selects RX4 yX4_traceAt yX4_traceAt, .code yX4_traceAt cX4_traceAt 4 (some .int), .methodLink RX4 37 yX4_used, .instanceMethod yX4_used, .selects RX4 yX4_used yX4_used, .code yX4_used cX4_used 2 (some .int), .fieldLink RX4 7 "SquareGearsModel" "z" "[I", .methodLink RX4 41 yX4_wave, .static yX4_wave, .code yX4_wave cX4_wave 3 (some .int)] ++ wsX40)
def wsX4_pointNow : List Cond := .code yX4_pointNow cX4_pointNow 3 (some .int) :: ([.fieldLink RX4 7 "SquareGearsModel" "z" "[I", .methodLink RX4 68 yX4_difference, .instanceMethod yX4_difference, .selects RX4 yX4_difference yX4_difference, .initialized RX4, .code yX4_difference cX4_difference 2 (some .int), .methodLink RX4 45 yX4_traceAt, .instanceMethod yX4_traceAt, .selects RX4 yX4_traceAt yX4_traceAt, .code yX4_traceAt cX4_traceAt 4 (some .int), .methodLink RX4 37 yX4_used, .instanceMethod yX4_used, .selects RX4 yX4_used yX4_used, .code yX4_used cX4_used 2 (some .int), .methodLink RX4 41 yX4_wave, .static yX4_wave, .code yX4_wave cX4_wave 3 (some .int), .methodLink RX4 102 yX4_jump, .instanceMethod yX4_jump, .selects RX4 yX4_jump yX4_jump, .code yX4_jump cX4_jump 2 (some .int)] ++ wsX40)
def wsX4_pointOf_r1 : List Cond := [Cond.fieldLink RX4 29 "SquareGearsModel" "thrown" "I", Cond.methodLink RX4 58 yX4_isOne, Cond.static yX4_isOne, Cond.initialized RX4, Cond.code yX4_isOne cX4_isOne 1 (some .boolean), Cond.methodLink RX4 33 yX4_in, Cond.static yX4_in, Cond.code yX4_in cX4_in 3 (some .boolean), Cond.methodLink RX4 105 yX4_pointNow, Cond.instanceMethod yX4_pointNow, Cond.selects RX4 yX4_pointNow yX4_pointNow, Cond.code yX4_pointNow cX4_pointNow 3 (some .int), Cond.fieldLink RX4 7 "SquareGearsModel" "z" "[I", Cond.methodLink RX4 68 yX4_difference, Cond.instanceMethod yX4_difference, Cond.selects RX4 yX4_difference yX4_difference, Cond.code yX4_difference cX4_difference 2 (some .int), Cond.methodLink RX4 45 yX4_traceAt, Cond.instanceMethod yX4_traceAt, Cond.selects RX4 yX4_traceAt yX4_traceAt, Cond.code yX4_traceAt cX4_traceAt 4 (some .int), Cond.methodLink RX4 37 yX4_used, Cond.instanceMethod yX4_used, Cond.selects RX4 yX4_used yX4_used]
def wsX4_pointOf_r2 : List Cond := [Cond.code yX4_used cX4_used 2 (some .int), Cond.methodLink RX4 41 yX4_wave, Cond.static yX4_wave, Cond.code yX4_wave cX4_wave 3 (some .int), Cond.methodLink RX4 102 yX4_jump, Cond.instanceMethod yX4_jump, Cond.selects RX4 yX4_jump yX4_jump, Cond.code yX4_jump cX4_jump 2 (some .int)]
def wsX4_pointOf : List Cond := .code yX4_pointOf cX4_pointOf 3 (some .int) :: ((wsX4_pointOf_r1 ++ wsX4_pointOf_r2) ++ wsX40)
def wsX4_lost : List Cond := .code yX4_lost cX4_lost 3 (some .int) :: ([.fieldLink RX4 7 "SquareGearsModel" "z" "[I"] ++ wsX40)
def wsX4_greatestTrace : List Cond := .code yX4_greatestTrace cX4_greatestTrace 3 (some .int) :: ([.methodLink RX4 45 yX4_traceAt, .instanceMethod yX4_traceAt, .selects RX4 yX4_traceAt yX4_traceAt, .initialized RX4, .code yX4_traceAt cX4_traceAt 4 (some .int), .methodLink RX4 37 yX4_used, .instanceMethod yX4_used, .selects RX4 yX4_used yX4_used, .code yX4_used cX4_used 2 (some .int), .fieldLink RX4 7 "SquareGearsModel" "z" "[I", .methodLink RX4 41 yX4_wave, .static yX4_wave, .code yX4_wave cX4_wave 3 (some .int)] ++ wsX40)
def wsX4_leastTrace : List Cond := .code yX4_leastTrace cX4_leastTrace 3 (some .int) :: ([.methodLink RX4 45 yX4_traceAt, .instanceMethod yX4_traceAt, .selects RX4 yX4_traceAt yX4_traceAt, .initialized RX4, .code yX4_traceAt cX4_traceAt 4 (some .int), .methodLink RX4 37 yX4_used, .instanceMethod yX4_used, .selects RX4 yX4_used yX4_used, .code yX4_used cX4_used 2 (some .int), .fieldLink RX4 7 "SquareGearsModel" "z" "[I", .methodLink RX4 41 yX4_wave, .static yX4_wave, .code yX4_wave cX4_wave 3 (some .int)] ++ wsX40)
def wsX4_greatest_r1 : List Cond := [Cond.methodLink RX4 105 yX4_pointNow, Cond.instanceMethod yX4_pointNow, Cond.selects RX4 yX4_pointNow yX4_pointNow, Cond.initialized RX4, Cond.code yX4_pointNow cX4_pointNow 3 (some .int), Cond.fieldLink RX4 7 "SquareGearsModel" "z" "[I", Cond.methodLink RX4 68 yX4_difference, Cond.instanceMethod yX4_difference, Cond.selects RX4 yX4_difference yX4_difference, Cond.code yX4_difference cX4_difference 2 (some .int), Cond.methodLink RX4 45 yX4_traceAt, Cond.instanceMethod yX4_traceAt, Cond.selects RX4 yX4_traceAt yX4_traceAt, Cond.code yX4_traceAt cX4_traceAt 4 (some .int), Cond.methodLink RX4 37 yX4_used, Cond.instanceMethod yX4_used, Cond.selects RX4 yX4_used yX4_used, Cond.code yX4_used cX4_used 2 (some .int), Cond.methodLink RX4 41 yX4_wave, Cond.static yX4_wave, Cond.code yX4_wave cX4_wave 3 (some .int), Cond.methodLink RX4 102 yX4_jump, Cond.instanceMethod yX4_jump, Cond.selects RX4 yX4_jump yX4_jump]
def wsX4_greatest_r2 : List Cond := [Cond.code yX4_jump cX4_jump 2 (some .int), Cond.methodLink RX4 65 yX4_amount, Cond.static yX4_amount, Cond.code yX4_amount cX4_amount 1 (some .int)]
def wsX4_greatest : List Cond := .code yX4_greatest cX4_greatest 5 (some .int) :: ((wsX4_greatest_r1 ++ wsX4_greatest_r2) ++ wsX40)
def wsX4_overshoot : List Cond := .code yX4_overshoot cX4_overshoot 3 (some .int) :: ([.methodLink RX4 108 yX4_greatestTrace, .instanceMethod yX4_greatestTrace, .selects RX4 yX4_greatestTrace yX4_greatestTrace, .initialized RX4, .code yX4_greatestTrace cX4_greatestTrace 3 (some .int), .methodLink RX4 45 yX4_traceAt, .instanceMethod yX4_traceAt, .selects RX4 yX4_traceAt yX4_traceAt, .code yX4_traceAt cX4_traceAt 4 (some .int), .methodLink RX4 37 yX4_used, .instanceMethod yX4_used, .selects RX4 yX4_used yX4_used, .code yX4_used cX4_used 2 (some .int), .fieldLink RX4 7 "SquareGearsModel" "z" "[I", .methodLink RX4 41 yX4_wave, .static yX4_wave, .code yX4_wave cX4_wave 3 (some .int), .methodLink RX4 65 yX4_amount, .static yX4_amount, .code yX4_amount cX4_amount 1 (some .int), .methodLink RX4 111 yX4_leastTrace, .instanceMethod yX4_leastTrace, .selects RX4 yX4_leastTrace yX4_leastTrace, .code yX4_leastTrace cX4_leastTrace 3 (some .int)] ++ wsX40)
def wsX4_countNow_r1 : List Cond := [Cond.fieldLink RX4 7 "SquareGearsModel" "z" "[I", Cond.fieldLink RX4 48 "SquareGearsModel" "saves" "I", Cond.methodLink RX4 51 yX4_turning, Cond.instanceMethod yX4_turning, Cond.selects RX4 yX4_turning yX4_turning, Cond.initialized RX4, Cond.code yX4_turning cX4_turning 3 (some .int), Cond.methodLink RX4 114 yX4_lost, Cond.instanceMethod yX4_lost, Cond.selects RX4 yX4_lost yX4_lost, Cond.code yX4_lost cX4_lost 3 (some .int), Cond.methodLink RX4 108 yX4_greatestTrace, Cond.instanceMethod yX4_greatestTrace, Cond.selects RX4 yX4_greatestTrace yX4_greatestTrace, Cond.code yX4_greatestTrace cX4_greatestTrace 3 (some .int), Cond.methodLink RX4 45 yX4_traceAt, Cond.instanceMethod yX4_traceAt, Cond.selects RX4 yX4_traceAt yX4_traceAt, Cond.code yX4_traceAt cX4_traceAt 4 (some .int), Cond.methodLink RX4 37 yX4_used, Cond.instanceMethod yX4_used, Cond.selects RX4 yX4_used yX4_used, Cond.code yX4_used cX4_used 2 (some .int), Cond.methodLink RX4 41 yX4_wave]
def wsX4_countNow_r2 : List Cond := [Cond.static yX4_wave, Cond.code yX4_wave cX4_wave 3 (some .int), Cond.methodLink RX4 111 yX4_leastTrace, Cond.instanceMethod yX4_leastTrace, Cond.selects RX4 yX4_leastTrace yX4_leastTrace, Cond.code yX4_leastTrace cX4_leastTrace 3 (some .int), Cond.methodLink RX4 117 yX4_greatest, Cond.instanceMethod yX4_greatest, Cond.selects RX4 yX4_greatest yX4_greatest, Cond.code yX4_greatest cX4_greatest 5 (some .int), Cond.methodLink RX4 105 yX4_pointNow, Cond.instanceMethod yX4_pointNow, Cond.selects RX4 yX4_pointNow yX4_pointNow, Cond.code yX4_pointNow cX4_pointNow 3 (some .int), Cond.methodLink RX4 68 yX4_difference, Cond.instanceMethod yX4_difference, Cond.selects RX4 yX4_difference yX4_difference, Cond.code yX4_difference cX4_difference 2 (some .int), Cond.methodLink RX4 102 yX4_jump, Cond.instanceMethod yX4_jump, Cond.selects RX4 yX4_jump yX4_jump, Cond.code yX4_jump cX4_jump 2 (some .int), Cond.methodLink RX4 65 yX4_amount, Cond.static yX4_amount]
def wsX4_countNow_r3 : List Cond := [Cond.code yX4_amount cX4_amount 1 (some .int), Cond.methodLink RX4 120 yX4_overshoot, Cond.instanceMethod yX4_overshoot, Cond.selects RX4 yX4_overshoot yX4_overshoot, Cond.code yX4_overshoot cX4_overshoot 3 (some .int)]
def wsX4_countNow : List Cond := .code yX4_countNow cX4_countNow 2 (some .int) :: ((wsX4_countNow_r1 ++ (wsX4_countNow_r2 ++ wsX4_countNow_r3)) ++ wsX40)
def wsX4_count_r1 : List Cond := [Cond.fieldLink RX4 29 "SquareGearsModel" "thrown" "I", Cond.methodLink RX4 33 yX4_in, Cond.static yX4_in, Cond.initialized RX4, Cond.code yX4_in cX4_in 3 (some .boolean), Cond.methodLink RX4 123 yX4_countNow, Cond.instanceMethod yX4_countNow, Cond.selects RX4 yX4_countNow yX4_countNow, Cond.code yX4_countNow cX4_countNow 2 (some .int), Cond.fieldLink RX4 7 "SquareGearsModel" "z" "[I", Cond.fieldLink RX4 48 "SquareGearsModel" "saves" "I", Cond.methodLink RX4 51 yX4_turning, Cond.instanceMethod yX4_turning, Cond.selects RX4 yX4_turning yX4_turning, Cond.code yX4_turning cX4_turning 3 (some .int), Cond.methodLink RX4 114 yX4_lost, Cond.instanceMethod yX4_lost, Cond.selects RX4 yX4_lost yX4_lost, Cond.code yX4_lost cX4_lost 3 (some .int), Cond.methodLink RX4 108 yX4_greatestTrace, Cond.instanceMethod yX4_greatestTrace, Cond.selects RX4 yX4_greatestTrace yX4_greatestTrace, Cond.code yX4_greatestTrace cX4_greatestTrace 3 (some .int), Cond.methodLink RX4 45 yX4_traceAt]
def wsX4_count_r2 : List Cond := [Cond.instanceMethod yX4_traceAt, Cond.selects RX4 yX4_traceAt yX4_traceAt, Cond.code yX4_traceAt cX4_traceAt 4 (some .int), Cond.methodLink RX4 37 yX4_used, Cond.instanceMethod yX4_used, Cond.selects RX4 yX4_used yX4_used, Cond.code yX4_used cX4_used 2 (some .int), Cond.methodLink RX4 41 yX4_wave, Cond.static yX4_wave, Cond.code yX4_wave cX4_wave 3 (some .int), Cond.methodLink RX4 111 yX4_leastTrace, Cond.instanceMethod yX4_leastTrace, Cond.selects RX4 yX4_leastTrace yX4_leastTrace, Cond.code yX4_leastTrace cX4_leastTrace 3 (some .int), Cond.methodLink RX4 117 yX4_greatest, Cond.instanceMethod yX4_greatest, Cond.selects RX4 yX4_greatest yX4_greatest, Cond.code yX4_greatest cX4_greatest 5 (some .int), Cond.methodLink RX4 105 yX4_pointNow, Cond.instanceMethod yX4_pointNow, Cond.selects RX4 yX4_pointNow yX4_pointNow, Cond.code yX4_pointNow cX4_pointNow 3 (some .int), Cond.methodLink RX4 68 yX4_difference, Cond.instanceMethod yX4_difference]
def wsX4_count_r3 : List Cond := [Cond.selects RX4 yX4_difference yX4_difference, Cond.code yX4_difference cX4_difference 2 (some .int), Cond.methodLink RX4 102 yX4_jump, Cond.instanceMethod yX4_jump, Cond.selects RX4 yX4_jump yX4_jump, Cond.code yX4_jump cX4_jump 2 (some .int), Cond.methodLink RX4 65 yX4_amount, Cond.static yX4_amount, Cond.code yX4_amount cX4_amount 1 (some .int), Cond.methodLink RX4 120 yX4_overshoot, Cond.instanceMethod yX4_overshoot, Cond.selects RX4 yX4_overshoot yX4_overshoot, Cond.code yX4_overshoot cX4_overshoot 3 (some .int)]
def wsX4_count : List Cond := .code yX4_count cX4_count 2 (some .int) :: ((wsX4_count_r1 ++ (wsX4_count_r2 ++ wsX4_count_r3)) ++ wsX40)
def wsX4_explaining : List Cond := .code yX4_explaining cX4_explaining 5 (some .int) :: ([.methodLink RX4 68 yX4_difference, .instanceMethod yX4_difference, .selects RX4 yX4_difference yX4_difference, .initialized RX4, .code yX4_difference cX4_difference 2 (some .int), .fieldLink RX4 7 "SquareGearsModel" "z" "[I", .methodLink RX4 45 yX4_traceAt, .instanceMethod yX4_traceAt, .selects RX4 yX4_traceAt yX4_traceAt, .code yX4_traceAt cX4_traceAt 4 (some .int), .methodLink RX4 37 yX4_used, .instanceMethod yX4_used, .selects RX4 yX4_used yX4_used, .code yX4_used cX4_used 2 (some .int), .methodLink RX4 41 yX4_wave, .static yX4_wave, .code yX4_wave cX4_wave 3 (some .int)] ++ wsX40)
def wsX4_findLost : List Cond := .code yX4_findLost cX4_findLost 1 (some .int) :: ([.fieldLink RX4 29 "SquareGearsModel" "thrown" "I", .methodLink RX4 126 yX4_explaining, .instanceMethod yX4_explaining, .selects RX4 yX4_explaining yX4_explaining, .initialized RX4, .code yX4_explaining cX4_explaining 5 (some .int), .methodLink RX4 68 yX4_difference, .instanceMethod yX4_difference, .selects RX4 yX4_difference yX4_difference, .code yX4_difference cX4_difference 2 (some .int), .fieldLink RX4 7 "SquareGearsModel" "z" "[I", .methodLink RX4 45 yX4_traceAt, .instanceMethod yX4_traceAt, .selects RX4 yX4_traceAt yX4_traceAt, .code yX4_traceAt cX4_traceAt 4 (some .int), .methodLink RX4 37 yX4_used, .instanceMethod yX4_used, .selects RX4 yX4_used yX4_used, .code yX4_used cX4_used 2 (some .int), .methodLink RX4 41 yX4_wave, .static yX4_wave, .code yX4_wave cX4_wave 3 (some .int)] ++ wsX40)
def wsX4_fewest : List Cond := .code yX4_fewest cX4_fewest 7 (some .int) :: ([.fieldLink RX4 26 "SquareGearsModel" "isOut" "[Z", .fieldLink RX4 7 "SquareGearsModel" "z" "[I", .methodLink RX4 37 yX4_used, .instanceMethod yX4_used, .selects RX4 yX4_used yX4_used, .initialized RX4, .code yX4_used cX4_used 2 (some .int), .methodLink RX4 65 yX4_amount, .static yX4_amount, .code yX4_amount cX4_amount 1 (some .int)] ++ wsX40)
def wsX4_enough : List Cond := .code yX4_enough cX4_enough 3 (some .int) :: ([.constant RX4 129 (9999999), .fieldLink RX4 29 "SquareGearsModel" "thrown" "I", .methodLink RX4 33 yX4_in, .static yX4_in, .initialized RX4, .code yX4_in cX4_in 3 (some .boolean), .methodLink RX4 130 yX4_fewest, .instanceMethod yX4_fewest, .selects RX4 yX4_fewest yX4_fewest, .code yX4_fewest cX4_fewest 7 (some .int), .fieldLink RX4 26 "SquareGearsModel" "isOut" "[Z", .fieldLink RX4 7 "SquareGearsModel" "z" "[I", .methodLink RX4 37 yX4_used, .instanceMethod yX4_used, .selects RX4 yX4_used yX4_used, .code yX4_used cX4_used 2 (some .int), .methodLink RX4 65 yX4_amount, .static yX4_amount, .code yX4_amount cX4_amount 1 (some .int)] ++ wsX40)
def wsX4_ifTurned : List Cond := .code yX4_ifTurned cX4_ifTurned 3 (some .int) :: ([.fieldLink RX4 29 "SquareGearsModel" "thrown" "I", .methodLink RX4 58 yX4_isOne, .static yX4_isOne, .initialized RX4, .code yX4_isOne cX4_isOne 1 (some .boolean), .methodLink RX4 33 yX4_in, .static yX4_in, .code yX4_in cX4_in 3 (some .boolean), .methodLink RX4 45 yX4_traceAt, .instanceMethod yX4_traceAt, .selects RX4 yX4_traceAt yX4_traceAt, .code yX4_traceAt cX4_traceAt 4 (some .int), .methodLink RX4 37 yX4_used, .instanceMethod yX4_used, .selects RX4 yX4_used yX4_used, .code yX4_used cX4_used 2 (some .int), .fieldLink RX4 7 "SquareGearsModel" "z" "[I", .methodLink RX4 41 yX4_wave, .static yX4_wave, .code yX4_wave cX4_wave 3 (some .int)] ++ wsX40)
def wsX4_far : List Cond := .code yX4_far cX4_far 4 (some .int) :: ([.fieldLink RX4 7 "SquareGearsModel" "z" "[I", .methodLink RX4 45 yX4_traceAt, .instanceMethod yX4_traceAt, .selects RX4 yX4_traceAt yX4_traceAt, .initialized RX4, .code yX4_traceAt cX4_traceAt 4 (some .int), .methodLink RX4 37 yX4_used, .instanceMethod yX4_used, .selects RX4 yX4_used yX4_used, .code yX4_used cX4_used 2 (some .int), .methodLink RX4 41 yX4_wave, .static yX4_wave, .code yX4_wave cX4_wave 3 (some .int), .methodLink RX4 65 yX4_amount, .static yX4_amount, .code yX4_amount cX4_amount 1 (some .int)] ++ wsX40)
def wsX4_nearestTurn : List Cond := .code yX4_nearestTurn cX4_nearestTurn 3 (some .int) :: ([.methodLink RX4 133 yX4_far, .instanceMethod yX4_far, .selects RX4 yX4_far yX4_far, .initialized RX4, .code yX4_far cX4_far 4 (some .int), .fieldLink RX4 7 "SquareGearsModel" "z" "[I", .methodLink RX4 45 yX4_traceAt, .instanceMethod yX4_traceAt, .selects RX4 yX4_traceAt yX4_traceAt, .code yX4_traceAt cX4_traceAt 4 (some .int), .methodLink RX4 37 yX4_used, .instanceMethod yX4_used, .selects RX4 yX4_used yX4_used, .code yX4_used cX4_used 2 (some .int), .methodLink RX4 41 yX4_wave, .static yX4_wave, .code yX4_wave cX4_wave 3 (some .int), .methodLink RX4 65 yX4_amount, .static yX4_amount, .code yX4_amount cX4_amount 1 (some .int)] ++ wsX40)
def wsX4_bestTurn_r1 : List Cond := [Cond.fieldLink RX4 29 "SquareGearsModel" "thrown" "I", Cond.methodLink RX4 136 yX4_nearestTurn, Cond.instanceMethod yX4_nearestTurn, Cond.selects RX4 yX4_nearestTurn yX4_nearestTurn, Cond.initialized RX4, Cond.code yX4_nearestTurn cX4_nearestTurn 3 (some .int), Cond.methodLink RX4 133 yX4_far, Cond.instanceMethod yX4_far, Cond.selects RX4 yX4_far yX4_far, Cond.code yX4_far cX4_far 4 (some .int), Cond.fieldLink RX4 7 "SquareGearsModel" "z" "[I", Cond.methodLink RX4 45 yX4_traceAt, Cond.instanceMethod yX4_traceAt, Cond.selects RX4 yX4_traceAt yX4_traceAt, Cond.code yX4_traceAt cX4_traceAt 4 (some .int), Cond.methodLink RX4 37 yX4_used, Cond.instanceMethod yX4_used, Cond.selects RX4 yX4_used yX4_used, Cond.code yX4_used cX4_used 2 (some .int), Cond.methodLink RX4 41 yX4_wave, Cond.static yX4_wave, Cond.code yX4_wave cX4_wave 3 (some .int), Cond.methodLink RX4 65 yX4_amount, Cond.static yX4_amount]
def wsX4_bestTurn_r2 : List Cond := [Cond.code yX4_amount cX4_amount 1 (some .int)]
def wsX4_bestTurn : List Cond := .code yX4_bestTurn cX4_bestTurn 1 (some .int) :: ((wsX4_bestTurn_r1 ++ wsX4_bestTurn_r2) ++ wsX40)
def wsX4_share : List Cond := .code yX4_share cX4_share 5 (some .double) :: ([.methodLink RX4 37 yX4_used, .instanceMethod yX4_used, .selects RX4 yX4_used yX4_used, .initialized RX4, .code yX4_used cX4_used 2 (some .int), .fieldLink RX4 7 "SquareGearsModel" "z" "[I"] ++ wsX40)
def wsX4_mainShare : List Cond := .code yX4_mainShare cX4_mainShare 1 (some .double) :: ([.fieldLink RX4 29 "SquareGearsModel" "thrown" "I", .methodLink RX4 139 yX4_share, .instanceMethod yX4_share, .selects RX4 yX4_share yX4_share, .initialized RX4, .code yX4_share cX4_share 5 (some .double), .methodLink RX4 37 yX4_used, .instanceMethod yX4_used, .selects RX4 yX4_used yX4_used, .code yX4_used cX4_used 2 (some .int), .fieldLink RX4 7 "SquareGearsModel" "z" "[I"] ++ wsX40)
def wsJxe99ae_isNaN_b9ae7 : List Cond := .code yJxe99ae_isNaN_b9ae7 cJxe99ae_isNaN_b9ae7 2 (some .boolean) :: ([])
def wsJxe99ae_doubleToLongBits_ccdee : List Cond := .code yJxe99ae_doubleToLongBits_ccdee cJxe99ae_doubleToLongBits_ccdee 2 (some .long) :: ([.methodLink RJxe99ae 134 ⟨"java/lang/Double", "doubleToRawLongBits", "(D)J"⟩, .native ⟨"java/lang/Double", "doubleToRawLongBits", "(D)J"⟩, .static ⟨"java/lang/Double", "doubleToRawLongBits", "(D)J"⟩, .initialized "java/lang/Double", .constantLong RJxe99ae 137 (9221120237041090560), .methodLink RJxe99ae 122 yJxe99ae_isNaN_b9ae7, .static yJxe99ae_isNaN_b9ae7, .initialized RJxe99ae, .code yJxe99ae_isNaN_b9ae7 cJxe99ae_isNaN_b9ae7 2 (some .boolean)])
def wsX4_digest_r1 : List Cond := [Cond.fieldLink RX4 29 "SquareGearsModel" "thrown" "I", Cond.constantLong RX4 143 (3733), Cond.constantLong RX4 145 (31), Cond.constant RX4 147 (100000), Cond.fieldLink RX4 19 "SquareGearsModel" "isKept" "[Z", Cond.fieldLink RX4 74 "SquareGearsModel" "length" "I", Cond.fieldLink RX4 23 "SquareGearsModel" "text" "[I", Cond.methodLink RX4 123 yX4_countNow, Cond.instanceMethod yX4_countNow, Cond.selects RX4 yX4_countNow yX4_countNow, Cond.initialized RX4, Cond.code yX4_countNow cX4_countNow 2 (some .int), Cond.fieldLink RX4 7 "SquareGearsModel" "z" "[I", Cond.fieldLink RX4 48 "SquareGearsModel" "saves" "I", Cond.methodLink RX4 51 yX4_turning, Cond.instanceMethod yX4_turning, Cond.selects RX4 yX4_turning yX4_turning, Cond.code yX4_turning cX4_turning 3 (some .int), Cond.methodLink RX4 114 yX4_lost, Cond.instanceMethod yX4_lost, Cond.selects RX4 yX4_lost yX4_lost, Cond.code yX4_lost cX4_lost 3 (some .int), Cond.methodLink RX4 108 yX4_greatestTrace, Cond.instanceMethod yX4_greatestTrace]
def wsX4_digest_r2 : List Cond := [Cond.selects RX4 yX4_greatestTrace yX4_greatestTrace, Cond.code yX4_greatestTrace cX4_greatestTrace 3 (some .int), Cond.methodLink RX4 45 yX4_traceAt, Cond.instanceMethod yX4_traceAt, Cond.selects RX4 yX4_traceAt yX4_traceAt, Cond.code yX4_traceAt cX4_traceAt 4 (some .int), Cond.methodLink RX4 37 yX4_used, Cond.instanceMethod yX4_used, Cond.selects RX4 yX4_used yX4_used, Cond.code yX4_used cX4_used 2 (some .int), Cond.methodLink RX4 41 yX4_wave, Cond.static yX4_wave, Cond.code yX4_wave cX4_wave 3 (some .int), Cond.methodLink RX4 111 yX4_leastTrace, Cond.instanceMethod yX4_leastTrace, Cond.selects RX4 yX4_leastTrace yX4_leastTrace, Cond.code yX4_leastTrace cX4_leastTrace 3 (some .int), Cond.methodLink RX4 117 yX4_greatest, Cond.instanceMethod yX4_greatest, Cond.selects RX4 yX4_greatest yX4_greatest, Cond.code yX4_greatest cX4_greatest 5 (some .int), Cond.methodLink RX4 105 yX4_pointNow, Cond.instanceMethod yX4_pointNow, Cond.selects RX4 yX4_pointNow yX4_pointNow]
def wsX4_digest_r3 : List Cond := [Cond.code yX4_pointNow cX4_pointNow 3 (some .int), Cond.methodLink RX4 68 yX4_difference, Cond.instanceMethod yX4_difference, Cond.selects RX4 yX4_difference yX4_difference, Cond.code yX4_difference cX4_difference 2 (some .int), Cond.methodLink RX4 102 yX4_jump, Cond.instanceMethod yX4_jump, Cond.selects RX4 yX4_jump yX4_jump, Cond.code yX4_jump cX4_jump 2 (some .int), Cond.methodLink RX4 65 yX4_amount, Cond.static yX4_amount, Cond.code yX4_amount cX4_amount 1 (some .int), Cond.methodLink RX4 120 yX4_overshoot, Cond.instanceMethod yX4_overshoot, Cond.selects RX4 yX4_overshoot yX4_overshoot, Cond.code yX4_overshoot cX4_overshoot 3 (some .int), Cond.methodLink RX4 99 yX4_wheelNow, Cond.instanceMethod yX4_wheelNow, Cond.selects RX4 yX4_wheelNow yX4_wheelNow, Cond.code yX4_wheelNow cX4_wheelNow 3 (some .int), Cond.methodLink RX4 71 yX4_ofPattern, Cond.instanceMethod yX4_ofPattern, Cond.selects RX4 yX4_ofPattern yX4_ofPattern, Cond.code yX4_ofPattern cX4_ofPattern 4 (some .int)]
def wsX4_digest_r4 : List Cond := [Cond.methodLink RX4 96 yX4_changes, Cond.static yX4_changes, Cond.code yX4_changes cX4_changes 3 (some .int), Cond.methodLink RX4 126 yX4_explaining, Cond.instanceMethod yX4_explaining, Cond.selects RX4 yX4_explaining yX4_explaining, Cond.code yX4_explaining cX4_explaining 5 (some .int), Cond.methodLink RX4 130 yX4_fewest, Cond.instanceMethod yX4_fewest, Cond.selects RX4 yX4_fewest yX4_fewest, Cond.code yX4_fewest cX4_fewest 7 (some .int), Cond.fieldLink RX4 26 "SquareGearsModel" "isOut" "[Z", Cond.methodLink RX4 136 yX4_nearestTurn, Cond.instanceMethod yX4_nearestTurn, Cond.selects RX4 yX4_nearestTurn yX4_nearestTurn, Cond.code yX4_nearestTurn cX4_nearestTurn 3 (some .int), Cond.methodLink RX4 133 yX4_far, Cond.instanceMethod yX4_far, Cond.selects RX4 yX4_far yX4_far, Cond.code yX4_far cX4_far 4 (some .int), Cond.methodLink RX4 139 yX4_share, Cond.instanceMethod yX4_share, Cond.selects RX4 yX4_share yX4_share, Cond.code yX4_share cX4_share 5 (some .double)]
def wsX4_digest_r5 : List Cond := [Cond.methodLink RX4 148 yJxe99ae_doubleToLongBits_ccdee, Cond.static yJxe99ae_doubleToLongBits_ccdee, Cond.initialized RJxe99ae, Cond.code yJxe99ae_doubleToLongBits_ccdee cJxe99ae_doubleToLongBits_ccdee 2 (some .long), Cond.methodLink RJxe99ae 134 ⟨"java/lang/Double", "doubleToRawLongBits", "(D)J"⟩, Cond.native ⟨"java/lang/Double", "doubleToRawLongBits", "(D)J"⟩, Cond.static ⟨"java/lang/Double", "doubleToRawLongBits", "(D)J"⟩, Cond.initialized "java/lang/Double", Cond.constantLong RJxe99ae 137 (9221120237041090560), Cond.methodLink RJxe99ae 122 yJxe99ae_isNaN_b9ae7, Cond.static yJxe99ae_isNaN_b9ae7, Cond.code yJxe99ae_isNaN_b9ae7 cJxe99ae_isNaN_b9ae7 2 (some .boolean)]
def wsX4_digest : List Cond := .code yX4_digest cX4_digest 5 (some .long) :: ((wsX4_digest_r1 ++ (wsX4_digest_r2 ++ (wsX4_digest_r3 ++ (wsX4_digest_r4 ++ wsX4_digest_r5)))) ++ wsX40)
def wsJ9_abs_0f7a4 : List Cond := .code yJ9_abs_0f7a4 cJ9_abs_0f7a4 1 (some .int) :: ([])
def wsJ9_max_7cf53 : List Cond := .code yJ9_max_7cf53 cJ9_max_7cf53 2 (some .int) :: ([])
def wsJ9_min_7cf53 : List Cond := .code yJ9_min_7cf53 cJ9_min_7cf53 2 (some .int) :: ([])
def wsL_set_r1 : List Cond := [Cond.classLink RL 13 "java/lang/IndexOutOfBoundsException", Cond.classLink RL 15 "java/lang/IllegalArgumentException", Cond.methodLink RL 7 yX3_set, Cond.instanceMethod yX3_set, Cond.selects RX3 yX3_set yX3_set, Cond.initialized RX3, Cond.code yX3_set cX3_set 4 (some .int), Cond.classLink RX3 46 "java/lang/IndexOutOfBoundsException", Cond.initialized "java/lang/IndexOutOfBoundsException", Cond.classLink RX3 57 "java/lang/IllegalArgumentException", Cond.initialized "java/lang/IllegalArgumentException", Cond.fieldLink RX3 27 "SquareGears" "saved" "LSquareGears$SavedGears;", Cond.fieldLink RX3 12 "SquareGears" "now" "LSquareGears$Gears;", Cond.methodLink RX3 42 yX3_isNoPlace, Cond.static yX3_isNoPlace, Cond.code yX3_isNoPlace cX3_isNoPlace 1 (some .boolean), Cond.methodLink RX3 53 yX3_isOutside, Cond.static yX3_isOutside, Cond.code yX3_isOutside cX3_isOutside 3 (some .boolean), Cond.instanceMethod yX1_push, Cond.initialized RX1, Cond.selects RX1 yX1_push yX1_push, Cond.code yX1_push cX1_push 2 none, Cond.fieldLink RX1 11 "SquareGears$SavedGears" "ring" "[LSquareGears$Gears;"]
def wsL_set_r2 : List Cond := [Cond.fieldLink RX1 15 "SquareGears$SavedGears" "next" "I", Cond.fieldLink RX1 19 "SquareGears$SavedGears" "count" "I", Cond.methodLink RX1 27 Lib.Math.min.name, Cond.static Lib.Math.min.name, Cond.initialized "java/lang/Math", Cond.code Lib.Math.min.name Lib.Math.min.code 2 (some .int), Cond.instanceMethod yX0_takeFrom, Cond.initialized RX0, Cond.selects RX0 yX0_takeFrom yX0_takeFrom, Cond.code yX0_takeFrom cX0_takeFrom 2 none, Cond.fieldLink RX0 9 "SquareGears$Gears" "amplitudes" "[I", Cond.methodLink RX0 25 arraycopyName, Cond.native arraycopyName, Cond.static arraycopyName, Cond.initialized "java/lang/System", Cond.fieldLink RX0 15 "SquareGears$Gears" "pattern" "[I", Cond.fieldLink RX0 18 "SquareGears$Gears" "lostWheels" "I", Cond.fieldLink RX0 22 "SquareGears$Gears" "changedByFits" "I"]
def wsL_set : List Cond := .codeWith yL_set cL_set 5 (some .int) [(0, 10, 13, 13), (0, 10, 17, 15)] :: ((wsL_set_r1 ++ wsL_set_r2) ++ wsX30 ++ wsX00 ++ wsX10 ++ (vx_atS RX3 50 "java/lang/IndexOutOfBoundsException" ["java/lang/RuntimeException", "java/lang/Exception"]).filter goodWord ++ (vx_atS RX3 61 "java/lang/IllegalArgumentException" ["java/lang/RuntimeException", "java/lang/Exception"]).filter goodWord)
def wsL_lose_r1 : List Cond := [Cond.classLink RL 13 "java/lang/IndexOutOfBoundsException", Cond.methodLink RL 17 yX3_lose, Cond.instanceMethod yX3_lose, Cond.selects RX3 yX3_lose yX3_lose, Cond.initialized RX3, Cond.code yX3_lose cX3_lose 2 (some .int), Cond.classLink RX3 46 "java/lang/IndexOutOfBoundsException", Cond.initialized "java/lang/IndexOutOfBoundsException", Cond.fieldLink RX3 27 "SquareGears" "saved" "LSquareGears$SavedGears;", Cond.fieldLink RX3 12 "SquareGears" "now" "LSquareGears$Gears;", Cond.methodLink RX3 42 yX3_isNoPlace, Cond.static yX3_isNoPlace, Cond.code yX3_isNoPlace cX3_isNoPlace 1 (some .boolean), Cond.methodLink RX3 53 yX3_isOutside, Cond.static yX3_isOutside, Cond.code yX3_isOutside cX3_isOutside 3 (some .boolean), Cond.instanceMethod yX1_push, Cond.initialized RX1, Cond.selects RX1 yX1_push yX1_push, Cond.code yX1_push cX1_push 2 none, Cond.fieldLink RX1 11 "SquareGears$SavedGears" "ring" "[LSquareGears$Gears;", Cond.fieldLink RX1 15 "SquareGears$SavedGears" "next" "I", Cond.fieldLink RX1 19 "SquareGears$SavedGears" "count" "I", Cond.methodLink RX1 27 Lib.Math.min.name]
def wsL_lose_r2 : List Cond := [Cond.static Lib.Math.min.name, Cond.initialized "java/lang/Math", Cond.code Lib.Math.min.name Lib.Math.min.code 2 (some .int), Cond.instanceMethod yX0_takeFrom, Cond.initialized RX0, Cond.selects RX0 yX0_takeFrom yX0_takeFrom, Cond.code yX0_takeFrom cX0_takeFrom 2 none, Cond.fieldLink RX0 9 "SquareGears$Gears" "amplitudes" "[I", Cond.methodLink RX0 25 arraycopyName, Cond.native arraycopyName, Cond.static arraycopyName, Cond.initialized "java/lang/System", Cond.fieldLink RX0 15 "SquareGears$Gears" "pattern" "[I", Cond.fieldLink RX0 18 "SquareGears$Gears" "lostWheels" "I", Cond.fieldLink RX0 22 "SquareGears$Gears" "changedByFits" "I", Cond.instanceMethod yX0_isLost, Cond.selects RX0 yX0_isLost yX0_isLost, Cond.code yX0_isLost cX0_isLost 2 (some .boolean)]
def wsL_lose : List Cond := .codeWith yL_lose cL_lose 4 (some .int) [(0, 9, 12, 13)] :: ((wsL_lose_r1 ++ wsL_lose_r2) ++ wsX30 ++ wsX00 ++ wsX10 ++ (vx_atS RX3 50 "java/lang/IndexOutOfBoundsException" ["java/lang/RuntimeException", "java/lang/Exception"]).filter goodWord)
def wsL_turn_r1 : List Cond := [Cond.classLink RL 15 "java/lang/IllegalArgumentException", Cond.methodLink RL 21 yX3_turn, Cond.instanceMethod yX3_turn, Cond.selects RX3 yX3_turn yX3_turn, Cond.initialized RX3, Cond.code yX3_turn cX3_turn 4 (some .int), Cond.classLink RX3 57 "java/lang/IllegalArgumentException", Cond.initialized "java/lang/IllegalArgumentException", Cond.fieldLink RX3 27 "SquareGears" "saved" "LSquareGears$SavedGears;", Cond.fieldLink RX3 12 "SquareGears" "now" "LSquareGears$Gears;", Cond.methodLink RX3 42 yX3_isNoPlace, Cond.static yX3_isNoPlace, Cond.code yX3_isNoPlace cX3_isNoPlace 1 (some .boolean), Cond.methodLink RX3 53 yX3_isOutside, Cond.static yX3_isOutside, Cond.code yX3_isOutside cX3_isOutside 3 (some .boolean), Cond.instanceMethod yX1_push, Cond.initialized RX1, Cond.selects RX1 yX1_push yX1_push, Cond.code yX1_push cX1_push 2 none, Cond.fieldLink RX1 11 "SquareGears$SavedGears" "ring" "[LSquareGears$Gears;", Cond.fieldLink RX1 15 "SquareGears$SavedGears" "next" "I", Cond.fieldLink RX1 19 "SquareGears$SavedGears" "count" "I", Cond.methodLink RX1 27 Lib.Math.min.name]
def wsL_turn_r2 : List Cond := [Cond.static Lib.Math.min.name, Cond.initialized "java/lang/Math", Cond.code Lib.Math.min.name Lib.Math.min.code 2 (some .int), Cond.instanceMethod yX0_takeFrom, Cond.initialized RX0, Cond.selects RX0 yX0_takeFrom yX0_takeFrom, Cond.code yX0_takeFrom cX0_takeFrom 2 none, Cond.fieldLink RX0 9 "SquareGears$Gears" "amplitudes" "[I", Cond.methodLink RX0 25 arraycopyName, Cond.native arraycopyName, Cond.static arraycopyName, Cond.initialized "java/lang/System", Cond.fieldLink RX0 15 "SquareGears$Gears" "pattern" "[I", Cond.fieldLink RX0 18 "SquareGears$Gears" "lostWheels" "I", Cond.fieldLink RX0 22 "SquareGears$Gears" "changedByFits" "I", Cond.methodLink RX3 77 yX3_wave, Cond.static yX3_wave, Cond.code yX3_wave cX3_wave 2 (some .int), Cond.methodLink RX3 240 yJ6_bitCount_0f7a4, Cond.static yJ6_bitCount_0f7a4, Cond.initialized RJ6, Cond.code yJ6_bitCount_0f7a4 cJ6_bitCount_0f7a4 1 (some .int), Cond.constant RJ6 265 (1431655765), Cond.constant RJ6 266 (858993459)]
def wsL_turn_r3 : List Cond := [Cond.constant RJ6 267 (252645135)]
def wsL_turn : List Cond := .codeWith yL_turn cL_turn 4 (some .int) [(0, 9, 12, 15)] :: ((wsL_turn_r1 ++ (wsL_turn_r2 ++ wsL_turn_r3)) ++ wsX30 ++ wsX00 ++ wsX10 ++ (vx_atS RX3 61 "java/lang/IllegalArgumentException" ["java/lang/RuntimeException", "java/lang/Exception"]).filter goodWord)
def wsL_drop_r1 : List Cond := [Cond.classLink RL 15 "java/lang/IllegalArgumentException", Cond.methodLink RL 24 yX3_drop, Cond.instanceMethod yX3_drop, Cond.selects RX3 yX3_drop yX3_drop, Cond.initialized RX3, Cond.code yX3_drop cX3_drop 4 (some .int), Cond.classLink RX3 57 "java/lang/IllegalArgumentException", Cond.initialized "java/lang/IllegalArgumentException", Cond.fieldLink RX3 27 "SquareGears" "saved" "LSquareGears$SavedGears;", Cond.fieldLink RX3 12 "SquareGears" "now" "LSquareGears$Gears;", Cond.methodLink RX3 83 Lib.Math.abs.name, Cond.static Lib.Math.abs.name, Cond.initialized "java/lang/Math", Cond.code Lib.Math.abs.name Lib.Math.abs.code 1 (some .int), Cond.methodLink RX3 53 yX3_isOutside, Cond.static yX3_isOutside, Cond.code yX3_isOutside cX3_isOutside 3 (some .boolean), Cond.instanceMethod yX1_push, Cond.initialized RX1, Cond.selects RX1 yX1_push yX1_push, Cond.code yX1_push cX1_push 2 none, Cond.fieldLink RX1 11 "SquareGears$SavedGears" "ring" "[LSquareGears$Gears;", Cond.fieldLink RX1 15 "SquareGears$SavedGears" "next" "I", Cond.fieldLink RX1 19 "SquareGears$SavedGears" "count" "I"]
def wsL_drop_r2 : List Cond := [Cond.methodLink RX1 27 Lib.Math.min.name, Cond.static Lib.Math.min.name, Cond.code Lib.Math.min.name Lib.Math.min.code 2 (some .int), Cond.instanceMethod yX0_takeFrom, Cond.initialized RX0, Cond.selects RX0 yX0_takeFrom yX0_takeFrom, Cond.code yX0_takeFrom cX0_takeFrom 2 none, Cond.fieldLink RX0 9 "SquareGears$Gears" "amplitudes" "[I", Cond.methodLink RX0 25 arraycopyName, Cond.native arraycopyName, Cond.static arraycopyName, Cond.initialized "java/lang/System", Cond.fieldLink RX0 15 "SquareGears$Gears" "pattern" "[I", Cond.fieldLink RX0 18 "SquareGears$Gears" "lostWheels" "I", Cond.fieldLink RX0 22 "SquareGears$Gears" "changedByFits" "I"]
def wsL_drop : List Cond := .codeWith yL_drop cL_drop 4 (some .int) [(0, 9, 12, 15)] :: ((wsL_drop_r1 ++ wsL_drop_r2) ++ wsX30 ++ wsX00 ++ wsX10 ++ (vx_atS RX3 61 "java/lang/IllegalArgumentException" ["java/lang/RuntimeException", "java/lang/Exception"]).filter goodWord)
def wsL_point_r1 : List Cond := [Cond.classLink RL 13 "java/lang/IndexOutOfBoundsException", Cond.classLink RL 15 "java/lang/IllegalArgumentException", Cond.methodLink RL 27 yX3_point, Cond.instanceMethod yX3_point, Cond.selects RX3 yX3_point yX3_point, Cond.initialized RX3, Cond.code yX3_point cX3_point 4 (some .int), Cond.classLink RX3 46 "java/lang/IndexOutOfBoundsException", Cond.initialized "java/lang/IndexOutOfBoundsException", Cond.classLink RX3 57 "java/lang/IllegalArgumentException", Cond.initialized "java/lang/IllegalArgumentException", Cond.fieldLink RX3 27 "SquareGears" "saved" "LSquareGears$SavedGears;", Cond.fieldLink RX3 12 "SquareGears" "now" "LSquareGears$Gears;", Cond.methodLink RX3 42 yX3_isNoPlace, Cond.static yX3_isNoPlace, Cond.code yX3_isNoPlace cX3_isNoPlace 1 (some .boolean), Cond.methodLink RX3 53 yX3_isOutside, Cond.static yX3_isOutside, Cond.code yX3_isOutside cX3_isOutside 3 (some .boolean), Cond.instanceMethod yX1_push, Cond.initialized RX1, Cond.selects RX1 yX1_push yX1_push, Cond.code yX1_push cX1_push 2 none, Cond.fieldLink RX1 11 "SquareGears$SavedGears" "ring" "[LSquareGears$Gears;"]
def wsL_point_r2 : List Cond := [Cond.fieldLink RX1 15 "SquareGears$SavedGears" "next" "I", Cond.fieldLink RX1 19 "SquareGears$SavedGears" "count" "I", Cond.methodLink RX1 27 Lib.Math.min.name, Cond.static Lib.Math.min.name, Cond.initialized "java/lang/Math", Cond.code Lib.Math.min.name Lib.Math.min.code 2 (some .int), Cond.instanceMethod yX0_takeFrom, Cond.initialized RX0, Cond.selects RX0 yX0_takeFrom yX0_takeFrom, Cond.code yX0_takeFrom cX0_takeFrom 2 none, Cond.fieldLink RX0 9 "SquareGears$Gears" "amplitudes" "[I", Cond.methodLink RX0 25 arraycopyName, Cond.native arraycopyName, Cond.static arraycopyName, Cond.initialized "java/lang/System", Cond.fieldLink RX0 15 "SquareGears$Gears" "pattern" "[I", Cond.fieldLink RX0 18 "SquareGears$Gears" "lostWheels" "I", Cond.fieldLink RX0 22 "SquareGears$Gears" "changedByFits" "I"]
def wsL_point : List Cond := .codeWith yL_point cL_point 5 (some .int) [(0, 10, 13, 13), (0, 10, 17, 15)] :: ((wsL_point_r1 ++ wsL_point_r2) ++ wsX30 ++ wsX00 ++ wsX10 ++ (vx_atS RX3 50 "java/lang/IndexOutOfBoundsException" ["java/lang/RuntimeException", "java/lang/Exception"]).filter goodWord ++ (vx_atS RX3 61 "java/lang/IllegalArgumentException" ["java/lang/RuntimeException", "java/lang/Exception"]).filter goodWord)
def wsL_append : List Cond := .codeWith yL_append cL_append 4 (some .int) [(0, 9, 12, 15), (0, 9, 15, 33)] :: ([.classLink RL 15 "java/lang/IllegalArgumentException", .classLink RL 33 "java/lang/IllegalStateException", .methodLink RL 30 yX3_append, .instanceMethod yX3_append, .selects RX3 yX3_append yX3_append, .initialized RX3, .code yX3_append cX3_append 2 (some .int), .classLink RX3 57 "java/lang/IllegalArgumentException", .initialized "java/lang/IllegalArgumentException", .classLink RX3 117 "java/lang/IllegalStateException", .initialized "java/lang/IllegalStateException", .fieldLink RX3 34 "SquareGears" "text" "LSquareGears$WheelText;", .methodLink RX3 53 yX3_isOutside, .static yX3_isOutside, .code yX3_isOutside cX3_isOutside 3 (some .boolean), .instanceMethod yX2_isFull, .initialized RX2, .selects RX2 yX2_isFull yX2_isFull, .code yX2_isFull cX2_isFull 1 (some .boolean), .fieldLink RX2 15 "SquareGears$WheelText" "length" "I", .instanceMethod yX2_put, .selects RX2 yX2_put yX2_put, .code yX2_put cX2_put 2 none, .fieldLink RX2 11 "SquareGears$WheelText" "signs" "[C"] ++ wsX30 ++ wsX20 ++ (vx_atS RX3 61 "java/lang/IllegalArgumentException" ["java/lang/RuntimeException", "java/lang/Exception"]).filter goodWord ++ (vx_atS RX3 121 "java/lang/IllegalStateException" ["java/lang/RuntimeException", "java/lang/Exception"]).filter goodWord)
def wsL_load_r1 : List Cond := [Cond.classLink RL 15 "java/lang/IllegalArgumentException", Cond.methodLink RL 35 yX3_load, Cond.instanceMethod yX3_load, Cond.selects RX3 yX3_load yX3_load, Cond.initialized RX3, Cond.code yX3_load cX3_load 1 (some .int), Cond.classLink RX3 57 "java/lang/IllegalArgumentException", Cond.initialized "java/lang/IllegalArgumentException", Cond.fieldLink RX3 34 "SquareGears" "text" "LSquareGears$WheelText;", Cond.fieldLink RX3 27 "SquareGears" "saved" "LSquareGears$SavedGears;", Cond.fieldLink RX3 12 "SquareGears" "now" "LSquareGears$Gears;", Cond.instanceMethod yX2_tellsWheels, Cond.initialized RX2, Cond.selects RX2 yX2_tellsWheels yX2_tellsWheels, Cond.code yX2_tellsWheels cX2_tellsWheels 3 (some .boolean), Cond.fieldLink RX2 15 "SquareGears$WheelText" "length" "I", Cond.fieldLink RX2 11 "SquareGears$WheelText" "signs" "[C", Cond.methodLink RX2 19 yX2_placeBehind, Cond.static yX2_placeBehind, Cond.code yX2_placeBehind cX2_placeBehind 2 (some .int), Cond.methodLink RX2 23 yX2_isLetter, Cond.static yX2_isLetter, Cond.code yX2_isLetter cX2_isLetter 1 (some .boolean), Cond.methodLink RX2 27 yX2_placeBehindFirstDigit]
def wsL_load_r2 : List Cond := [Cond.static yX2_placeBehindFirstDigit, Cond.code yX2_placeBehindFirstDigit cX2_placeBehindFirstDigit 1 (some .int), Cond.methodLink RX2 31 yX2_isDigit, Cond.static yX2_isDigit, Cond.code yX2_isDigit cX2_isDigit 1 (some .boolean), Cond.methodLink RX2 34 yX2_placeBehindWheel, Cond.static yX2_placeBehindWheel, Cond.code yX2_placeBehindWheel cX2_placeBehindWheel 1 (some .int), Cond.instanceMethod yX1_push, Cond.initialized RX1, Cond.selects RX1 yX1_push yX1_push, Cond.code yX1_push cX1_push 2 none, Cond.fieldLink RX1 11 "SquareGears$SavedGears" "ring" "[LSquareGears$Gears;", Cond.fieldLink RX1 15 "SquareGears$SavedGears" "next" "I", Cond.fieldLink RX1 19 "SquareGears$SavedGears" "count" "I", Cond.methodLink RX1 27 Lib.Math.min.name, Cond.static Lib.Math.min.name, Cond.initialized "java/lang/Math", Cond.code Lib.Math.min.name Lib.Math.min.code 2 (some .int), Cond.instanceMethod yX0_takeFrom, Cond.initialized RX0, Cond.selects RX0 yX0_takeFrom yX0_takeFrom, Cond.code yX0_takeFrom cX0_takeFrom 2 none, Cond.fieldLink RX0 9 "SquareGears$Gears" "amplitudes" "[I"]
def wsL_load_r3 : List Cond := [Cond.methodLink RX0 25 arraycopyName, Cond.native arraycopyName, Cond.static arraycopyName, Cond.initialized "java/lang/System", Cond.fieldLink RX0 15 "SquareGears$Gears" "pattern" "[I", Cond.fieldLink RX0 18 "SquareGears$Gears" "lostWheels" "I", Cond.fieldLink RX0 22 "SquareGears$Gears" "changedByFits" "I", Cond.instanceMethod yX2_tellTo, Cond.selects RX2 yX2_tellTo yX2_tellTo, Cond.code yX2_tellTo cX2_tellTo 7 none, Cond.instanceMethod yX2_empty, Cond.selects RX2 yX2_empty yX2_empty, Cond.code yX2_empty cX2_empty 1 none, Cond.instanceMethod yX0_drawingWheels, Cond.selects RX0 yX0_drawingWheels yX0_drawingWheels, Cond.code yX0_drawingWheels cX0_drawingWheels 3 (some .int)]
def wsL_load : List Cond := .codeWith yL_load cL_load 3 (some .int) [(0, 8, 11, 15)] :: ((wsL_load_r1 ++ (wsL_load_r2 ++ wsL_load_r3)) ++ wsX30 ++ wsX20 ++ wsX10 ++ wsX00 ++ (vx_atS RX3 61 "java/lang/IllegalArgumentException" ["java/lang/RuntimeException", "java/lang/Exception"]).filter goodWord)
def wsL_keep_r1 : List Cond := [Cond.classLink RL 15 "java/lang/IllegalArgumentException", Cond.methodLink RL 39 yX3_keep, Cond.instanceMethod yX3_keep, Cond.selects RX3 yX3_keep yX3_keep, Cond.initialized RX3, Cond.code yX3_keep cX3_keep 2 (some .int), Cond.classLink RX3 57 "java/lang/IllegalArgumentException", Cond.initialized "java/lang/IllegalArgumentException", Cond.fieldLink RX3 16 "SquareGears" "slots" "[LSquareGears$Gears;", Cond.fieldLink RX3 12 "SquareGears" "now" "LSquareGears$Gears;", Cond.fieldLink RX3 20 "SquareGears" "keptSlots" "I", Cond.methodLink RX3 53 yX3_isOutside, Cond.static yX3_isOutside, Cond.code yX3_isOutside cX3_isOutside 3 (some .boolean), Cond.instanceMethod yX0_takeFrom, Cond.initialized RX0, Cond.selects RX0 yX0_takeFrom yX0_takeFrom, Cond.code yX0_takeFrom cX0_takeFrom 2 none, Cond.fieldLink RX0 9 "SquareGears$Gears" "amplitudes" "[I", Cond.methodLink RX0 25 arraycopyName, Cond.native arraycopyName, Cond.static arraycopyName, Cond.initialized "java/lang/System", Cond.fieldLink RX0 15 "SquareGears$Gears" "pattern" "[I"]
def wsL_keep_r2 : List Cond := [Cond.fieldLink RX0 18 "SquareGears$Gears" "lostWheels" "I", Cond.fieldLink RX0 22 "SquareGears$Gears" "changedByFits" "I", Cond.instanceMethod yX0_drawingWheels, Cond.selects RX0 yX0_drawingWheels yX0_drawingWheels, Cond.code yX0_drawingWheels cX0_drawingWheels 3 (some .int)]
def wsL_keep : List Cond := .codeWith yL_keep cL_keep 4 (some .int) [(0, 9, 12, 15)] :: ((wsL_keep_r1 ++ wsL_keep_r2) ++ wsX30 ++ wsX00 ++ (vx_atS RX3 61 "java/lang/IllegalArgumentException" ["java/lang/RuntimeException", "java/lang/Exception"]).filter goodWord)
def wsL_goBack_r1 : List Cond := [Cond.classLink RL 15 "java/lang/IllegalArgumentException", Cond.classLink RL 33 "java/lang/IllegalStateException", Cond.methodLink RL 42 yX3_goBack, Cond.instanceMethod yX3_goBack, Cond.selects RX3 yX3_goBack yX3_goBack, Cond.initialized RX3, Cond.code yX3_goBack cX3_goBack 2 (some .int), Cond.classLink RX3 57 "java/lang/IllegalArgumentException", Cond.initialized "java/lang/IllegalArgumentException", Cond.classLink RX3 117 "java/lang/IllegalStateException", Cond.initialized "java/lang/IllegalStateException", Cond.fieldLink RX3 27 "SquareGears" "saved" "LSquareGears$SavedGears;", Cond.fieldLink RX3 12 "SquareGears" "now" "LSquareGears$Gears;", Cond.fieldLink RX3 16 "SquareGears" "slots" "[LSquareGears$Gears;", Cond.methodLink RX3 53 yX3_isOutside, Cond.static yX3_isOutside, Cond.code yX3_isOutside cX3_isOutside 3 (some .boolean), Cond.methodLink RX3 152 yX3_hasSnapshot, Cond.instanceMethod yX3_hasSnapshot, Cond.selects RX3 yX3_hasSnapshot yX3_hasSnapshot, Cond.code yX3_hasSnapshot cX3_hasSnapshot 2 (some .boolean), Cond.fieldLink RX3 20 "SquareGears" "keptSlots" "I", Cond.instanceMethod yX1_push, Cond.initialized RX1]
def wsL_goBack_r2 : List Cond := [Cond.selects RX1 yX1_push yX1_push, Cond.code yX1_push cX1_push 2 none, Cond.fieldLink RX1 11 "SquareGears$SavedGears" "ring" "[LSquareGears$Gears;", Cond.fieldLink RX1 15 "SquareGears$SavedGears" "next" "I", Cond.fieldLink RX1 19 "SquareGears$SavedGears" "count" "I", Cond.methodLink RX1 27 Lib.Math.min.name, Cond.static Lib.Math.min.name, Cond.initialized "java/lang/Math", Cond.code Lib.Math.min.name Lib.Math.min.code 2 (some .int), Cond.instanceMethod yX0_takeFrom, Cond.initialized RX0, Cond.selects RX0 yX0_takeFrom yX0_takeFrom, Cond.code yX0_takeFrom cX0_takeFrom 2 none, Cond.fieldLink RX0 9 "SquareGears$Gears" "amplitudes" "[I", Cond.methodLink RX0 25 arraycopyName, Cond.native arraycopyName, Cond.static arraycopyName, Cond.initialized "java/lang/System", Cond.fieldLink RX0 15 "SquareGears$Gears" "pattern" "[I", Cond.fieldLink RX0 18 "SquareGears$Gears" "lostWheels" "I", Cond.fieldLink RX0 22 "SquareGears$Gears" "changedByFits" "I", Cond.instanceMethod yX0_drawingWheels, Cond.selects RX0 yX0_drawingWheels yX0_drawingWheels, Cond.code yX0_drawingWheels cX0_drawingWheels 3 (some .int)]
def wsL_goBack : List Cond := .codeWith yL_goBack cL_goBack 4 (some .int) [(0, 9, 12, 15), (0, 9, 15, 33)] :: ((wsL_goBack_r1 ++ wsL_goBack_r2) ++ wsX30 ++ wsX10 ++ wsX00 ++ (vx_atS RX3 61 "java/lang/IllegalArgumentException" ["java/lang/RuntimeException", "java/lang/Exception"]).filter goodWord ++ (vx_atS RX3 121 "java/lang/IllegalStateException" ["java/lang/RuntimeException", "java/lang/Exception"]).filter goodWord)
def wsL_undo_r1 : List Cond := [Cond.classLink RL 33 "java/lang/IllegalStateException", Cond.methodLink RL 45 yX3_undo, Cond.instanceMethod yX3_undo, Cond.selects RX3 yX3_undo yX3_undo, Cond.initialized RX3, Cond.code yX3_undo cX3_undo 1 (some .int), Cond.classLink RX3 117 "java/lang/IllegalStateException", Cond.initialized "java/lang/IllegalStateException", Cond.fieldLink RX3 27 "SquareGears" "saved" "LSquareGears$SavedGears;", Cond.fieldLink RX3 12 "SquareGears" "now" "LSquareGears$Gears;", Cond.instanceMethod yX1_popInto, Cond.initialized RX1, Cond.selects RX1 yX1_popInto yX1_popInto, Cond.code yX1_popInto cX1_popInto 2 none, Cond.fieldLink RX1 15 "SquareGears$SavedGears" "next" "I", Cond.fieldLink RX1 19 "SquareGears$SavedGears" "count" "I", Cond.fieldLink RX1 11 "SquareGears$SavedGears" "ring" "[LSquareGears$Gears;", Cond.instanceMethod yX0_takeFrom, Cond.initialized RX0, Cond.selects RX0 yX0_takeFrom yX0_takeFrom, Cond.code yX0_takeFrom cX0_takeFrom 2 none, Cond.fieldLink RX0 9 "SquareGears$Gears" "amplitudes" "[I", Cond.methodLink RX0 25 arraycopyName, Cond.native arraycopyName]
def wsL_undo_r2 : List Cond := [Cond.static arraycopyName, Cond.initialized "java/lang/System", Cond.fieldLink RX0 15 "SquareGears$Gears" "pattern" "[I", Cond.fieldLink RX0 18 "SquareGears$Gears" "lostWheels" "I", Cond.fieldLink RX0 22 "SquareGears$Gears" "changedByFits" "I"]
def wsL_undo : List Cond := .codeWith yL_undo cL_undo 3 (some .int) [(0, 8, 11, 33)] :: ((wsL_undo_r1 ++ wsL_undo_r2) ++ wsX30 ++ wsX10 ++ wsX00 ++ (vx_atS RX3 121 "java/lang/IllegalStateException" ["java/lang/RuntimeException", "java/lang/Exception"]).filter goodWord)
def wsL_wheelOf_r1 : List Cond := [Cond.classLink RL 13 "java/lang/IndexOutOfBoundsException", Cond.classLink RL 15 "java/lang/IllegalArgumentException", Cond.methodLink RL 48 yX3_wheelOf, Cond.instanceMethod yX3_wheelOf, Cond.selects RX3 yX3_wheelOf yX3_wheelOf, Cond.initialized RX3, Cond.code yX3_wheelOf cX3_wheelOf 3 (some .int), Cond.classLink RX3 46 "java/lang/IndexOutOfBoundsException", Cond.initialized "java/lang/IndexOutOfBoundsException", Cond.classLink RX3 57 "java/lang/IllegalArgumentException", Cond.initialized "java/lang/IllegalArgumentException", Cond.methodLink RX3 42 yX3_isNoPlace, Cond.static yX3_isNoPlace, Cond.code yX3_isNoPlace cX3_isNoPlace 1 (some .boolean), Cond.methodLink RX3 53 yX3_isOutside, Cond.static yX3_isOutside, Cond.code yX3_isOutside cX3_isOutside 3 (some .boolean), Cond.methodLink RX3 167 yX3_wheelNumber, Cond.instanceMethod yX3_wheelNumber, Cond.selects RX3 yX3_wheelNumber yX3_wheelNumber, Cond.code yX3_wheelNumber cX3_wheelNumber 3 (some .int), Cond.fieldLink RX3 12 "SquareGears" "now" "LSquareGears$Gears;", Cond.instanceMethod yX0_isLost, Cond.initialized RX0]
def wsL_wheelOf_r2 : List Cond := [Cond.selects RX0 yX0_isLost yX0_isLost, Cond.code yX0_isLost cX0_isLost 2 (some .boolean), Cond.fieldLink RX0 18 "SquareGears$Gears" "lostWheels" "I", Cond.instanceMethod yX0_patternAmplitude, Cond.selects RX0 yX0_patternAmplitude yX0_patternAmplitude, Cond.code yX0_patternAmplitude cX0_patternAmplitude 4 (some .int), Cond.fieldLink RX0 15 "SquareGears$Gears" "pattern" "[I", Cond.static yX3_wave, Cond.code yX3_wave cX3_wave 2 (some .int), Cond.methodLink RX3 240 yJ6_bitCount_0f7a4, Cond.static yJ6_bitCount_0f7a4, Cond.initialized RJ6, Cond.code yJ6_bitCount_0f7a4 cJ6_bitCount_0f7a4 1 (some .int), Cond.constant RJ6 265 (1431655765), Cond.constant RJ6 266 (858993459), Cond.constant RJ6 267 (252645135), Cond.methodLink RX0 46 yJ9_floorDiv_7cf53, Cond.static yJ9_floorDiv_7cf53, Cond.initialized RJ9, Cond.code yJ9_floorDiv_7cf53 cJ9_floorDiv_7cf53 3 (some .int), Cond.methodLink RX3 245 yX3_changesOfWave, Cond.static yX3_changesOfWave, Cond.code yX3_changesOfWave cX3_changesOfWave 3 (some .int), Cond.methodLink RX3 77 yX3_wave]
def wsL_wheelOf : List Cond := .codeWith yL_wheelOf cL_wheelOf 5 (some .int) [(0, 10, 13, 13), (0, 10, 17, 15)] :: ((wsL_wheelOf_r1 ++ wsL_wheelOf_r2) ++ wsX30 ++ wsX00 ++ (vx_atS RX3 50 "java/lang/IndexOutOfBoundsException" ["java/lang/RuntimeException", "java/lang/Exception"]).filter goodWord ++ (vx_atS RX3 61 "java/lang/IllegalArgumentException" ["java/lang/RuntimeException", "java/lang/Exception"]).filter goodWord)
def wsL_trace_r1 : List Cond := [Cond.classLink RL 13 "java/lang/IndexOutOfBoundsException", Cond.classLink RL 15 "java/lang/IllegalArgumentException", Cond.methodLink RL 51 yX3_trace, Cond.instanceMethod yX3_trace, Cond.selects RX3 yX3_trace yX3_trace, Cond.initialized RX3, Cond.code yX3_trace cX3_trace 3 (some .int), Cond.classLink RX3 46 "java/lang/IndexOutOfBoundsException", Cond.initialized "java/lang/IndexOutOfBoundsException", Cond.classLink RX3 57 "java/lang/IllegalArgumentException", Cond.initialized "java/lang/IllegalArgumentException", Cond.methodLink RX3 42 yX3_isNoPlace, Cond.static yX3_isNoPlace, Cond.code yX3_isNoPlace cX3_isNoPlace 1 (some .boolean), Cond.methodLink RX3 53 yX3_isOutside, Cond.static yX3_isOutside, Cond.code yX3_isOutside cX3_isOutside 3 (some .boolean), Cond.methodLink RX3 172 yX3_traceNumber, Cond.instanceMethod yX3_traceNumber, Cond.selects RX3 yX3_traceNumber yX3_traceNumber, Cond.code yX3_traceNumber cX3_traceNumber 4 (some .int), Cond.fieldLink RX3 12 "SquareGears" "now" "LSquareGears$Gears;", Cond.fieldLink RX3 38 "SquareGears" "row" "[I", Cond.instanceMethod yX0_traceAt]
def wsL_trace_r2 : List Cond := [Cond.initialized RX0, Cond.selects RX0 yX0_traceAt yX0_traceAt, Cond.code yX0_traceAt cX0_traceAt 4 (some .int), Cond.methodLink RX0 35 yX0_drawnAmplitude, Cond.instanceMethod yX0_drawnAmplitude, Cond.selects RX0 yX0_drawnAmplitude yX0_drawnAmplitude, Cond.code yX0_drawnAmplitude cX0_drawnAmplitude 2 (some .int), Cond.fieldLink RX0 9 "SquareGears$Gears" "amplitudes" "[I", Cond.methodLink RX0 31 yX0_isLost, Cond.instanceMethod yX0_isLost, Cond.selects RX0 yX0_isLost yX0_isLost, Cond.code yX0_isLost cX0_isLost 2 (some .boolean), Cond.fieldLink RX0 18 "SquareGears$Gears" "lostWheels" "I", Cond.static yX3_wave, Cond.code yX3_wave cX3_wave 2 (some .int), Cond.methodLink RX3 240 yJ6_bitCount_0f7a4, Cond.static yJ6_bitCount_0f7a4, Cond.initialized RJ6, Cond.code yJ6_bitCount_0f7a4 cJ6_bitCount_0f7a4 1 (some .int), Cond.constant RJ6 265 (1431655765), Cond.constant RJ6 266 (858993459), Cond.constant RJ6 267 (252645135), Cond.methodLink RX3 248 yX3_addAndSubtractHalves, Cond.instanceMethod yX3_addAndSubtractHalves]
def wsL_trace_r3 : List Cond := [Cond.selects RX3 yX3_addAndSubtractHalves yX3_addAndSubtractHalves, Cond.code yX3_addAndSubtractHalves cX3_addAndSubtractHalves 5 none]
def wsL_trace : List Cond := .codeWith yL_trace cL_trace 5 (some .int) [(0, 10, 13, 13), (0, 10, 17, 15)] :: ((wsL_trace_r1 ++ (wsL_trace_r2 ++ wsL_trace_r3)) ++ wsX30 ++ wsX00 ++ (vx_atS RX3 50 "java/lang/IndexOutOfBoundsException" ["java/lang/RuntimeException", "java/lang/Exception"]).filter goodWord ++ (vx_atS RX3 61 "java/lang/IllegalArgumentException" ["java/lang/RuntimeException", "java/lang/Exception"]).filter goodWord)
def wsL_pointOf_r1 : List Cond := [Cond.classLink RL 13 "java/lang/IndexOutOfBoundsException", Cond.classLink RL 15 "java/lang/IllegalArgumentException", Cond.methodLink RL 54 yX3_pointOf, Cond.instanceMethod yX3_pointOf, Cond.selects RX3 yX3_pointOf yX3_pointOf, Cond.initialized RX3, Cond.code yX3_pointOf cX3_pointOf 3 (some .int), Cond.classLink RX3 46 "java/lang/IndexOutOfBoundsException", Cond.initialized "java/lang/IndexOutOfBoundsException", Cond.classLink RX3 57 "java/lang/IllegalArgumentException", Cond.initialized "java/lang/IllegalArgumentException", Cond.methodLink RX3 42 yX3_isNoPlace, Cond.static yX3_isNoPlace, Cond.code yX3_isNoPlace cX3_isNoPlace 1 (some .boolean), Cond.methodLink RX3 53 yX3_isOutside, Cond.static yX3_isOutside, Cond.code yX3_isOutside cX3_isOutside 3 (some .boolean), Cond.methodLink RX3 177 yX3_pointNumber, Cond.instanceMethod yX3_pointNumber, Cond.selects RX3 yX3_pointNumber yX3_pointNumber, Cond.code yX3_pointNumber cX3_pointNumber 3 (some .int), Cond.fieldLink RX3 12 "SquareGears" "now" "LSquareGears$Gears;", Cond.instanceMethod yX0_differenceAt, Cond.initialized RX0]
def wsL_pointOf_r2 : List Cond := [Cond.selects RX0 yX0_differenceAt yX0_differenceAt, Cond.code yX0_differenceAt cX0_differenceAt 2 (some .int), Cond.fieldLink RX0 15 "SquareGears$Gears" "pattern" "[I", Cond.methodLink RX0 43 yX0_traceAt, Cond.instanceMethod yX0_traceAt, Cond.selects RX0 yX0_traceAt yX0_traceAt, Cond.code yX0_traceAt cX0_traceAt 4 (some .int), Cond.methodLink RX0 35 yX0_drawnAmplitude, Cond.instanceMethod yX0_drawnAmplitude, Cond.selects RX0 yX0_drawnAmplitude yX0_drawnAmplitude, Cond.code yX0_drawnAmplitude cX0_drawnAmplitude 2 (some .int), Cond.fieldLink RX0 9 "SquareGears$Gears" "amplitudes" "[I", Cond.methodLink RX0 31 yX0_isLost, Cond.instanceMethod yX0_isLost, Cond.selects RX0 yX0_isLost yX0_isLost, Cond.code yX0_isLost cX0_isLost 2 (some .boolean), Cond.fieldLink RX0 18 "SquareGears$Gears" "lostWheels" "I", Cond.static yX3_wave, Cond.code yX3_wave cX3_wave 2 (some .int), Cond.methodLink RX3 240 yJ6_bitCount_0f7a4, Cond.static yJ6_bitCount_0f7a4, Cond.initialized RJ6, Cond.code yJ6_bitCount_0f7a4 cJ6_bitCount_0f7a4 1 (some .int), Cond.constant RJ6 265 (1431655765)]
def wsL_pointOf_r3 : List Cond := [Cond.constant RJ6 266 (858993459), Cond.constant RJ6 267 (252645135), Cond.instanceMethod yX0_jumpAt, Cond.selects RX0 yX0_jumpAt yX0_jumpAt, Cond.code yX0_jumpAt cX0_jumpAt 2 (some .int)]
def wsL_pointOf : List Cond := .codeWith yL_pointOf cL_pointOf 5 (some .int) [(0, 10, 13, 13), (0, 10, 17, 15)] :: ((wsL_pointOf_r1 ++ (wsL_pointOf_r2 ++ wsL_pointOf_r3)) ++ wsX30 ++ wsX00 ++ (vx_atS RX3 50 "java/lang/IndexOutOfBoundsException" ["java/lang/RuntimeException", "java/lang/Exception"]).filter goodWord ++ (vx_atS RX3 61 "java/lang/IllegalArgumentException" ["java/lang/RuntimeException", "java/lang/Exception"]).filter goodWord)
def wsL_count_r1 : List Cond := [Cond.classLink RL 15 "java/lang/IllegalArgumentException", Cond.methodLink RL 57 yX3_count, Cond.instanceMethod yX3_count, Cond.selects RX3 yX3_count yX3_count, Cond.initialized RX3, Cond.code yX3_count cX3_count 2 (some .int), Cond.classLink RX3 57 "java/lang/IllegalArgumentException", Cond.initialized "java/lang/IllegalArgumentException", Cond.methodLink RX3 53 yX3_isOutside, Cond.static yX3_isOutside, Cond.code yX3_isOutside cX3_isOutside 3 (some .boolean), Cond.methodLink RX3 182 yX3_countNumber, Cond.instanceMethod yX3_countNumber, Cond.selects RX3 yX3_countNumber yX3_countNumber, Cond.code yX3_countNumber cX3_countNumber 2 (some .int), Cond.fieldLink RX3 12 "SquareGears" "now" "LSquareGears$Gears;", Cond.fieldLink RX3 27 "SquareGears" "saved" "LSquareGears$SavedGears;", Cond.instanceMethod yX0_drawingWheels, Cond.initialized RX0, Cond.selects RX0 yX0_drawingWheels yX0_drawingWheels, Cond.code yX0_drawingWheels cX0_drawingWheels 3 (some .int), Cond.fieldLink RX0 9 "SquareGears$Gears" "amplitudes" "[I", Cond.methodLink RX3 240 yJ6_bitCount_0f7a4, Cond.static yJ6_bitCount_0f7a4]
def wsL_count_r2 : List Cond := [Cond.initialized RJ6, Cond.code yJ6_bitCount_0f7a4 cJ6_bitCount_0f7a4 1 (some .int), Cond.constant RJ6 265 (1431655765), Cond.constant RJ6 266 (858993459), Cond.constant RJ6 267 (252645135), Cond.methodLink RX3 254 yX3_greatestTrace, Cond.instanceMethod yX3_greatestTrace, Cond.selects RX3 yX3_greatestTrace yX3_greatestTrace, Cond.code yX3_greatestTrace cX3_greatestTrace 3 (some .int), Cond.methodLink RX3 105 Lib.Math.max.name, Cond.static Lib.Math.max.name, Cond.initialized "java/lang/Math", Cond.code Lib.Math.max.name Lib.Math.max.code 2 (some .int), Cond.instanceMethod yX0_traceAt, Cond.selects RX0 yX0_traceAt yX0_traceAt, Cond.code yX0_traceAt cX0_traceAt 4 (some .int), Cond.methodLink RX0 35 yX0_drawnAmplitude, Cond.instanceMethod yX0_drawnAmplitude, Cond.selects RX0 yX0_drawnAmplitude yX0_drawnAmplitude, Cond.code yX0_drawnAmplitude cX0_drawnAmplitude 2 (some .int), Cond.methodLink RX0 31 yX0_isLost, Cond.instanceMethod yX0_isLost, Cond.selects RX0 yX0_isLost yX0_isLost, Cond.code yX0_isLost cX0_isLost 2 (some .boolean)]
def wsL_count_r3 : List Cond := [Cond.fieldLink RX0 18 "SquareGears$Gears" "lostWheels" "I", Cond.static yX3_wave, Cond.code yX3_wave cX3_wave 2 (some .int), Cond.methodLink RX3 257 yX3_leastTrace, Cond.instanceMethod yX3_leastTrace, Cond.selects RX3 yX3_leastTrace yX3_leastTrace, Cond.code yX3_leastTrace cX3_leastTrace 3 (some .int), Cond.methodLink RX3 102 Lib.Math.min.name, Cond.static Lib.Math.min.name, Cond.code Lib.Math.min.name Lib.Math.min.code 2 (some .int), Cond.methodLink RX3 260 yX3_greatestDifference, Cond.instanceMethod yX3_greatestDifference, Cond.selects RX3 yX3_greatestDifference yX3_greatestDifference, Cond.code yX3_greatestDifference cX3_greatestDifference 3 (some .int), Cond.methodLink RX3 83 Lib.Math.abs.name, Cond.static Lib.Math.abs.name, Cond.code Lib.Math.abs.name Lib.Math.abs.code 1 (some .int), Cond.instanceMethod yX0_differenceAt, Cond.selects RX0 yX0_differenceAt yX0_differenceAt, Cond.code yX0_differenceAt cX0_differenceAt 2 (some .int), Cond.fieldLink RX0 15 "SquareGears$Gears" "pattern" "[I", Cond.methodLink RX0 43 yX0_traceAt, Cond.methodLink RX3 263 yX3_greatestJump, Cond.instanceMethod yX3_greatestJump]
def wsL_count_r4 : List Cond := [Cond.selects RX3 yX3_greatestJump yX3_greatestJump, Cond.code yX3_greatestJump cX3_greatestJump 3 (some .int), Cond.instanceMethod yX0_jumpAt, Cond.selects RX0 yX0_jumpAt yX0_jumpAt, Cond.code yX0_jumpAt cX0_jumpAt 2 (some .int), Cond.methodLink RX3 266 yX3_overshoot, Cond.instanceMethod yX3_overshoot, Cond.selects RX3 yX3_overshoot yX3_overshoot, Cond.code yX3_overshoot cX3_overshoot 1 (some .int)]
def wsL_count : List Cond := .codeWith yL_count cL_count 4 (some .int) [(0, 9, 12, 15)] :: ((wsL_count_r1 ++ (wsL_count_r2 ++ (wsL_count_r3 ++ wsL_count_r4))) ++ wsX30 ++ wsX00 ++ wsX10 ++ (vx_atS RX3 61 "java/lang/IllegalArgumentException" ["java/lang/RuntimeException", "java/lang/Exception"]).filter goodWord)
def wsL_enough_r1 : List Cond := [Cond.classLink RL 15 "java/lang/IllegalArgumentException", Cond.methodLink RL 60 yX3_enough, Cond.instanceMethod yX3_enough, Cond.selects RX3 yX3_enough yX3_enough, Cond.initialized RX3, Cond.code yX3_enough cX3_enough 3 (some .int), Cond.classLink RX3 57 "java/lang/IllegalArgumentException", Cond.initialized "java/lang/IllegalArgumentException", Cond.constant RX3 192 (9999999), Cond.methodLink RX3 53 yX3_isOutside, Cond.static yX3_isOutside, Cond.code yX3_isOutside cX3_isOutside 3 (some .boolean), Cond.methodLink RX3 195 yX3_fewestNumber, Cond.instanceMethod yX3_fewestNumber, Cond.selects RX3 yX3_fewestNumber yX3_fewestNumber, Cond.code yX3_fewestNumber cX3_fewestNumber 4 (some .int), Cond.fieldLink RX3 38 "SquareGears" "row" "[I", Cond.fieldLink RX3 12 "SquareGears" "now" "LSquareGears$Gears;", Cond.instanceMethod yX0_errorWithout, Cond.initialized RX0, Cond.selects RX0 yX0_errorWithout yX0_errorWithout, Cond.code yX0_errorWithout cX0_errorWithout 2 (some .int), Cond.methodLink RX0 35 yX0_drawnAmplitude, Cond.instanceMethod yX0_drawnAmplitude]
def wsL_enough_r2 : List Cond := [Cond.selects RX0 yX0_drawnAmplitude yX0_drawnAmplitude, Cond.code yX0_drawnAmplitude cX0_drawnAmplitude 2 (some .int), Cond.fieldLink RX0 9 "SquareGears$Gears" "amplitudes" "[I", Cond.methodLink RX0 31 yX0_isLost, Cond.instanceMethod yX0_isLost, Cond.selects RX0 yX0_isLost yX0_isLost, Cond.code yX0_isLost cX0_isLost 2 (some .boolean), Cond.fieldLink RX0 18 "SquareGears$Gears" "lostWheels" "I", Cond.methodLink RX3 272 yX3_fewestByDropping, Cond.instanceMethod yX3_fewestByDropping, Cond.selects RX3 yX3_fewestByDropping yX3_fewestByDropping, Cond.code yX3_fewestByDropping cX3_fewestByDropping 6 (some .int), Cond.methodLink RX3 278 yX3_leastInRow, Cond.instanceMethod yX3_leastInRow, Cond.selects RX3 yX3_leastInRow yX3_leastInRow, Cond.code yX3_leastInRow cX3_leastInRow 3 (some .int), Cond.methodLink RX3 275 yX3_fewestOfAllSets, Cond.instanceMethod yX3_fewestOfAllSets, Cond.selects RX3 yX3_fewestOfAllSets yX3_fewestOfAllSets, Cond.code yX3_fewestOfAllSets cX3_fewestOfAllSets 7 (some .int)]
def wsL_enough : List Cond := .codeWith yL_enough cL_enough 5 (some .int) [(0, 10, 13, 15)] :: ((wsL_enough_r1 ++ wsL_enough_r2) ++ wsX30 ++ wsX00 ++ (vx_atS RX3 61 "java/lang/IllegalArgumentException" ["java/lang/RuntimeException", "java/lang/Exception"]).filter goodWord)
def wsL_ifTurned_r1 : List Cond := [Cond.classLink RL 13 "java/lang/IndexOutOfBoundsException", Cond.classLink RL 15 "java/lang/IllegalArgumentException", Cond.methodLink RL 63 yX3_ifTurned, Cond.instanceMethod yX3_ifTurned, Cond.selects RX3 yX3_ifTurned yX3_ifTurned, Cond.initialized RX3, Cond.code yX3_ifTurned cX3_ifTurned 3 (some .int), Cond.classLink RX3 46 "java/lang/IndexOutOfBoundsException", Cond.initialized "java/lang/IndexOutOfBoundsException", Cond.classLink RX3 57 "java/lang/IllegalArgumentException", Cond.initialized "java/lang/IllegalArgumentException", Cond.fieldLink RX3 12 "SquareGears" "now" "LSquareGears$Gears;", Cond.methodLink RX3 42 yX3_isNoPlace, Cond.static yX3_isNoPlace, Cond.code yX3_isNoPlace cX3_isNoPlace 1 (some .boolean), Cond.methodLink RX3 53 yX3_isOutside, Cond.static yX3_isOutside, Cond.code yX3_isOutside cX3_isOutside 3 (some .boolean), Cond.instanceMethod yX0_traceAt, Cond.initialized RX0, Cond.selects RX0 yX0_traceAt yX0_traceAt, Cond.code yX0_traceAt cX0_traceAt 4 (some .int), Cond.methodLink RX0 35 yX0_drawnAmplitude, Cond.instanceMethod yX0_drawnAmplitude]
def wsL_ifTurned_r2 : List Cond := [Cond.selects RX0 yX0_drawnAmplitude yX0_drawnAmplitude, Cond.code yX0_drawnAmplitude cX0_drawnAmplitude 2 (some .int), Cond.fieldLink RX0 9 "SquareGears$Gears" "amplitudes" "[I", Cond.methodLink RX0 31 yX0_isLost, Cond.instanceMethod yX0_isLost, Cond.selects RX0 yX0_isLost yX0_isLost, Cond.code yX0_isLost cX0_isLost 2 (some .boolean), Cond.fieldLink RX0 18 "SquareGears$Gears" "lostWheels" "I", Cond.static yX3_wave, Cond.code yX3_wave cX3_wave 2 (some .int), Cond.methodLink RX3 240 yJ6_bitCount_0f7a4, Cond.static yJ6_bitCount_0f7a4, Cond.initialized RJ6, Cond.code yJ6_bitCount_0f7a4 cJ6_bitCount_0f7a4 1 (some .int), Cond.constant RJ6 265 (1431655765), Cond.constant RJ6 266 (858993459), Cond.constant RJ6 267 (252645135)]
def wsL_ifTurned : List Cond := .codeWith yL_ifTurned cL_ifTurned 5 (some .int) [(0, 10, 13, 13), (0, 10, 17, 15)] :: ((wsL_ifTurned_r1 ++ wsL_ifTurned_r2) ++ wsX30 ++ wsX00 ++ (vx_atS RX3 50 "java/lang/IndexOutOfBoundsException" ["java/lang/RuntimeException", "java/lang/Exception"]).filter goodWord ++ (vx_atS RX3 61 "java/lang/IllegalArgumentException" ["java/lang/RuntimeException", "java/lang/Exception"]).filter goodWord)
def wsL_law0_r1 : List Cond := [Cond.classLink RL 8 RX3, Cond.instantiable RX3 6, Cond.initialized RX3, Cond.classLink RL 67 RX4, Cond.instantiable RX4 12, Cond.initialized RX4, Cond.arrayClass .long, Cond.methodLink RL 66 yX3_init, Cond.instanceMethod yX3_init, Cond.code yX3_init cX3_init 2 none, Cond.methodLink RX3 3 objectInit, Cond.instanceMethod objectInit, Cond.code objectInit ⟨#[0xb1]⟩ 1 none, Cond.classLink RX3 9 RX0, Cond.instantiable RX0 4, Cond.initialized RX0, Cond.fieldLink RX3 12 "SquareGears" "now" "LSquareGears$Gears;", Cond.fieldLink RX3 16 "SquareGears" "slots" "[LSquareGears$Gears;", Cond.fieldLink RX3 20 "SquareGears" "keptSlots" "I", Cond.classLink RX3 24 RX1, Cond.instantiable RX1 3, Cond.initialized RX1, Cond.fieldLink RX3 27 "SquareGears" "saved" "LSquareGears$SavedGears;", Cond.classLink RX3 31 RX2]
def wsL_law0_r2 : List Cond := [Cond.instantiable RX2 2, Cond.initialized RX2, Cond.fieldLink RX3 34 "SquareGears" "text" "LSquareGears$WheelText;", Cond.arrayClass .int, Cond.fieldLink RX3 38 "SquareGears" "row" "[I", Cond.instanceMethod yX0_init, Cond.code yX0_init cX0_init 1 none, Cond.methodLink RX0 3 objectInit, Cond.fieldLink RX0 9 "SquareGears$Gears" "amplitudes" "[I", Cond.fieldLink RX0 15 "SquareGears$Gears" "pattern" "[I", Cond.fieldLink RX0 18 "SquareGears$Gears" "lostWheels" "I", Cond.fieldLink RX0 22 "SquareGears$Gears" "changedByFits" "I", Cond.instanceMethod yX1_init, Cond.code yX1_init cX1_init 2 none, Cond.methodLink RX1 1 objectInit, Cond.classLink RX1 9 RX0, Cond.fieldLink RX1 11 "SquareGears$SavedGears" "ring" "[LSquareGears$Gears;", Cond.fieldLink RX1 15 "SquareGears$SavedGears" "next" "I", Cond.fieldLink RX1 19 "SquareGears$SavedGears" "count" "I", Cond.instanceMethod yX2_init, Cond.code yX2_init cX2_init 1 none, Cond.methodLink RX2 3 objectInit, Cond.arrayClass .char, Cond.fieldLink RX2 11 "SquareGears$WheelText" "signs" "[C"]
def wsL_law0_r3 : List Cond := [Cond.fieldLink RX2 15 "SquareGears$WheelText" "length" "I", Cond.methodLink RL 69 yX4_init, Cond.instanceMethod yX4_init, Cond.code yX4_init cX4_init 1 none, Cond.methodLink RX4 1 objectInit, Cond.fieldLink RX4 7 "SquareGearsModel" "z" "[I", Cond.fieldLink RX4 13 "SquareGearsModel" "saved" "[I", Cond.fieldLink RX4 16 "SquareGearsModel" "slots" "[I", Cond.arrayClass .boolean, Cond.fieldLink RX4 19 "SquareGearsModel" "isKept" "[Z", Cond.fieldLink RX4 23 "SquareGearsModel" "text" "[I", Cond.fieldLink RX4 26 "SquareGearsModel" "isOut" "[Z", Cond.methodLink RL 70 yL_set, Cond.static yL_set, Cond.initialized RL, Cond.codeWith yL_set cL_set 5 (some .int) [(0, 10, 13, 13), (0, 10, 17, 15)], Cond.classLink RL 13 "java/lang/IndexOutOfBoundsException", Cond.classLink RL 15 "java/lang/IllegalArgumentException", Cond.methodLink RL 7 yX3_set, Cond.instanceMethod yX3_set, Cond.selects RX3 yX3_set yX3_set, Cond.code yX3_set cX3_set 4 (some .int), Cond.classLink RX3 46 "java/lang/IndexOutOfBoundsException", Cond.initialized "java/lang/IndexOutOfBoundsException"]
def wsL_law0_r4 : List Cond := [Cond.classLink RX3 57 "java/lang/IllegalArgumentException", Cond.initialized "java/lang/IllegalArgumentException", Cond.methodLink RX3 42 yX3_isNoPlace, Cond.static yX3_isNoPlace, Cond.code yX3_isNoPlace cX3_isNoPlace 1 (some .boolean), Cond.methodLink RX3 53 yX3_isOutside, Cond.static yX3_isOutside, Cond.code yX3_isOutside cX3_isOutside 3 (some .boolean), Cond.instanceMethod yX1_push, Cond.selects RX1 yX1_push yX1_push, Cond.code yX1_push cX1_push 2 none, Cond.methodLink RX1 27 Lib.Math.min.name, Cond.static Lib.Math.min.name, Cond.initialized "java/lang/Math", Cond.code Lib.Math.min.name Lib.Math.min.code 2 (some .int), Cond.instanceMethod yX0_takeFrom, Cond.selects RX0 yX0_takeFrom yX0_takeFrom, Cond.code yX0_takeFrom cX0_takeFrom 2 none, Cond.methodLink RX0 25 arraycopyName, Cond.native arraycopyName, Cond.static arraycopyName, Cond.initialized "java/lang/System", Cond.methodLink RL 75 yX4_set, Cond.instanceMethod yX4_set]
def wsL_law0_r5 : List Cond := [Cond.selects RX4 yX4_set yX4_set, Cond.code yX4_set cX4_set 3 (some .int), Cond.fieldLink RX4 29 "SquareGearsModel" "thrown" "I", Cond.methodLink RX4 58 yX4_isOne, Cond.static yX4_isOne, Cond.code yX4_isOne cX4_isOne 1 (some .boolean), Cond.methodLink RX4 33 yX4_in, Cond.static yX4_in, Cond.code yX4_in cX4_in 3 (some .boolean), Cond.methodLink RX4 62 yX4_change, Cond.instanceMethod yX4_change, Cond.selects RX4 yX4_change yX4_change, Cond.code yX4_change cX4_change 4 (some .int), Cond.methodLink RX4 55 yX4_record, Cond.instanceMethod yX4_record, Cond.selects RX4 yX4_record yX4_record, Cond.code yX4_record cX4_record 2 none, Cond.fieldLink RX4 48 "SquareGearsModel" "saves" "I", Cond.methodLink RL 76 yX4_thrown, Cond.instanceMethod yX4_thrown, Cond.selects RX4 yX4_thrown yX4_thrown, Cond.code yX4_thrown cX4_thrown 1 (some .int), Cond.methodLink RL 79 yL_lose, Cond.static yL_lose]
def wsL_law0_r6 : List Cond := [Cond.codeWith yL_lose cL_lose 4 (some .int) [(0, 9, 12, 13)], Cond.methodLink RL 17 yX3_lose, Cond.instanceMethod yX3_lose, Cond.selects RX3 yX3_lose yX3_lose, Cond.code yX3_lose cX3_lose 2 (some .int), Cond.instanceMethod yX0_isLost, Cond.selects RX0 yX0_isLost yX0_isLost, Cond.code yX0_isLost cX0_isLost 2 (some .boolean), Cond.methodLink RL 82 yX4_lose, Cond.instanceMethod yX4_lose, Cond.selects RX4 yX4_lose yX4_lose, Cond.code yX4_lose cX4_lose 2 (some .int), Cond.methodLink RL 83 yL_turn, Cond.static yL_turn, Cond.codeWith yL_turn cL_turn 4 (some .int) [(0, 9, 12, 15)], Cond.methodLink RL 21 yX3_turn, Cond.instanceMethod yX3_turn, Cond.selects RX3 yX3_turn yX3_turn, Cond.code yX3_turn cX3_turn 4 (some .int), Cond.methodLink RX3 77 yX3_wave, Cond.static yX3_wave, Cond.code yX3_wave cX3_wave 2 (some .int), Cond.methodLink RX3 240 yJ6_bitCount_0f7a4, Cond.static yJ6_bitCount_0f7a4]
def wsL_law0_r7 : List Cond := [Cond.initialized RJ6, Cond.code yJ6_bitCount_0f7a4 cJ6_bitCount_0f7a4 1 (some .int), Cond.constant RJ6 265 (1431655765), Cond.constant RJ6 266 (858993459), Cond.constant RJ6 267 (252645135), Cond.methodLink RL 85 yX4_turn, Cond.instanceMethod yX4_turn, Cond.selects RX4 yX4_turn yX4_turn, Cond.code yX4_turn cX4_turn 4 (some .int), Cond.methodLink RX4 41 yX4_wave, Cond.static yX4_wave, Cond.code yX4_wave cX4_wave 3 (some .int), Cond.methodLink RL 86 yL_drop, Cond.static yL_drop, Cond.codeWith yL_drop cL_drop 4 (some .int) [(0, 9, 12, 15)], Cond.methodLink RL 24 yX3_drop, Cond.instanceMethod yX3_drop, Cond.selects RX3 yX3_drop yX3_drop, Cond.code yX3_drop cX3_drop 4 (some .int), Cond.methodLink RX3 83 Lib.Math.abs.name, Cond.static Lib.Math.abs.name, Cond.code Lib.Math.abs.name Lib.Math.abs.code 1 (some .int), Cond.methodLink RL 88 yX4_drop, Cond.instanceMethod yX4_drop]
def wsL_law0_r8 : List Cond := [Cond.selects RX4 yX4_drop yX4_drop, Cond.code yX4_drop cX4_drop 4 (some .int), Cond.methodLink RX4 51 yX4_turning, Cond.instanceMethod yX4_turning, Cond.selects RX4 yX4_turning yX4_turning, Cond.code yX4_turning cX4_turning 3 (some .int), Cond.methodLink RX4 65 yX4_amount, Cond.static yX4_amount, Cond.code yX4_amount cX4_amount 1 (some .int), Cond.methodLink RL 89 yL_point, Cond.static yL_point, Cond.codeWith yL_point cL_point 5 (some .int) [(0, 10, 13, 13), (0, 10, 17, 15)], Cond.methodLink RL 27 yX3_point, Cond.instanceMethod yX3_point, Cond.selects RX3 yX3_point yX3_point, Cond.code yX3_point cX3_point 4 (some .int), Cond.methodLink RL 91 yX4_point, Cond.instanceMethod yX4_point, Cond.selects RX4 yX4_point yX4_point, Cond.code yX4_point cX4_point 3 (some .int), Cond.methodLink RL 92 yX3_copy, Cond.instanceMethod yX3_copy, Cond.selects RX3 yX3_copy yX3_copy, Cond.code yX3_copy cX3_copy 4 (some .int)]
def wsL_law0_r9 : List Cond := [Cond.instanceMethod yX0_traceAt, Cond.selects RX0 yX0_traceAt yX0_traceAt, Cond.code yX0_traceAt cX0_traceAt 4 (some .int), Cond.methodLink RX0 35 yX0_drawnAmplitude, Cond.instanceMethod yX0_drawnAmplitude, Cond.selects RX0 yX0_drawnAmplitude yX0_drawnAmplitude, Cond.code yX0_drawnAmplitude cX0_drawnAmplitude 2 (some .int), Cond.methodLink RX0 31 yX0_isLost, Cond.methodLink RL 95 yX4_copy, Cond.instanceMethod yX4_copy, Cond.selects RX4 yX4_copy yX4_copy, Cond.code yX4_copy cX4_copy 3 (some .int), Cond.methodLink RX4 68 yX4_difference, Cond.instanceMethod yX4_difference, Cond.selects RX4 yX4_difference yX4_difference, Cond.code yX4_difference cX4_difference 2 (some .int), Cond.methodLink RX4 45 yX4_traceAt, Cond.instanceMethod yX4_traceAt, Cond.selects RX4 yX4_traceAt yX4_traceAt, Cond.code yX4_traceAt cX4_traceAt 4 (some .int), Cond.methodLink RX4 37 yX4_used, Cond.instanceMethod yX4_used, Cond.selects RX4 yX4_used yX4_used, Cond.code yX4_used cX4_used 2 (some .int)]
def wsL_law0_r10 : List Cond := [Cond.methodLink RL 96 yX3_fit, Cond.instanceMethod yX3_fit, Cond.selects RX3 yX3_fit yX3_fit, Cond.code yX3_fit cX3_fit 4 (some .int), Cond.methodLink RX3 102 Lib.Math.min.name, Cond.methodLink RX3 105 Lib.Math.max.name, Cond.static Lib.Math.max.name, Cond.code Lib.Math.max.name Lib.Math.max.code 2 (some .int), Cond.instanceMethod yX0_patternAmplitude, Cond.selects RX0 yX0_patternAmplitude yX0_patternAmplitude, Cond.code yX0_patternAmplitude cX0_patternAmplitude 4 (some .int), Cond.methodLink RX0 46 yJ9_floorDiv_7cf53, Cond.static yJ9_floorDiv_7cf53, Cond.initialized RJ9, Cond.code yJ9_floorDiv_7cf53 cJ9_floorDiv_7cf53 3 (some .int), Cond.methodLink RL 99 yX4_fit, Cond.instanceMethod yX4_fit, Cond.selects RX4 yX4_fit yX4_fit, Cond.code yX4_fit cX4_fit 4 (some .int), Cond.methodLink RX4 71 yX4_ofPattern, Cond.instanceMethod yX4_ofPattern, Cond.selects RX4 yX4_ofPattern yX4_ofPattern, Cond.code yX4_ofPattern cX4_ofPattern 4 (some .int), Cond.methodLink RL 100 yL_append]
def wsL_law0_r11 : List Cond := [Cond.static yL_append, Cond.codeWith yL_append cL_append 4 (some .int) [(0, 9, 12, 15), (0, 9, 15, 33)], Cond.classLink RL 33 "java/lang/IllegalStateException", Cond.methodLink RL 30 yX3_append, Cond.instanceMethod yX3_append, Cond.selects RX3 yX3_append yX3_append, Cond.code yX3_append cX3_append 2 (some .int), Cond.classLink RX3 117 "java/lang/IllegalStateException", Cond.initialized "java/lang/IllegalStateException", Cond.instanceMethod yX2_isFull, Cond.selects RX2 yX2_isFull yX2_isFull, Cond.code yX2_isFull cX2_isFull 1 (some .boolean), Cond.instanceMethod yX2_put, Cond.selects RX2 yX2_put yX2_put, Cond.code yX2_put cX2_put 2 none, Cond.methodLink RL 102 yX4_append, Cond.instanceMethod yX4_append, Cond.selects RX4 yX4_append yX4_append, Cond.code yX4_append cX4_append 2 (some .int), Cond.fieldLink RX4 74 "SquareGearsModel" "length" "I", Cond.methodLink RL 103 yX3_clearBuffer, Cond.instanceMethod yX3_clearBuffer, Cond.selects RX3 yX3_clearBuffer yX3_clearBuffer, Cond.code yX3_clearBuffer cX3_clearBuffer 2 (some .int)]
def wsL_law0_r12 : List Cond := [Cond.instanceMethod yX2_empty, Cond.selects RX2 yX2_empty yX2_empty, Cond.code yX2_empty cX2_empty 1 none, Cond.methodLink RL 106 yX4_clearBuffer, Cond.instanceMethod yX4_clearBuffer, Cond.selects RX4 yX4_clearBuffer yX4_clearBuffer, Cond.code yX4_clearBuffer cX4_clearBuffer 2 (some .int), Cond.methodLink RL 107 yX3_firstError, Cond.instanceMethod yX3_firstError, Cond.selects RX3 yX3_firstError yX3_firstError, Cond.code yX3_firstError cX3_firstError 1 (some .int), Cond.instanceMethod yX2_errorPlace, Cond.selects RX2 yX2_errorPlace yX2_errorPlace, Cond.code yX2_errorPlace cX2_errorPlace 3 (some .int), Cond.methodLink RX2 19 yX2_placeBehind, Cond.static yX2_placeBehind, Cond.code yX2_placeBehind cX2_placeBehind 2 (some .int), Cond.methodLink RX2 23 yX2_isLetter, Cond.static yX2_isLetter, Cond.code yX2_isLetter cX2_isLetter 1 (some .boolean), Cond.methodLink RX2 27 yX2_placeBehindFirstDigit, Cond.static yX2_placeBehindFirstDigit, Cond.code yX2_placeBehindFirstDigit cX2_placeBehindFirstDigit 1 (some .int), Cond.methodLink RX2 31 yX2_isDigit]
def wsL_law0_r13 : List Cond := [Cond.static yX2_isDigit, Cond.code yX2_isDigit cX2_isDigit 1 (some .boolean), Cond.methodLink RX2 34 yX2_placeBehindWheel, Cond.static yX2_placeBehindWheel, Cond.code yX2_placeBehindWheel cX2_placeBehindWheel 1 (some .int), Cond.methodLink RL 110 yX4_firstError, Cond.instanceMethod yX4_firstError, Cond.selects RX4 yX4_firstError yX4_firstError, Cond.code yX4_firstError cX4_firstError 2 (some .int), Cond.methodLink RX4 93 yX4_findError, Cond.instanceMethod yX4_findError, Cond.selects RX4 yX4_findError yX4_findError, Cond.code yX4_findError cX4_findError 2 (some .int), Cond.methodLink RX4 90 yX4_readPart, Cond.instanceMethod yX4_readPart, Cond.selects RX4 yX4_readPart yX4_readPart, Cond.code yX4_readPart cX4_readPart 4 (some .int), Cond.fieldLink RX4 80 "SquareGearsModel" "wheel" "I", Cond.fieldLink RX4 83 "SquareGearsModel" "isLoss" "Z", Cond.fieldLink RX4 87 "SquareGearsModel" "amplitude" "I", Cond.methodLink RX4 77 yX4_at, Cond.instanceMethod yX4_at, Cond.selects RX4 yX4_at yX4_at, Cond.code yX4_at cX4_at 2 (some .int)]
def wsL_law0_r14 : List Cond := [Cond.methodLink RL 111 yL_load, Cond.static yL_load, Cond.codeWith yL_load cL_load 3 (some .int) [(0, 8, 11, 15)], Cond.methodLink RL 35 yX3_load, Cond.instanceMethod yX3_load, Cond.selects RX3 yX3_load yX3_load, Cond.code yX3_load cX3_load 1 (some .int), Cond.instanceMethod yX2_tellsWheels, Cond.selects RX2 yX2_tellsWheels yX2_tellsWheels, Cond.code yX2_tellsWheels cX2_tellsWheels 3 (some .boolean), Cond.instanceMethod yX2_tellTo, Cond.selects RX2 yX2_tellTo yX2_tellTo, Cond.code yX2_tellTo cX2_tellTo 7 none, Cond.instanceMethod yX0_drawingWheels, Cond.selects RX0 yX0_drawingWheels yX0_drawingWheels, Cond.code yX0_drawingWheels cX0_drawingWheels 3 (some .int), Cond.methodLink RL 114 yX4_load, Cond.instanceMethod yX4_load, Cond.selects RX4 yX4_load yX4_load, Cond.code yX4_load cX4_load 2 (some .int), Cond.methodLink RL 115 yL_keep, Cond.static yL_keep, Cond.codeWith yL_keep cL_keep 4 (some .int) [(0, 9, 12, 15)], Cond.methodLink RL 39 yX3_keep]
def wsL_law0_r15 : List Cond := [Cond.instanceMethod yX3_keep, Cond.selects RX3 yX3_keep yX3_keep, Cond.code yX3_keep cX3_keep 2 (some .int), Cond.methodLink RL 117 yX4_keep, Cond.instanceMethod yX4_keep, Cond.selects RX4 yX4_keep yX4_keep, Cond.code yX4_keep cX4_keep 3 (some .int), Cond.methodLink RL 118 yL_goBack, Cond.static yL_goBack, Cond.codeWith yL_goBack cL_goBack 4 (some .int) [(0, 9, 12, 15), (0, 9, 15, 33)], Cond.methodLink RL 42 yX3_goBack, Cond.instanceMethod yX3_goBack, Cond.selects RX3 yX3_goBack yX3_goBack, Cond.code yX3_goBack cX3_goBack 2 (some .int), Cond.methodLink RX3 152 yX3_hasSnapshot, Cond.instanceMethod yX3_hasSnapshot, Cond.selects RX3 yX3_hasSnapshot yX3_hasSnapshot, Cond.code yX3_hasSnapshot cX3_hasSnapshot 2 (some .boolean), Cond.methodLink RL 120 yX4_goBack, Cond.instanceMethod yX4_goBack, Cond.selects RX4 yX4_goBack yX4_goBack, Cond.code yX4_goBack cX4_goBack 3 (some .int), Cond.methodLink RL 121 yL_undo, Cond.static yL_undo]
def wsL_law0_r16 : List Cond := [Cond.codeWith yL_undo cL_undo 3 (some .int) [(0, 8, 11, 33)], Cond.methodLink RL 45 yX3_undo, Cond.instanceMethod yX3_undo, Cond.selects RX3 yX3_undo yX3_undo, Cond.code yX3_undo cX3_undo 1 (some .int), Cond.instanceMethod yX1_popInto, Cond.selects RX1 yX1_popInto yX1_popInto, Cond.code yX1_popInto cX1_popInto 2 none, Cond.methodLink RL 123 yX4_undo, Cond.instanceMethod yX4_undo, Cond.selects RX4 yX4_undo yX4_undo, Cond.code yX4_undo cX4_undo 2 (some .int), Cond.methodLink RL 124 yL_wheelOf, Cond.static yL_wheelOf, Cond.codeWith yL_wheelOf cL_wheelOf 5 (some .int) [(0, 10, 13, 13), (0, 10, 17, 15)], Cond.methodLink RL 48 yX3_wheelOf, Cond.instanceMethod yX3_wheelOf, Cond.selects RX3 yX3_wheelOf yX3_wheelOf, Cond.code yX3_wheelOf cX3_wheelOf 3 (some .int), Cond.methodLink RX3 167 yX3_wheelNumber, Cond.instanceMethod yX3_wheelNumber, Cond.selects RX3 yX3_wheelNumber yX3_wheelNumber, Cond.code yX3_wheelNumber cX3_wheelNumber 3 (some .int), Cond.methodLink RX3 245 yX3_changesOfWave]
def wsL_law0_r17 : List Cond := [Cond.static yX3_changesOfWave, Cond.code yX3_changesOfWave cX3_changesOfWave 3 (some .int), Cond.methodLink RL 126 yX4_wheelOf, Cond.instanceMethod yX4_wheelOf, Cond.selects RX4 yX4_wheelOf yX4_wheelOf, Cond.code yX4_wheelOf cX4_wheelOf 3 (some .int), Cond.methodLink RX4 99 yX4_wheelNow, Cond.instanceMethod yX4_wheelNow, Cond.selects RX4 yX4_wheelNow yX4_wheelNow, Cond.code yX4_wheelNow cX4_wheelNow 3 (some .int), Cond.methodLink RX4 96 yX4_changes, Cond.static yX4_changes, Cond.code yX4_changes cX4_changes 3 (some .int), Cond.methodLink RL 127 yL_trace, Cond.static yL_trace, Cond.codeWith yL_trace cL_trace 5 (some .int) [(0, 10, 13, 13), (0, 10, 17, 15)], Cond.methodLink RL 51 yX3_trace, Cond.instanceMethod yX3_trace, Cond.selects RX3 yX3_trace yX3_trace, Cond.code yX3_trace cX3_trace 3 (some .int), Cond.methodLink RX3 172 yX3_traceNumber, Cond.instanceMethod yX3_traceNumber, Cond.selects RX3 yX3_traceNumber yX3_traceNumber, Cond.code yX3_traceNumber cX3_traceNumber 4 (some .int)]
def wsL_law0_r18 : List Cond := [Cond.methodLink RX3 248 yX3_addAndSubtractHalves, Cond.instanceMethod yX3_addAndSubtractHalves, Cond.selects RX3 yX3_addAndSubtractHalves yX3_addAndSubtractHalves, Cond.code yX3_addAndSubtractHalves cX3_addAndSubtractHalves 5 none, Cond.methodLink RL 129 yX4_trace, Cond.instanceMethod yX4_trace, Cond.selects RX4 yX4_trace yX4_trace, Cond.code yX4_trace cX4_trace 3 (some .int), Cond.methodLink RL 130 yL_pointOf, Cond.static yL_pointOf, Cond.codeWith yL_pointOf cL_pointOf 5 (some .int) [(0, 10, 13, 13), (0, 10, 17, 15)], Cond.methodLink RL 54 yX3_pointOf, Cond.instanceMethod yX3_pointOf, Cond.selects RX3 yX3_pointOf yX3_pointOf, Cond.code yX3_pointOf cX3_pointOf 3 (some .int), Cond.methodLink RX3 177 yX3_pointNumber, Cond.instanceMethod yX3_pointNumber, Cond.selects RX3 yX3_pointNumber yX3_pointNumber, Cond.code yX3_pointNumber cX3_pointNumber 3 (some .int), Cond.instanceMethod yX0_differenceAt, Cond.selects RX0 yX0_differenceAt yX0_differenceAt, Cond.code yX0_differenceAt cX0_differenceAt 2 (some .int), Cond.methodLink RX0 43 yX0_traceAt, Cond.instanceMethod yX0_jumpAt]
def wsL_law0_r19 : List Cond := [Cond.selects RX0 yX0_jumpAt yX0_jumpAt, Cond.code yX0_jumpAt cX0_jumpAt 2 (some .int), Cond.methodLink RL 132 yX4_pointOf, Cond.instanceMethod yX4_pointOf, Cond.selects RX4 yX4_pointOf yX4_pointOf, Cond.code yX4_pointOf cX4_pointOf 3 (some .int), Cond.methodLink RX4 105 yX4_pointNow, Cond.instanceMethod yX4_pointNow, Cond.selects RX4 yX4_pointNow yX4_pointNow, Cond.code yX4_pointNow cX4_pointNow 3 (some .int), Cond.methodLink RX4 102 yX4_jump, Cond.instanceMethod yX4_jump, Cond.selects RX4 yX4_jump yX4_jump, Cond.code yX4_jump cX4_jump 2 (some .int), Cond.methodLink RL 133 yL_count, Cond.static yL_count, Cond.codeWith yL_count cL_count 4 (some .int) [(0, 9, 12, 15)], Cond.methodLink RL 57 yX3_count, Cond.instanceMethod yX3_count, Cond.selects RX3 yX3_count yX3_count, Cond.code yX3_count cX3_count 2 (some .int), Cond.methodLink RX3 182 yX3_countNumber, Cond.instanceMethod yX3_countNumber, Cond.selects RX3 yX3_countNumber yX3_countNumber]
def wsL_law0_r20 : List Cond := [Cond.code yX3_countNumber cX3_countNumber 2 (some .int), Cond.methodLink RX3 254 yX3_greatestTrace, Cond.instanceMethod yX3_greatestTrace, Cond.selects RX3 yX3_greatestTrace yX3_greatestTrace, Cond.code yX3_greatestTrace cX3_greatestTrace 3 (some .int), Cond.methodLink RX3 257 yX3_leastTrace, Cond.instanceMethod yX3_leastTrace, Cond.selects RX3 yX3_leastTrace yX3_leastTrace, Cond.code yX3_leastTrace cX3_leastTrace 3 (some .int), Cond.methodLink RX3 260 yX3_greatestDifference, Cond.instanceMethod yX3_greatestDifference, Cond.selects RX3 yX3_greatestDifference yX3_greatestDifference, Cond.code yX3_greatestDifference cX3_greatestDifference 3 (some .int), Cond.methodLink RX3 263 yX3_greatestJump, Cond.instanceMethod yX3_greatestJump, Cond.selects RX3 yX3_greatestJump yX3_greatestJump, Cond.code yX3_greatestJump cX3_greatestJump 3 (some .int), Cond.methodLink RX3 266 yX3_overshoot, Cond.instanceMethod yX3_overshoot, Cond.selects RX3 yX3_overshoot yX3_overshoot, Cond.code yX3_overshoot cX3_overshoot 1 (some .int), Cond.methodLink RL 135 yX4_count, Cond.instanceMethod yX4_count, Cond.selects RX4 yX4_count yX4_count]
def wsL_law0_r21 : List Cond := [Cond.code yX4_count cX4_count 2 (some .int), Cond.methodLink RX4 123 yX4_countNow, Cond.instanceMethod yX4_countNow, Cond.selects RX4 yX4_countNow yX4_countNow, Cond.code yX4_countNow cX4_countNow 2 (some .int), Cond.methodLink RX4 114 yX4_lost, Cond.instanceMethod yX4_lost, Cond.selects RX4 yX4_lost yX4_lost, Cond.code yX4_lost cX4_lost 3 (some .int), Cond.methodLink RX4 108 yX4_greatestTrace, Cond.instanceMethod yX4_greatestTrace, Cond.selects RX4 yX4_greatestTrace yX4_greatestTrace, Cond.code yX4_greatestTrace cX4_greatestTrace 3 (some .int), Cond.methodLink RX4 111 yX4_leastTrace, Cond.instanceMethod yX4_leastTrace, Cond.selects RX4 yX4_leastTrace yX4_leastTrace, Cond.code yX4_leastTrace cX4_leastTrace 3 (some .int), Cond.methodLink RX4 117 yX4_greatest, Cond.instanceMethod yX4_greatest, Cond.selects RX4 yX4_greatest yX4_greatest, Cond.code yX4_greatest cX4_greatest 5 (some .int), Cond.methodLink RX4 120 yX4_overshoot, Cond.instanceMethod yX4_overshoot, Cond.selects RX4 yX4_overshoot yX4_overshoot]
def wsL_law0_r22 : List Cond := [Cond.code yX4_overshoot cX4_overshoot 3 (some .int), Cond.methodLink RL 136 yX3_findLost, Cond.instanceMethod yX3_findLost, Cond.selects RX3 yX3_findLost yX3_findLost, Cond.code yX3_findLost cX3_findLost 3 (some .int), Cond.methodLink RX3 188 yX3_isDifference, Cond.instanceMethod yX3_isDifference, Cond.selects RX3 yX3_isDifference yX3_isDifference, Cond.code yX3_isDifference cX3_isDifference 4 (some .boolean), Cond.methodLink RL 139 yX4_findLost, Cond.instanceMethod yX4_findLost, Cond.selects RX4 yX4_findLost yX4_findLost, Cond.code yX4_findLost cX4_findLost 1 (some .int), Cond.methodLink RX4 126 yX4_explaining, Cond.instanceMethod yX4_explaining, Cond.selects RX4 yX4_explaining yX4_explaining, Cond.code yX4_explaining cX4_explaining 5 (some .int), Cond.methodLink RL 140 yL_enough, Cond.static yL_enough, Cond.codeWith yL_enough cL_enough 5 (some .int) [(0, 10, 13, 15)], Cond.methodLink RL 60 yX3_enough, Cond.instanceMethod yX3_enough, Cond.selects RX3 yX3_enough yX3_enough, Cond.code yX3_enough cX3_enough 3 (some .int)]
def wsL_law0_r23 : List Cond := [Cond.constant RX3 192 (9999999), Cond.methodLink RX3 195 yX3_fewestNumber, Cond.instanceMethod yX3_fewestNumber, Cond.selects RX3 yX3_fewestNumber yX3_fewestNumber, Cond.code yX3_fewestNumber cX3_fewestNumber 4 (some .int), Cond.instanceMethod yX0_errorWithout, Cond.selects RX0 yX0_errorWithout yX0_errorWithout, Cond.code yX0_errorWithout cX0_errorWithout 2 (some .int), Cond.methodLink RX3 272 yX3_fewestByDropping, Cond.instanceMethod yX3_fewestByDropping, Cond.selects RX3 yX3_fewestByDropping yX3_fewestByDropping, Cond.code yX3_fewestByDropping cX3_fewestByDropping 6 (some .int), Cond.methodLink RX3 278 yX3_leastInRow, Cond.instanceMethod yX3_leastInRow, Cond.selects RX3 yX3_leastInRow yX3_leastInRow, Cond.code yX3_leastInRow cX3_leastInRow 3 (some .int), Cond.methodLink RX3 275 yX3_fewestOfAllSets, Cond.instanceMethod yX3_fewestOfAllSets, Cond.selects RX3 yX3_fewestOfAllSets yX3_fewestOfAllSets, Cond.code yX3_fewestOfAllSets cX3_fewestOfAllSets 7 (some .int), Cond.methodLink RL 142 yX4_enough, Cond.instanceMethod yX4_enough, Cond.selects RX4 yX4_enough yX4_enough, Cond.code yX4_enough cX4_enough 3 (some .int)]
def wsL_law0_r24 : List Cond := [Cond.constant RX4 129 (9999999), Cond.methodLink RX4 130 yX4_fewest, Cond.instanceMethod yX4_fewest, Cond.selects RX4 yX4_fewest yX4_fewest, Cond.code yX4_fewest cX4_fewest 7 (some .int), Cond.methodLink RL 143 yL_ifTurned, Cond.static yL_ifTurned, Cond.codeWith yL_ifTurned cL_ifTurned 5 (some .int) [(0, 10, 13, 13), (0, 10, 17, 15)], Cond.methodLink RL 63 yX3_ifTurned, Cond.instanceMethod yX3_ifTurned, Cond.selects RX3 yX3_ifTurned yX3_ifTurned, Cond.code yX3_ifTurned cX3_ifTurned 3 (some .int), Cond.methodLink RL 145 yX4_ifTurned, Cond.instanceMethod yX4_ifTurned, Cond.selects RX4 yX4_ifTurned yX4_ifTurned, Cond.code yX4_ifTurned cX4_ifTurned 3 (some .int), Cond.methodLink RL 146 yX3_bestTurn, Cond.instanceMethod yX3_bestTurn, Cond.selects RX3 yX3_bestTurn yX3_bestTurn, Cond.code yX3_bestTurn cX3_bestTurn 5 (some .int), Cond.methodLink RX3 198 yX3_differencesIfTurned, Cond.instanceMethod yX3_differencesIfTurned, Cond.selects RX3 yX3_differencesIfTurned yX3_differencesIfTurned, Cond.code yX3_differencesIfTurned cX3_differencesIfTurned 4 (some .int)]
def wsL_law0_r25 : List Cond := [Cond.methodLink RL 149 yX4_bestTurn, Cond.instanceMethod yX4_bestTurn, Cond.selects RX4 yX4_bestTurn yX4_bestTurn, Cond.code yX4_bestTurn cX4_bestTurn 1 (some .int), Cond.methodLink RX4 136 yX4_nearestTurn, Cond.instanceMethod yX4_nearestTurn, Cond.selects RX4 yX4_nearestTurn yX4_nearestTurn, Cond.code yX4_nearestTurn cX4_nearestTurn 3 (some .int), Cond.methodLink RX4 133 yX4_far, Cond.instanceMethod yX4_far, Cond.selects RX4 yX4_far yX4_far, Cond.code yX4_far cX4_far 4 (some .int), Cond.methodLink RL 150 yX3_mainShare, Cond.instanceMethod yX3_mainShare, Cond.selects RX3 yX3_mainShare yX3_mainShare, Cond.code yX3_mainShare cX3_mainShare 5 (some .double), Cond.methodLink RL 154 yX4_mainShare, Cond.instanceMethod yX4_mainShare, Cond.selects RX4 yX4_mainShare yX4_mainShare, Cond.code yX4_mainShare cX4_mainShare 1 (some .double), Cond.methodLink RX4 139 yX4_share, Cond.instanceMethod yX4_share, Cond.selects RX4 yX4_share yX4_share, Cond.code yX4_share cX4_share 5 (some .double)]
def wsL_law0_r26 : List Cond := [Cond.methodLink RL 155 yX3_digest, Cond.instanceMethod yX3_digest, Cond.selects RX3 yX3_digest yX3_digest, Cond.code yX3_digest cX3_digest 4 (some .long), Cond.constantLong RX3 204 (3733), Cond.constant RX3 224 (100000), Cond.methodLink RX3 206 yX3_hashed, Cond.static yX3_hashed, Cond.code yX3_hashed cX3_hashed 4 (some .long), Cond.constantLong RX3 281 (31), Cond.methodLink RX3 210 yX3_hashedWheels, Cond.instanceMethod yX3_hashedWheels, Cond.selects RX3 yX3_hashedWheels yX3_hashedWheels, Cond.code yX3_hashedWheels cX3_hashedWheels 7 (some .long), Cond.methodLink RX3 214 yX3_hashedPoints, Cond.instanceMethod yX3_hashedPoints, Cond.selects RX3 yX3_hashedPoints yX3_hashedPoints, Cond.code yX3_hashedPoints cX3_hashedPoints 7 (some .long), Cond.methodLink RX3 217 yX3_findLost, Cond.methodLink RX3 220 yX3_hashedFewest, Cond.instanceMethod yX3_hashedFewest, Cond.selects RX3 yX3_hashedFewest yX3_hashedFewest, Cond.code yX3_hashedFewest cX3_hashedFewest 6 (some .long), Cond.methodLink RX3 225 yX3_bestTurn]
def wsL_law0_r27 : List Cond := [Cond.methodLink RX3 228 yX3_mainShare, Cond.methodLink RX3 232 yX3_bitsOfShare, Cond.static yX3_bitsOfShare, Cond.code yX3_bitsOfShare cX3_bitsOfShare 8 (some .long), Cond.constantLong RX3 283 (1023), Cond.constantDouble RX3 285 (4611686018427387904), Cond.constantDouble RX3 287 (4841369599423283200), Cond.constantLong RX3 289 (4503599627370496), Cond.methodLink RL 159 yX4_digest, Cond.instanceMethod yX4_digest, Cond.selects RX4 yX4_digest yX4_digest, Cond.code yX4_digest cX4_digest 5 (some .long), Cond.constantLong RX4 143 (3733), Cond.constantLong RX4 145 (31), Cond.constant RX4 147 (100000), Cond.methodLink RX4 148 yJxe99ae_doubleToLongBits_ccdee, Cond.static yJxe99ae_doubleToLongBits_ccdee, Cond.initialized RJxe99ae, Cond.code yJxe99ae_doubleToLongBits_ccdee cJxe99ae_doubleToLongBits_ccdee 2 (some .long), Cond.methodLink RJxe99ae 134 ⟨"java/lang/Double", "doubleToRawLongBits", "(D)J"⟩, Cond.native ⟨"java/lang/Double", "doubleToRawLongBits", "(D)J"⟩, Cond.static ⟨"java/lang/Double", "doubleToRawLongBits", "(D)J"⟩, Cond.initialized "java/lang/Double", Cond.constantLong RJxe99ae 137 (9221120237041090560)]
def wsL_law0_r28 : List Cond := [Cond.methodLink RJxe99ae 122 yJxe99ae_isNaN_b9ae7, Cond.static yJxe99ae_isNaN_b9ae7, Cond.code yJxe99ae_isNaN_b9ae7 cJxe99ae_isNaN_b9ae7 2 (some .boolean)]
def wsL_law0 : List Cond := (wsL_law0_r1 ++ (wsL_law0_r2 ++ (wsL_law0_r3 ++ (wsL_law0_r4 ++ (wsL_law0_r5 ++ (wsL_law0_r6 ++ (wsL_law0_r7 ++ (wsL_law0_r8 ++ (wsL_law0_r9 ++ (wsL_law0_r10 ++ (wsL_law0_r11 ++ (wsL_law0_r12 ++ (wsL_law0_r13 ++ (wsL_law0_r14 ++ (wsL_law0_r15 ++ (wsL_law0_r16 ++ (wsL_law0_r17 ++ (wsL_law0_r18 ++ (wsL_law0_r19 ++ (wsL_law0_r20 ++ (wsL_law0_r21 ++ (wsL_law0_r22 ++ (wsL_law0_r23 ++ (wsL_law0_r24 ++ (wsL_law0_r25 ++ (wsL_law0_r26 ++ (wsL_law0_r27 ++ wsL_law0_r28))))))))))))))))))))))))))) ++ wsX30 ++ wsX40 ++ wsX00 ++ wsX10 ++ wsX20 ++ ([] : List Cond)
def wsL_law : List Cond := wsL_law0 ++ (vx_atS RX3 50 "java/lang/IndexOutOfBoundsException" ["java/lang/RuntimeException", "java/lang/Exception"]).filter goodWord ++ (vx_atS RX3 61 "java/lang/IllegalArgumentException" ["java/lang/RuntimeException", "java/lang/Exception"]).filter goodWord ++ (vx_atS RX3 121 "java/lang/IllegalStateException" ["java/lang/RuntimeException", "java/lang/Exception"]).filter goodWord
set_option maxRecDepth 20000 in
theorem xin_wsL_law0_r1 : ∀ w ∈ wsL_law0_r1, w ∈ lw_tbl := fun w h => (goodIn_p wsL_law0_r1 [82, 85] (by decide +kernel) (by decide +kernel) w h).1
set_option maxRecDepth 20000 in
theorem xin_wsL_law0_r2 : ∀ w ∈ wsL_law0_r2, w ∈ lw_tbl := fun w h => (goodIn_p wsL_law0_r2 [90, 117, 136] (by decide +kernel) (by decide +kernel) w h).1
set_option maxRecDepth 20000 in
theorem xin_wsL_law0_r3 : ∀ w ∈ wsL_law0_r3, w ∈ lw_tbl := fun w h => (goodIn_p wsL_law0_r3 [651, 398] (by decide +kernel) (by decide +kernel) w h).1
set_option maxRecDepth 20000 in
theorem xin_wsL_law0_r4 : ∀ w ∈ wsL_law0_r4, w ∈ lw_tbl := fun w h => (goodIn_p wsL_law0_r4 [401, 404, 174, 184, 178] (by decide +kernel) (by decide +kernel) w h).1
set_option maxRecDepth 20000 in
theorem xin_wsL_law0_r5 : ∀ w ∈ wsL_law0_r5, w ∈ lw_tbl := fun w h => (goodIn_p wsL_law0_r5 [721, 724, 705, 728, 717, 694] (by decide +kernel) (by decide +kernel) w h).1
set_option maxRecDepth 20000 in
theorem xin_wsL_law0_r6 : ∀ w ∈ wsL_law0_r6, w ∈ lw_tbl := fun w h => (goodIn_p wsL_law0_r6 [495, 196, 732, 502, 199] (by decide +kernel) (by decide +kernel) w h).1
set_option maxRecDepth 20000 in
theorem xin_wsL_law0_r7 : ∀ w ∈ wsL_law0_r7, w ∈ lw_tbl := fun w h => (goodIn_p wsL_law0_r7 [202, 736, 739, 510, 276] (by decide +kernel) (by decide +kernel) w h).1
set_option maxRecDepth 20000 in
theorem xin_wsL_law0_r8 : ∀ w ∈ wsL_law0_r8, w ∈ lw_tbl := fun w h => (goodIn_p wsL_law0_r8 [743, 709, 746, 518, 750, 170] (by decide +kernel) (by decide +kernel) w h).1
set_option maxRecDepth 20000 in
theorem xin_wsL_law0_r9 : ∀ w ∈ wsL_law0_r9, w ∈ lw_tbl := fun w h => (goodIn_p wsL_law0_r9 [188, 192, 754, 758, 762, 766] (by decide +kernel) (by decide +kernel) w h).1
set_option maxRecDepth 20000 in
theorem xin_wsL_law0_r10 : ∀ w ∈ wsL_law0_r10, w ∈ lw_tbl := fun w h => (goodIn_p wsL_law0_r10 [209, 220, 213, 216, 770, 774] (by decide +kernel) (by decide +kernel) w h).1
set_option maxRecDepth 20000 in
theorem xin_wsL_law0_r11 : ∀ w ∈ wsL_law0_r11, w ∈ lw_tbl := fun w h => (goodIn_p wsL_law0_r11 [528, 533, 553, 778, 224] (by decide +kernel) (by decide +kernel) w h).1
set_option maxRecDepth 20000 in
theorem xin_wsL_law0_r12 : ∀ w ∈ wsL_law0_r12, w ∈ lw_tbl := fun w h => (goodIn_p wsL_law0_r12 [228, 782, 232, 236, 239, 242, 245] (by decide +kernel) (by decide +kernel) w h).1
set_option maxRecDepth 20000 in
theorem xin_wsL_law0_r13 : ∀ w ∈ wsL_law0_r13, w ∈ lw_tbl := fun w h => (goodIn_p wsL_law0_r13 [248, 251, 786, 790, 794, 798] (by decide +kernel) (by decide +kernel) w h).1
set_option maxRecDepth 20000 in
theorem xin_wsL_law0_r14 : ∀ w ∈ wsL_law0_r14, w ∈ lw_tbl := fun w h => (goodIn_p wsL_law0_r14 [560, 564, 569, 294, 802] (by decide +kernel) (by decide +kernel) w h).1
set_option maxRecDepth 20000 in
theorem xin_wsL_law0_r15 : ∀ w ∈ wsL_law0_r15, w ∈ lw_tbl := fun w h => (goodIn_p wsL_law0_r15 [576, 702, 585, 389, 713] (by decide +kernel) (by decide +kernel) w h).1
set_option maxRecDepth 20000 in
theorem xin_wsL_law0_r16 : ∀ w ∈ wsL_law0_r16, w ∈ lw_tbl := fun w h => (goodIn_p wsL_law0_r16 [593, 598, 698, 605, 330] (by decide +kernel) (by decide +kernel) w h).1
set_option maxRecDepth 20000 in
theorem xin_wsL_law0_r17 : ∀ w ∈ wsL_law0_r17, w ∈ lw_tbl := fun w h => (goodIn_p wsL_law0_r17 [334, 806, 810, 813, 613, 342] (by decide +kernel) (by decide +kernel) w h).1
set_option maxRecDepth 20000 in
theorem xin_wsL_law0_r18 : ∀ w ∈ wsL_law0_r18, w ∈ lw_tbl := fun w h => (goodIn_p wsL_law0_r18 [346, 817, 621, 350, 259] (by decide +kernel) (by decide +kernel) w h).1
set_option maxRecDepth 20000 in
theorem xin_wsL_law0_r19 : ∀ w ∈ wsL_law0_r19, w ∈ lw_tbl := fun w h => (goodIn_p wsL_law0_r19 [314, 821, 825, 829, 629] (by decide +kernel) (by decide +kernel) w h).1
set_option maxRecDepth 20000 in
theorem xin_wsL_law0_r20 : ∀ w ∈ wsL_law0_r20, w ∈ lw_tbl := fun w h => (goodIn_p wsL_law0_r20 [290, 298, 302, 306, 310, 318] (by decide +kernel) (by decide +kernel) w h).1
set_option maxRecDepth 20000 in
theorem xin_wsL_law0_r21 : ∀ w ∈ wsL_law0_r21, w ∈ lw_tbl := fun w h => (goodIn_p wsL_law0_r21 [833, 837, 841, 845, 849, 853] (by decide +kernel) (by decide +kernel) w h).1
set_option maxRecDepth 20000 in
theorem xin_wsL_law0_r22 : ∀ w ∈ wsL_law0_r22, w ∈ lw_tbl := fun w h => (goodIn_p wsL_law0_r22 [857, 255, 264, 861, 865, 637] (by decide +kernel) (by decide +kernel) w h).1
set_option maxRecDepth 20000 in
theorem xin_wsL_law0_r23 : ∀ w ∈ wsL_law0_r23, w ∈ lw_tbl := fun w h => (goodIn_p wsL_law0_r23 [359, 363, 367, 371, 375, 869] (by decide +kernel) (by decide +kernel) w h).1
set_option maxRecDepth 20000 in
theorem xin_wsL_law0_r24 : ∀ w ∈ wsL_law0_r24, w ∈ lw_tbl := fun w h => (goodIn_p wsL_law0_r24 [874, 646, 878, 269, 273] (by decide +kernel) (by decide +kernel) w h).1
set_option maxRecDepth 20000 in
theorem xin_wsL_law0_r25 : ∀ w ∈ wsL_law0_r25, w ∈ lw_tbl := fun w h => (goodIn_p wsL_law0_r25 [882, 886, 890, 280, 894, 898] (by decide +kernel) (by decide +kernel) w h).1
set_option maxRecDepth 20000 in
theorem xin_wsL_law0_r26 : ∀ w ∈ wsL_law0_r26, w ∈ lw_tbl := fun w h => (goodIn_p wsL_law0_r26 [285, 321, 326, 338, 355] (by decide +kernel) (by decide +kernel) w h).1
set_option maxRecDepth 20000 in
theorem xin_wsL_law0_r27 : ∀ w ∈ wsL_law0_r27, w ∈ lw_tbl := fun w h => (goodIn_p wsL_law0_r27 [381, 902, 908] (by decide +kernel) (by decide +kernel) w h).1
set_option maxRecDepth 20000 in
theorem xin_wsL_law0_r28 : ∀ w ∈ wsL_law0_r28, w ∈ lw_tbl := fun w h => (goodIn_p wsL_law0_r28 [911] (by decide +kernel) (by decide +kernel) w h).1
set_option maxRecDepth 20000 in
theorem xin_wsX30 : ∀ w ∈ wsX30, w ∈ lw_tbl := fun w h => (goodIn_p wsX30 [] (by decide +kernel) (by decide +kernel) w h).1
set_option maxRecDepth 20000 in
theorem xin_wsX40 : ∀ w ∈ wsX40, w ∈ lw_tbl := fun w h => (goodIn_p wsX40 [] (by decide +kernel) (by decide +kernel) w h).1
set_option maxRecDepth 20000 in
theorem xin_wsX00 : ∀ w ∈ wsX00, w ∈ lw_tbl := fun w h => (goodIn_p wsX00 [] (by decide +kernel) (by decide +kernel) w h).1
set_option maxRecDepth 20000 in
theorem xin_wsX10 : ∀ w ∈ wsX10, w ∈ lw_tbl := fun w h => (goodIn_p wsX10 [] (by decide +kernel) (by decide +kernel) w h).1
set_option maxRecDepth 20000 in
theorem xin_wsX20 : ∀ w ∈ wsX20, w ∈ lw_tbl := fun w h => (goodIn_p wsX20 [] (by decide +kernel) (by decide +kernel) w h).1
theorem wsL_law_in0 : ∀ w ∈ wsL_law0, w ∈ lw_tbl := fun w h => (List.mem_append.mp h).elim (fun h => (List.mem_append.mp h).elim (fun h => (List.mem_append.mp h).elim (fun h => (List.mem_append.mp h).elim (fun h => (List.mem_append.mp h).elim (fun h => (List.mem_append.mp h).elim (fun h => (List.mem_append.mp h).elim (fun h => xin_wsL_law0_r1 w h) (fun h => (List.mem_append.mp h).elim (fun h => xin_wsL_law0_r2 w h) (fun h => (List.mem_append.mp h).elim (fun h => xin_wsL_law0_r3 w h) (fun h => (List.mem_append.mp h).elim (fun h => xin_wsL_law0_r4 w h) (fun h => (List.mem_append.mp h).elim (fun h => xin_wsL_law0_r5 w h) (fun h => (List.mem_append.mp h).elim (fun h => xin_wsL_law0_r6 w h) (fun h => (List.mem_append.mp h).elim (fun h => xin_wsL_law0_r7 w h) (fun h => (List.mem_append.mp h).elim (fun h => xin_wsL_law0_r8 w h) (fun h => (List.mem_append.mp h).elim (fun h => xin_wsL_law0_r9 w h) (fun h => (List.mem_append.mp h).elim (fun h => xin_wsL_law0_r10 w h) (fun h => (List.mem_append.mp h).elim (fun h => xin_wsL_law0_r11 w h) (fun h => (List.mem_append.mp h).elim (fun h => xin_wsL_law0_r12 w h) (fun h => (List.mem_append.mp h).elim (fun h => xin_wsL_law0_r13 w h) (fun h => (List.mem_append.mp h).elim (fun h => xin_wsL_law0_r14 w h) (fun h => (List.mem_append.mp h).elim (fun h => xin_wsL_law0_r15 w h) (fun h => (List.mem_append.mp h).elim (fun h => xin_wsL_law0_r16 w h) (fun h => (List.mem_append.mp h).elim (fun h => xin_wsL_law0_r17 w h) (fun h => (List.mem_append.mp h).elim (fun h => xin_wsL_law0_r18 w h) (fun h => (List.mem_append.mp h).elim (fun h => xin_wsL_law0_r19 w h) (fun h => (List.mem_append.mp h).elim (fun h => xin_wsL_law0_r20 w h) (fun h => (List.mem_append.mp h).elim (fun h => xin_wsL_law0_r21 w h) (fun h => (List.mem_append.mp h).elim (fun h => xin_wsL_law0_r22 w h) (fun h => (List.mem_append.mp h).elim (fun h => xin_wsL_law0_r23 w h) (fun h => (List.mem_append.mp h).elim (fun h => xin_wsL_law0_r24 w h) (fun h => (List.mem_append.mp h).elim (fun h => xin_wsL_law0_r25 w h) (fun h => (List.mem_append.mp h).elim (fun h => xin_wsL_law0_r26 w h) (fun h => (List.mem_append.mp h).elim (fun h => xin_wsL_law0_r27 w h) (fun h => xin_wsL_law0_r28 w h)))))))))))))))))))))))))))) (fun h => xin_wsX30 w h)) (fun h => xin_wsX40 w h)) (fun h => xin_wsX00 w h)) (fun h => xin_wsX10 w h)) (fun h => xin_wsX20 w h)) (fun h => absurd h List.not_mem_nil)
theorem wsL_law_x0 : ∀ w ∈ (vx_atS RX3 50 "java/lang/IndexOutOfBoundsException" ["java/lang/RuntimeException", "java/lang/Exception"]).filter goodWord, w ∈ lw_tbl := by decide +kernel
theorem wsL_law_x1 : ∀ w ∈ (vx_atS RX3 61 "java/lang/IllegalArgumentException" ["java/lang/RuntimeException", "java/lang/Exception"]).filter goodWord, w ∈ lw_tbl := by decide +kernel
theorem wsL_law_x2 : ∀ w ∈ (vx_atS RX3 121 "java/lang/IllegalStateException" ["java/lang/RuntimeException", "java/lang/Exception"]).filter goodWord, w ∈ lw_tbl := by decide +kernel
theorem wsL_law_in : ∀ w ∈ wsL_law, w ∈ lw_tbl := fun w h => (List.mem_append.mp h).elim (fun h => (List.mem_append.mp h).elim (fun h => (List.mem_append.mp h).elim (fun h => wsL_law_in0 w h) (fun h => wsL_law_x0 w h)) (fun h => wsL_law_x1 w h)) (fun h => wsL_law_x2 w h)
theorem inlX0 : ∀ w ∈ wsX00, w ∈ wsL_law := fun _ h => List.mem_append_left _ (List.mem_append_left _ (List.mem_append_left _ (List.mem_append_left _ (List.mem_append_left _ (List.mem_append_left _ (List.mem_append_right _ h))))))
theorem inX0 : ∀ w ∈ wsX00, w ∈ lw_tbl := fun w h => wsL_law_in w (inlX0 w h)
theorem inlX1 : ∀ w ∈ wsX10, w ∈ wsL_law := fun _ h => List.mem_append_left _ (List.mem_append_left _ (List.mem_append_left _ (List.mem_append_left _ (List.mem_append_left _ (List.mem_append_right _ h)))))
theorem inX1 : ∀ w ∈ wsX10, w ∈ lw_tbl := fun w h => wsL_law_in w (inlX1 w h)
theorem inlX2 : ∀ w ∈ wsX20, w ∈ wsL_law := fun _ h => List.mem_append_left _ (List.mem_append_left _ (List.mem_append_left _ (List.mem_append_left _ (List.mem_append_right _ h))))
theorem inX2 : ∀ w ∈ wsX20, w ∈ lw_tbl := fun w h => wsL_law_in w (inlX2 w h)
theorem inlX3 : ∀ w ∈ wsX30, w ∈ wsL_law := fun _ h => List.mem_append_left _ (List.mem_append_left _ (List.mem_append_left _ (List.mem_append_left _ (List.mem_append_left _ (List.mem_append_left _ (List.mem_append_left _ (List.mem_append_left _ (List.mem_append_right _ h))))))))
theorem inX3 : ∀ w ∈ wsX30, w ∈ lw_tbl := fun w h => wsL_law_in w (inlX3 w h)
theorem inlX4 : ∀ w ∈ wsX40, w ∈ wsL_law := fun _ h => List.mem_append_left _ (List.mem_append_left _ (List.mem_append_left _ (List.mem_append_left _ (List.mem_append_left _ (List.mem_append_left _ (List.mem_append_left _ (List.mem_append_right _ h)))))))
theorem inX4 : ∀ w ∈ wsX40, w ∈ lw_tbl := fun w h => wsL_law_in w (inlX4 w h)
theorem inJxe99ae : ∀ w ∈ wsJxe99ae0, w ∈ lw_tbl := by decide +kernel
theorem inJ6 : ∀ w ∈ wsJ60, w ∈ lw_tbl := by decide +kernel
theorem inJ9 : ∀ w ∈ wsJ90, w ∈ lw_tbl := by decide +kernel
theorem inJ0 : ∀ w ∈ wsJ00, w ∈ lw_tbl := by decide +kernel
theorem inJ10 : ∀ w ∈ wsJ100, w ∈ lw_tbl := by decide +kernel
abbrev vwCl : List vw_C := [(RX0, TX0, 4), (RX1, TX1, 3), (RX2, TX2, 2), (RX3, TX3, 6), (RX4, TX4, 12)]
end
section
theorem dX0_init_0 : decode cX0_init 0 = .ok (.aload_n 0, 1) := by decide +kernel
theorem dX0_init_1 : decode cX0_init 1 = .ok (.invokespecial 3, 3) := by decide +kernel
theorem dX0_init_4 : decode cX0_init 4 = .ok (.aload_n 0, 1) := by decide +kernel
theorem dX0_init_5 : decode cX0_init 5 = .ok (.bipush 8, 2) := by decide +kernel
theorem dX0_init_7 : decode cX0_init 7 = .ok (.newarray .int, 2) := by decide +kernel
theorem dX0_init_9 : decode cX0_init 9 = .ok (.putfield 9, 3) := by decide +kernel
theorem dX0_init_12 : decode cX0_init 12 = .ok (.aload_n 0, 1) := by decide +kernel
theorem dX0_init_13 : decode cX0_init 13 = .ok (.bipush 8, 2) := by decide +kernel
theorem dX0_init_15 : decode cX0_init 15 = .ok (.newarray .int, 2) := by decide +kernel
theorem dX0_init_17 : decode cX0_init 17 = .ok (.putfield 15, 3) := by decide +kernel
theorem dX0_init_20 : decode cX0_init 20 = .ok (.aload_n 0, 1) := by decide +kernel
theorem dX0_init_21 : decode cX0_init 21 = .ok (.iconst 0, 1) := by decide +kernel
theorem dX0_init_22 : decode cX0_init 22 = .ok (.putfield 18, 3) := by decide +kernel
theorem dX0_init_25 : decode cX0_init 25 = .ok (.aload_n 0, 1) := by decide +kernel
theorem dX0_init_26 : decode cX0_init 26 = .ok (.iconst 0, 1) := by decide +kernel
theorem dX0_init_27 : decode cX0_init 27 = .ok (.putfield 22, 3) := by decide +kernel
theorem dX0_init_30 : decode cX0_init 30 = .ok (.return_, 1) := by decide +kernel
theorem dX0_takeFrom_0 : decode cX0_takeFrom 0 = .ok (.aload_n 1, 1) := by decide +kernel
theorem dX0_takeFrom_1 : decode cX0_takeFrom 1 = .ok (.getfield 9, 3) := by decide +kernel
theorem dX0_takeFrom_4 : decode cX0_takeFrom 4 = .ok (.iconst 0, 1) := by decide +kernel
theorem dX0_takeFrom_5 : decode cX0_takeFrom 5 = .ok (.aload_n 0, 1) := by decide +kernel
theorem dX0_takeFrom_6 : decode cX0_takeFrom 6 = .ok (.getfield 9, 3) := by decide +kernel
theorem dX0_takeFrom_9 : decode cX0_takeFrom 9 = .ok (.iconst 0, 1) := by decide +kernel
theorem dX0_takeFrom_10 : decode cX0_takeFrom 10 = .ok (.bipush 8, 2) := by decide +kernel
theorem dX0_takeFrom_12 : decode cX0_takeFrom 12 = .ok (.invokestatic 25, 3) := by decide +kernel
theorem dX0_takeFrom_15 : decode cX0_takeFrom 15 = .ok (.aload_n 1, 1) := by decide +kernel
theorem dX0_takeFrom_16 : decode cX0_takeFrom 16 = .ok (.getfield 15, 3) := by decide +kernel
theorem dX0_takeFrom_19 : decode cX0_takeFrom 19 = .ok (.iconst 0, 1) := by decide +kernel
theorem dX0_takeFrom_20 : decode cX0_takeFrom 20 = .ok (.aload_n 0, 1) := by decide +kernel
theorem dX0_takeFrom_21 : decode cX0_takeFrom 21 = .ok (.getfield 15, 3) := by decide +kernel
theorem dX0_takeFrom_24 : decode cX0_takeFrom 24 = .ok (.iconst 0, 1) := by decide +kernel
theorem dX0_takeFrom_25 : decode cX0_takeFrom 25 = .ok (.bipush 8, 2) := by decide +kernel
theorem dX0_takeFrom_27 : decode cX0_takeFrom 27 = .ok (.invokestatic 25, 3) := by decide +kernel
theorem dX0_takeFrom_30 : decode cX0_takeFrom 30 = .ok (.aload_n 0, 1) := by decide +kernel
theorem dX0_takeFrom_31 : decode cX0_takeFrom 31 = .ok (.aload_n 1, 1) := by decide +kernel
theorem dX0_takeFrom_32 : decode cX0_takeFrom 32 = .ok (.getfield 18, 3) := by decide +kernel
theorem dX0_takeFrom_35 : decode cX0_takeFrom 35 = .ok (.putfield 18, 3) := by decide +kernel
theorem dX0_takeFrom_38 : decode cX0_takeFrom 38 = .ok (.aload_n 0, 1) := by decide +kernel
theorem dX0_takeFrom_39 : decode cX0_takeFrom 39 = .ok (.aload_n 1, 1) := by decide +kernel
theorem dX0_takeFrom_40 : decode cX0_takeFrom 40 = .ok (.getfield 22, 3) := by decide +kernel
theorem dX0_takeFrom_43 : decode cX0_takeFrom 43 = .ok (.putfield 22, 3) := by decide +kernel
theorem dX0_takeFrom_46 : decode cX0_takeFrom 46 = .ok (.return_, 1) := by decide +kernel
theorem dX0_isLost_0 : decode cX0_isLost 0 = .ok (.aload_n 0, 1) := by decide +kernel
theorem dX0_isLost_1 : decode cX0_isLost 1 = .ok (.getfield 18, 3) := by decide +kernel
theorem dX0_isLost_4 : decode cX0_isLost 4 = .ok (.iload_n 1, 1) := by decide +kernel
theorem dX0_isLost_5 : decode cX0_isLost 5 = .ok (.ishr, 1) := by decide +kernel
theorem dX0_isLost_6 : decode cX0_isLost 6 = .ok (.iconst 1, 1) := by decide +kernel
theorem dX0_isLost_7 : decode cX0_isLost 7 = .ok (.iand, 1) := by decide +kernel
theorem dX0_isLost_8 : decode cX0_isLost 8 = .ok (.iconst 1, 1) := by decide +kernel
theorem dX0_isLost_9 : decode cX0_isLost 9 = .ok (.if_icmp .ne 7, 3) := by decide +kernel
theorem dX0_isLost_12 : decode cX0_isLost 12 = .ok (.iconst 1, 1) := by decide +kernel
theorem dX0_isLost_13 : decode cX0_isLost 13 = .ok (.goto 4, 3) := by decide +kernel
theorem dX0_isLost_16 : decode cX0_isLost 16 = .ok (.iconst 0, 1) := by decide +kernel
theorem dX0_isLost_17 : decode cX0_isLost 17 = .ok (.ireturn, 1) := by decide +kernel
set_option maxRecDepth 20000 in
theorem ggX0_drawnAmplitude_X0_isLost : GoodIn wsX0_drawnAmplitude wsX0_isLost := goodIn_r _ [6, 7, 8, 9, 10, 11] (by decide +kernel) (by decide +kernel)
set_option maxRecDepth 20000 in
theorem gX0_drawnAmplitude_X0_isLost : GoodIn wsX0_drawnAmplitude (wsV RX0 31 RX0 yX0_isLost wsX0_isLost) := goodIn_app (goodIn_of _ (by decide +kernel)) ggX0_drawnAmplitude_X0_isLost
theorem dX0_drawnAmplitude_0 : decode cX0_drawnAmplitude 0 = .ok (.aload_n 0, 1) := by decide +kernel
theorem dX0_drawnAmplitude_1 : decode cX0_drawnAmplitude 1 = .ok (.iload_n 1, 1) := by decide +kernel
theorem dX0_drawnAmplitude_2 : decode cX0_drawnAmplitude 2 = .ok (.invokevirtual 31, 3) := by decide +kernel
theorem dX0_drawnAmplitude_5 : decode cX0_drawnAmplitude 5 = .ok (.ifCond .eq 7, 3) := by decide +kernel
theorem dX0_drawnAmplitude_8 : decode cX0_drawnAmplitude 8 = .ok (.iconst 0, 1) := by decide +kernel
theorem dX0_drawnAmplitude_9 : decode cX0_drawnAmplitude 9 = .ok (.goto 9, 3) := by decide +kernel
theorem dX0_drawnAmplitude_12 : decode cX0_drawnAmplitude 12 = .ok (.aload_n 0, 1) := by decide +kernel
theorem dX0_drawnAmplitude_13 : decode cX0_drawnAmplitude 13 = .ok (.getfield 9, 3) := by decide +kernel
theorem dX0_drawnAmplitude_16 : decode cX0_drawnAmplitude 16 = .ok (.iload_n 1, 1) := by decide +kernel
theorem dX0_drawnAmplitude_17 : decode cX0_drawnAmplitude 17 = .ok (.iaload, 1) := by decide +kernel
theorem dX0_drawnAmplitude_18 : decode cX0_drawnAmplitude 18 = .ok (.ireturn, 1) := by decide +kernel
theorem dX0_drawingWheels_0 : decode cX0_drawingWheels 0 = .ok (.iconst 0, 1) := by decide +kernel
theorem dX0_drawingWheels_1 : decode cX0_drawingWheels 1 = .ok (.istore_n 1, 1) := by decide +kernel
theorem dX0_drawingWheels_2 : decode cX0_drawingWheels 2 = .ok (.iconst 0, 1) := by decide +kernel
theorem dX0_drawingWheels_3 : decode cX0_drawingWheels 3 = .ok (.istore_n 2, 1) := by decide +kernel
theorem dX0_drawingWheels_4 : decode cX0_drawingWheels 4 = .ok (.iload_n 2, 1) := by decide +kernel
theorem dX0_drawingWheels_5 : decode cX0_drawingWheels 5 = .ok (.bipush 8, 2) := by decide +kernel
theorem dX0_drawingWheels_7 : decode cX0_drawingWheels 7 = .ok (.if_icmp .ge 26, 3) := by decide +kernel
theorem dX0_drawingWheels_10 : decode cX0_drawingWheels 10 = .ok (.iload_n 1, 1) := by decide +kernel
theorem dX0_drawingWheels_11 : decode cX0_drawingWheels 11 = .ok (.aload_n 0, 1) := by decide +kernel
theorem dX0_drawingWheels_12 : decode cX0_drawingWheels 12 = .ok (.getfield 9, 3) := by decide +kernel
theorem dX0_drawingWheels_15 : decode cX0_drawingWheels 15 = .ok (.iload_n 2, 1) := by decide +kernel
theorem dX0_drawingWheels_16 : decode cX0_drawingWheels 16 = .ok (.iaload, 1) := by decide +kernel
theorem dX0_drawingWheels_17 : decode cX0_drawingWheels 17 = .ok (.ifCond .eq 7, 3) := by decide +kernel
theorem dX0_drawingWheels_20 : decode cX0_drawingWheels 20 = .ok (.iconst 1, 1) := by decide +kernel
theorem dX0_drawingWheels_21 : decode cX0_drawingWheels 21 = .ok (.goto 4, 3) := by decide +kernel
theorem dX0_drawingWheels_24 : decode cX0_drawingWheels 24 = .ok (.iconst 0, 1) := by decide +kernel
theorem dX0_drawingWheels_25 : decode cX0_drawingWheels 25 = .ok (.iadd, 1) := by decide +kernel
theorem dX0_drawingWheels_26 : decode cX0_drawingWheels 26 = .ok (.istore_n 1, 1) := by decide +kernel
theorem dX0_drawingWheels_27 : decode cX0_drawingWheels 27 = .ok (.iinc 2 1, 3) := by decide +kernel
theorem dX0_drawingWheels_30 : decode cX0_drawingWheels 30 = .ok (.goto (-26), 3) := by decide +kernel
theorem dX0_drawingWheels_33 : decode cX0_drawingWheels 33 = .ok (.iload_n 1, 1) := by decide +kernel
theorem dX0_drawingWheels_34 : decode cX0_drawingWheels 34 = .ok (.ireturn, 1) := by decide +kernel
set_option maxRecDepth 20000 in
theorem ggX0_traceAt_X0_drawnAmplitude : GoodIn wsX0_traceAt wsX0_drawnAmplitude := goodIn_r _ [5, 6, 7, 8, 9, 4, 10, 11, 22, 23, 24, 25] (by decide +kernel) (by decide +kernel)
set_option maxRecDepth 20000 in
theorem gX0_traceAt_X0_drawnAmplitude : GoodIn wsX0_traceAt (wsV RX0 35 RX0 yX0_drawnAmplitude wsX0_drawnAmplitude) := goodIn_app (goodIn_of _ (by decide +kernel)) ggX0_traceAt_X0_drawnAmplitude
set_option maxRecDepth 20000 in
theorem ggX0_traceAt_X3_wave : GoodIn wsX0_traceAt wsX3_wave := goodIn_r _ [14, 15, 16, 17, 18, 19, 20, 21] (by decide +kernel) (by decide +kernel)
set_option maxRecDepth 20000 in
theorem gX0_traceAt_X3_wave_n39 : GoodIn wsX0_traceAt (wsX3_wave) := ggX0_traceAt_X3_wave
theorem dX0_traceAt_0 : decode cX0_traceAt 0 = .ok (.iconst 0, 1) := by decide +kernel
theorem dX0_traceAt_1 : decode cX0_traceAt 1 = .ok (.istore_n 2, 1) := by decide +kernel
theorem dX0_traceAt_2 : decode cX0_traceAt 2 = .ok (.iconst 0, 1) := by decide +kernel
theorem dX0_traceAt_3 : decode cX0_traceAt 3 = .ok (.istore_n 3, 1) := by decide +kernel
theorem dX0_traceAt_4 : decode cX0_traceAt 4 = .ok (.iload_n 3, 1) := by decide +kernel
theorem dX0_traceAt_5 : decode cX0_traceAt 5 = .ok (.bipush 8, 2) := by decide +kernel
theorem dX0_traceAt_7 : decode cX0_traceAt 7 = .ok (.if_icmp .ge 23, 3) := by decide +kernel
theorem dX0_traceAt_10 : decode cX0_traceAt 10 = .ok (.iload_n 2, 1) := by decide +kernel
theorem dX0_traceAt_11 : decode cX0_traceAt 11 = .ok (.aload_n 0, 1) := by decide +kernel
theorem dX0_traceAt_12 : decode cX0_traceAt 12 = .ok (.iload_n 3, 1) := by decide +kernel
theorem dX0_traceAt_13 : decode cX0_traceAt 13 = .ok (.invokevirtual 35, 3) := by decide +kernel
theorem dX0_traceAt_16 : decode cX0_traceAt 16 = .ok (.iload_n 3, 1) := by decide +kernel
theorem dX0_traceAt_17 : decode cX0_traceAt 17 = .ok (.iload_n 1, 1) := by decide +kernel
theorem dX0_traceAt_18 : decode cX0_traceAt 18 = .ok (.invokestatic 39, 3) := by decide +kernel
theorem dX0_traceAt_21 : decode cX0_traceAt 21 = .ok (.imul, 1) := by decide +kernel
theorem dX0_traceAt_22 : decode cX0_traceAt 22 = .ok (.iadd, 1) := by decide +kernel
theorem dX0_traceAt_23 : decode cX0_traceAt 23 = .ok (.istore_n 2, 1) := by decide +kernel
theorem dX0_traceAt_24 : decode cX0_traceAt 24 = .ok (.iinc 3 1, 3) := by decide +kernel
theorem dX0_traceAt_27 : decode cX0_traceAt 27 = .ok (.goto (-23), 3) := by decide +kernel
theorem dX0_traceAt_30 : decode cX0_traceAt 30 = .ok (.iload_n 2, 1) := by decide +kernel
theorem dX0_traceAt_31 : decode cX0_traceAt 31 = .ok (.ireturn, 1) := by decide +kernel
set_option maxRecDepth 20000 in
theorem ggX0_differenceAt_X0_traceAt : GoodIn wsX0_differenceAt wsX0_traceAt := goodIn_r _ [6, 7, 8, 9, 5, 10, 11, 12, 13, 14, 15, 16, 17, 18, 19, 20, 21, 22, 23, 24, 25, 26, 27, 28, 29, 30] (by decide +kernel) (by decide +kernel)
set_option maxRecDepth 20000 in
theorem gX0_differenceAt_X0_traceAt : GoodIn wsX0_differenceAt (wsV RX0 43 RX0 yX0_traceAt wsX0_traceAt) := goodIn_app (goodIn_of _ (by decide +kernel)) ggX0_differenceAt_X0_traceAt
theorem dX0_differenceAt_0 : decode cX0_differenceAt 0 = .ok (.aload_n 0, 1) := by decide +kernel
theorem dX0_differenceAt_1 : decode cX0_differenceAt 1 = .ok (.getfield 15, 3) := by decide +kernel
theorem dX0_differenceAt_4 : decode cX0_differenceAt 4 = .ok (.iload_n 1, 1) := by decide +kernel
theorem dX0_differenceAt_5 : decode cX0_differenceAt 5 = .ok (.iaload, 1) := by decide +kernel
theorem dX0_differenceAt_6 : decode cX0_differenceAt 6 = .ok (.aload_n 0, 1) := by decide +kernel
theorem dX0_differenceAt_7 : decode cX0_differenceAt 7 = .ok (.iload_n 1, 1) := by decide +kernel
theorem dX0_differenceAt_8 : decode cX0_differenceAt 8 = .ok (.invokevirtual 43, 3) := by decide +kernel
theorem dX0_differenceAt_11 : decode cX0_differenceAt 11 = .ok (.isub, 1) := by decide +kernel
theorem dX0_differenceAt_12 : decode cX0_differenceAt 12 = .ok (.ireturn, 1) := by decide +kernel
set_option maxRecDepth 20000 in
theorem ggX0_jumpAt_X0_traceAt : GoodIn wsX0_jumpAt wsX0_traceAt := goodIn_r _ [5, 6, 7, 8, 4, 9, 10, 11, 12, 13, 14, 15, 16, 17, 18, 19, 20, 21, 22, 23, 24, 25, 26, 27, 28, 29] (by decide +kernel) (by decide +kernel)
set_option maxRecDepth 20000 in
theorem gX0_jumpAt_X0_traceAt : GoodIn wsX0_jumpAt (wsV RX0 43 RX0 yX0_traceAt wsX0_traceAt) := goodIn_app (goodIn_of _ (by decide +kernel)) ggX0_jumpAt_X0_traceAt
theorem dX0_jumpAt_0 : decode cX0_jumpAt 0 = .ok (.aload_n 0, 1) := by decide +kernel
theorem dX0_jumpAt_1 : decode cX0_jumpAt 1 = .ok (.iload_n 1, 1) := by decide +kernel
theorem dX0_jumpAt_2 : decode cX0_jumpAt 2 = .ok (.iconst 1, 1) := by decide +kernel
theorem dX0_jumpAt_3 : decode cX0_jumpAt 3 = .ok (.iadd, 1) := by decide +kernel
theorem dX0_jumpAt_4 : decode cX0_jumpAt 4 = .ok (.bipush 8, 2) := by decide +kernel
theorem dX0_jumpAt_6 : decode cX0_jumpAt 6 = .ok (.irem, 1) := by decide +kernel
theorem dX0_jumpAt_7 : decode cX0_jumpAt 7 = .ok (.invokevirtual 43, 3) := by decide +kernel
theorem dX0_jumpAt_10 : decode cX0_jumpAt 10 = .ok (.aload_n 0, 1) := by decide +kernel
theorem dX0_jumpAt_11 : decode cX0_jumpAt 11 = .ok (.iload_n 1, 1) := by decide +kernel
theorem dX0_jumpAt_12 : decode cX0_jumpAt 12 = .ok (.invokevirtual 43, 3) := by decide +kernel
theorem dX0_jumpAt_15 : decode cX0_jumpAt 15 = .ok (.isub, 1) := by decide +kernel
theorem dX0_jumpAt_16 : decode cX0_jumpAt 16 = .ok (.ireturn, 1) := by decide +kernel
set_option maxRecDepth 20000 in
theorem ggX0_patternAmplitude_X3_wave : GoodIn wsX0_patternAmplitude wsX3_wave := goodIn_r _ [4, 5, 6, 7, 8, 9, 10, 11] (by decide +kernel) (by decide +kernel)
set_option maxRecDepth 20000 in
theorem gX0_patternAmplitude_X3_wave_n39 : GoodIn wsX0_patternAmplitude (wsX3_wave) := ggX0_patternAmplitude_X3_wave
set_option maxRecDepth 20000 in
theorem ggX0_patternAmplitude_J9_floorDiv_7cf53 : GoodIn wsX0_patternAmplitude wsJ9_floorDiv_7cf53 := goodIn_r _ [15] (by decide +kernel) (by decide +kernel)
set_option maxRecDepth 20000 in
theorem gX0_patternAmplitude_J9_floorDiv_7cf53 : GoodIn wsX0_patternAmplitude (va_wsS RX0 46 yJ9_floorDiv_7cf53 wsJ9_floorDiv_7cf53) := goodIn_app (goodIn_of _ (by decide +kernel)) ggX0_patternAmplitude_J9_floorDiv_7cf53
theorem dX0_patternAmplitude_0 : decode cX0_patternAmplitude 0 = .ok (.iconst 0, 1) := by decide +kernel
theorem dX0_patternAmplitude_1 : decode cX0_patternAmplitude 1 = .ok (.istore_n 2, 1) := by decide +kernel
theorem dX0_patternAmplitude_2 : decode cX0_patternAmplitude 2 = .ok (.iconst 0, 1) := by decide +kernel
theorem dX0_patternAmplitude_3 : decode cX0_patternAmplitude 3 = .ok (.istore_n 3, 1) := by decide +kernel
theorem dX0_patternAmplitude_4 : decode cX0_patternAmplitude 4 = .ok (.iload_n 3, 1) := by decide +kernel
theorem dX0_patternAmplitude_5 : decode cX0_patternAmplitude 5 = .ok (.bipush 8, 2) := by decide +kernel
theorem dX0_patternAmplitude_7 : decode cX0_patternAmplitude 7 = .ok (.if_icmp .ge 24, 3) := by decide +kernel
theorem dX0_patternAmplitude_10 : decode cX0_patternAmplitude 10 = .ok (.iload_n 2, 1) := by decide +kernel
theorem dX0_patternAmplitude_11 : decode cX0_patternAmplitude 11 = .ok (.aload_n 0, 1) := by decide +kernel
theorem dX0_patternAmplitude_12 : decode cX0_patternAmplitude 12 = .ok (.getfield 15, 3) := by decide +kernel
theorem dX0_patternAmplitude_15 : decode cX0_patternAmplitude 15 = .ok (.iload_n 3, 1) := by decide +kernel
theorem dX0_patternAmplitude_16 : decode cX0_patternAmplitude 16 = .ok (.iaload, 1) := by decide +kernel
theorem dX0_patternAmplitude_17 : decode cX0_patternAmplitude 17 = .ok (.iload_n 1, 1) := by decide +kernel
theorem dX0_patternAmplitude_18 : decode cX0_patternAmplitude 18 = .ok (.iload_n 3, 1) := by decide +kernel
theorem dX0_patternAmplitude_19 : decode cX0_patternAmplitude 19 = .ok (.invokestatic 39, 3) := by decide +kernel
theorem dX0_patternAmplitude_22 : decode cX0_patternAmplitude 22 = .ok (.imul, 1) := by decide +kernel
theorem dX0_patternAmplitude_23 : decode cX0_patternAmplitude 23 = .ok (.iadd, 1) := by decide +kernel
theorem dX0_patternAmplitude_24 : decode cX0_patternAmplitude 24 = .ok (.istore_n 2, 1) := by decide +kernel
theorem dX0_patternAmplitude_25 : decode cX0_patternAmplitude 25 = .ok (.iinc 3 1, 3) := by decide +kernel
theorem dX0_patternAmplitude_28 : decode cX0_patternAmplitude 28 = .ok (.goto (-24), 3) := by decide +kernel
theorem dX0_patternAmplitude_31 : decode cX0_patternAmplitude 31 = .ok (.iload_n 2, 1) := by decide +kernel
theorem dX0_patternAmplitude_32 : decode cX0_patternAmplitude 32 = .ok (.bipush 8, 2) := by decide +kernel
theorem dX0_patternAmplitude_34 : decode cX0_patternAmplitude 34 = .ok (.invokestatic 46, 3) := by decide +kernel
theorem dX0_patternAmplitude_37 : decode cX0_patternAmplitude 37 = .ok (.ireturn, 1) := by decide +kernel
set_option maxRecDepth 20000 in
theorem ggX0_errorWithout_X0_drawnAmplitude : GoodIn wsX0_errorWithout wsX0_drawnAmplitude := goodIn_r _ [5, 6, 7, 8, 9, 4, 10, 11, 12, 13, 14, 15] (by decide +kernel) (by decide +kernel)
set_option maxRecDepth 20000 in
theorem gX0_errorWithout_X0_drawnAmplitude : GoodIn wsX0_errorWithout (wsV RX0 35 RX0 yX0_drawnAmplitude wsX0_drawnAmplitude) := goodIn_app (goodIn_of _ (by decide +kernel)) ggX0_errorWithout_X0_drawnAmplitude
theorem dX0_errorWithout_0 : decode cX0_errorWithout 0 = .ok (.bipush 8, 2) := by decide +kernel
theorem dX0_errorWithout_2 : decode cX0_errorWithout 2 = .ok (.aload_n 0, 1) := by decide +kernel
theorem dX0_errorWithout_3 : decode cX0_errorWithout 3 = .ok (.iload_n 1, 1) := by decide +kernel
theorem dX0_errorWithout_4 : decode cX0_errorWithout 4 = .ok (.invokevirtual 35, 3) := by decide +kernel
theorem dX0_errorWithout_7 : decode cX0_errorWithout 7 = .ok (.imul, 1) := by decide +kernel
theorem dX0_errorWithout_8 : decode cX0_errorWithout 8 = .ok (.aload_n 0, 1) := by decide +kernel
theorem dX0_errorWithout_9 : decode cX0_errorWithout 9 = .ok (.iload_n 1, 1) := by decide +kernel
theorem dX0_errorWithout_10 : decode cX0_errorWithout 10 = .ok (.invokevirtual 35, 3) := by decide +kernel
theorem dX0_errorWithout_13 : decode cX0_errorWithout 13 = .ok (.imul, 1) := by decide +kernel
theorem dX0_errorWithout_14 : decode cX0_errorWithout 14 = .ok (.ireturn, 1) := by decide +kernel
set_option maxRecDepth 20000 in
theorem ggX1_init_X0_init : GoodIn wsX1_init wsX0_init := goodIn_r _ [11, 12, 2, 3, 13, 14, 15, 16, 17, 21, 22, 23, 24] (by decide +kernel) (by decide +kernel)
set_option maxRecDepth 20000 in
theorem gX1_init_X0_init_n22 : GoodIn wsX1_init (wsX0_init) := ggX1_init_X0_init
theorem dX1_init_0 : decode cX1_init 0 = .ok (.aload_n 0, 1) := by decide +kernel
theorem dX1_init_1 : decode cX1_init 1 = .ok (.invokespecial 1, 3) := by decide +kernel
theorem dX1_init_4 : decode cX1_init 4 = .ok (.aload_n 0, 1) := by decide +kernel
theorem dX1_init_5 : decode cX1_init 5 = .ok (.bipush 6, 2) := by decide +kernel
theorem dX1_init_7 : decode cX1_init 7 = .ok (.anewarray 9, 3) := by decide +kernel
theorem dX1_init_10 : decode cX1_init 10 = .ok (.putfield 11, 3) := by decide +kernel
theorem dX1_init_13 : decode cX1_init 13 = .ok (.aload_n 0, 1) := by decide +kernel
theorem dX1_init_14 : decode cX1_init 14 = .ok (.iconst 0, 1) := by decide +kernel
theorem dX1_init_15 : decode cX1_init 15 = .ok (.putfield 15, 3) := by decide +kernel
theorem dX1_init_18 : decode cX1_init 18 = .ok (.aload_n 0, 1) := by decide +kernel
theorem dX1_init_19 : decode cX1_init 19 = .ok (.iconst 0, 1) := by decide +kernel
theorem dX1_init_20 : decode cX1_init 20 = .ok (.putfield 19, 3) := by decide +kernel
theorem dX1_init_23 : decode cX1_init 23 = .ok (.iconst 0, 1) := by decide +kernel
theorem dX1_init_24 : decode cX1_init 24 = .ok (.istore_n 1, 1) := by decide +kernel
theorem dX1_init_25 : decode cX1_init 25 = .ok (.iload_n 1, 1) := by decide +kernel
theorem dX1_init_26 : decode cX1_init 26 = .ok (.bipush 6, 2) := by decide +kernel
theorem dX1_init_28 : decode cX1_init 28 = .ok (.if_icmp .ge 22, 3) := by decide +kernel
theorem dX1_init_31 : decode cX1_init 31 = .ok (.aload_n 0, 1) := by decide +kernel
theorem dX1_init_32 : decode cX1_init 32 = .ok (.getfield 11, 3) := by decide +kernel
theorem dX1_init_35 : decode cX1_init 35 = .ok (.iload_n 1, 1) := by decide +kernel
theorem dX1_init_36 : decode cX1_init 36 = .ok (.new 9, 3) := by decide +kernel
theorem dX1_init_39 : decode cX1_init 39 = .ok (.dup, 1) := by decide +kernel
theorem dX1_init_40 : decode cX1_init 40 = .ok (.invokespecial 22, 3) := by decide +kernel
theorem dX1_init_43 : decode cX1_init 43 = .ok (.aastore, 1) := by decide +kernel
theorem dX1_init_44 : decode cX1_init 44 = .ok (.iinc 1 1, 3) := by decide +kernel
theorem dX1_init_47 : decode cX1_init 47 = .ok (.goto (-22), 3) := by decide +kernel
theorem dX1_init_50 : decode cX1_init 50 = .ok (.return_, 1) := by decide +kernel
set_option maxRecDepth 20000 in
theorem ggX1_push_X0_takeFrom : GoodIn wsX1_push wsX0_takeFrom := goodIn_r _ [11, 12, 13, 14, 15, 16, 17, 18, 19, 23, 24, 25, 26] (by decide +kernel) (by decide +kernel)
set_option maxRecDepth 20000 in
theorem gX1_push_X0_takeFrom_n23 : GoodIn wsX1_push (wsX0_takeFrom) := ggX1_push_X0_takeFrom
theorem dX1_push_0 : decode cX1_push 0 = .ok (.aload_n 0, 1) := by decide +kernel
theorem dX1_push_1 : decode cX1_push 1 = .ok (.getfield 11, 3) := by decide +kernel
theorem dX1_push_4 : decode cX1_push 4 = .ok (.aload_n 0, 1) := by decide +kernel
theorem dX1_push_5 : decode cX1_push 5 = .ok (.getfield 15, 3) := by decide +kernel
theorem dX1_push_8 : decode cX1_push 8 = .ok (.aaload, 1) := by decide +kernel
theorem dX1_push_9 : decode cX1_push 9 = .ok (.aload_n 1, 1) := by decide +kernel
theorem dX1_push_10 : decode cX1_push 10 = .ok (.invokevirtual 23, 3) := by decide +kernel
theorem dX1_push_13 : decode cX1_push 13 = .ok (.aload_n 0, 1) := by decide +kernel
theorem dX1_push_14 : decode cX1_push 14 = .ok (.aload_n 0, 1) := by decide +kernel
theorem dX1_push_15 : decode cX1_push 15 = .ok (.getfield 15, 3) := by decide +kernel
theorem dX1_push_18 : decode cX1_push 18 = .ok (.iconst 1, 1) := by decide +kernel
theorem dX1_push_19 : decode cX1_push 19 = .ok (.iadd, 1) := by decide +kernel
theorem dX1_push_20 : decode cX1_push 20 = .ok (.bipush 6, 2) := by decide +kernel
theorem dX1_push_22 : decode cX1_push 22 = .ok (.irem, 1) := by decide +kernel
theorem dX1_push_23 : decode cX1_push 23 = .ok (.putfield 15, 3) := by decide +kernel
theorem dX1_push_26 : decode cX1_push 26 = .ok (.aload_n 0, 1) := by decide +kernel
theorem dX1_push_27 : decode cX1_push 27 = .ok (.aload_n 0, 1) := by decide +kernel
theorem dX1_push_28 : decode cX1_push 28 = .ok (.getfield 19, 3) := by decide +kernel
theorem dX1_push_31 : decode cX1_push 31 = .ok (.iconst 1, 1) := by decide +kernel
theorem dX1_push_32 : decode cX1_push 32 = .ok (.iadd, 1) := by decide +kernel
theorem dX1_push_33 : decode cX1_push 33 = .ok (.bipush 6, 2) := by decide +kernel
theorem dX1_push_35 : decode cX1_push 35 = .ok (.invokestatic 27, 3) := by decide +kernel
theorem dX1_push_38 : decode cX1_push 38 = .ok (.putfield 19, 3) := by decide +kernel
theorem dX1_push_41 : decode cX1_push 41 = .ok (.return_, 1) := by decide +kernel
set_option maxRecDepth 20000 in
theorem ggX1_popInto_X0_takeFrom : GoodIn wsX1_popInto wsX0_takeFrom := goodIn_r _ [7, 8, 9, 10, 11, 12, 13, 14, 15, 19, 20, 21, 22] (by decide +kernel) (by decide +kernel)
set_option maxRecDepth 20000 in
theorem gX1_popInto_X0_takeFrom_n23 : GoodIn wsX1_popInto (wsX0_takeFrom) := ggX1_popInto_X0_takeFrom
theorem dX1_popInto_0 : decode cX1_popInto 0 = .ok (.aload_n 0, 1) := by decide +kernel
theorem dX1_popInto_1 : decode cX1_popInto 1 = .ok (.aload_n 0, 1) := by decide +kernel
theorem dX1_popInto_2 : decode cX1_popInto 2 = .ok (.getfield 15, 3) := by decide +kernel
theorem dX1_popInto_5 : decode cX1_popInto 5 = .ok (.bipush 6, 2) := by decide +kernel
theorem dX1_popInto_7 : decode cX1_popInto 7 = .ok (.iadd, 1) := by decide +kernel
theorem dX1_popInto_8 : decode cX1_popInto 8 = .ok (.iconst 1, 1) := by decide +kernel
theorem dX1_popInto_9 : decode cX1_popInto 9 = .ok (.isub, 1) := by decide +kernel
theorem dX1_popInto_10 : decode cX1_popInto 10 = .ok (.bipush 6, 2) := by decide +kernel
theorem dX1_popInto_12 : decode cX1_popInto 12 = .ok (.irem, 1) := by decide +kernel
theorem dX1_popInto_13 : decode cX1_popInto 13 = .ok (.putfield 15, 3) := by decide +kernel
theorem dX1_popInto_16 : decode cX1_popInto 16 = .ok (.aload_n 0, 1) := by decide +kernel
theorem dX1_popInto_17 : decode cX1_popInto 17 = .ok (.dup, 1) := by decide +kernel
theorem dX1_popInto_18 : decode cX1_popInto 18 = .ok (.getfield 19, 3) := by decide +kernel
theorem dX1_popInto_21 : decode cX1_popInto 21 = .ok (.iconst 1, 1) := by decide +kernel
theorem dX1_popInto_22 : decode cX1_popInto 22 = .ok (.isub, 1) := by decide +kernel
theorem dX1_popInto_23 : decode cX1_popInto 23 = .ok (.putfield 19, 3) := by decide +kernel
theorem dX1_popInto_26 : decode cX1_popInto 26 = .ok (.aload_n 1, 1) := by decide +kernel
theorem dX1_popInto_27 : decode cX1_popInto 27 = .ok (.aload_n 0, 1) := by decide +kernel
theorem dX1_popInto_28 : decode cX1_popInto 28 = .ok (.getfield 11, 3) := by decide +kernel
theorem dX1_popInto_31 : decode cX1_popInto 31 = .ok (.aload_n 0, 1) := by decide +kernel
theorem dX1_popInto_32 : decode cX1_popInto 32 = .ok (.getfield 15, 3) := by decide +kernel
theorem dX1_popInto_35 : decode cX1_popInto 35 = .ok (.aaload, 1) := by decide +kernel
theorem dX1_popInto_36 : decode cX1_popInto 36 = .ok (.invokevirtual 23, 3) := by decide +kernel
theorem dX1_popInto_39 : decode cX1_popInto 39 = .ok (.return_, 1) := by decide +kernel
theorem dX2_init_0 : decode cX2_init 0 = .ok (.aload_n 0, 1) := by decide +kernel
theorem dX2_init_1 : decode cX2_init 1 = .ok (.invokespecial 3, 3) := by decide +kernel
theorem dX2_init_4 : decode cX2_init 4 = .ok (.aload_n 0, 1) := by decide +kernel
theorem dX2_init_5 : decode cX2_init 5 = .ok (.bipush 60, 2) := by decide +kernel
theorem dX2_init_7 : decode cX2_init 7 = .ok (.newarray .char, 2) := by decide +kernel
theorem dX2_init_9 : decode cX2_init 9 = .ok (.putfield 11, 3) := by decide +kernel
theorem dX2_init_12 : decode cX2_init 12 = .ok (.aload_n 0, 1) := by decide +kernel
theorem dX2_init_13 : decode cX2_init 13 = .ok (.iconst 0, 1) := by decide +kernel
theorem dX2_init_14 : decode cX2_init 14 = .ok (.putfield 15, 3) := by decide +kernel
theorem dX2_init_17 : decode cX2_init 17 = .ok (.return_, 1) := by decide +kernel
theorem dX2_isFull_0 : decode cX2_isFull 0 = .ok (.aload_n 0, 1) := by decide +kernel
theorem dX2_isFull_1 : decode cX2_isFull 1 = .ok (.getfield 15, 3) := by decide +kernel
theorem dX2_isFull_4 : decode cX2_isFull 4 = .ok (.bipush 60, 2) := by decide +kernel
theorem dX2_isFull_6 : decode cX2_isFull 6 = .ok (.if_icmp .lt 7, 3) := by decide +kernel
theorem dX2_isFull_9 : decode cX2_isFull 9 = .ok (.iconst 1, 1) := by decide +kernel
theorem dX2_isFull_10 : decode cX2_isFull 10 = .ok (.goto 4, 3) := by decide +kernel
theorem dX2_isFull_13 : decode cX2_isFull 13 = .ok (.iconst 0, 1) := by decide +kernel
theorem dX2_isFull_14 : decode cX2_isFull 14 = .ok (.ireturn, 1) := by decide +kernel
theorem dX2_put_0 : decode cX2_put 0 = .ok (.aload_n 0, 1) := by decide +kernel
theorem dX2_put_1 : decode cX2_put 1 = .ok (.getfield 11, 3) := by decide +kernel
theorem dX2_put_4 : decode cX2_put 4 = .ok (.aload_n 0, 1) := by decide +kernel
theorem dX2_put_5 : decode cX2_put 5 = .ok (.getfield 15, 3) := by decide +kernel
theorem dX2_put_8 : decode cX2_put 8 = .ok (.iload_n 1, 1) := by decide +kernel
theorem dX2_put_9 : decode cX2_put 9 = .ok (.castore, 1) := by decide +kernel
theorem dX2_put_10 : decode cX2_put 10 = .ok (.aload_n 0, 1) := by decide +kernel
theorem dX2_put_11 : decode cX2_put 11 = .ok (.dup, 1) := by decide +kernel
theorem dX2_put_12 : decode cX2_put 12 = .ok (.getfield 15, 3) := by decide +kernel
theorem dX2_put_15 : decode cX2_put 15 = .ok (.iconst 1, 1) := by decide +kernel
theorem dX2_put_16 : decode cX2_put 16 = .ok (.iadd, 1) := by decide +kernel
theorem dX2_put_17 : decode cX2_put 17 = .ok (.putfield 15, 3) := by decide +kernel
theorem dX2_put_20 : decode cX2_put 20 = .ok (.return_, 1) := by decide +kernel
theorem dX2_empty_0 : decode cX2_empty 0 = .ok (.aload_n 0, 1) := by decide +kernel
theorem dX2_empty_1 : decode cX2_empty 1 = .ok (.iconst 0, 1) := by decide +kernel
theorem dX2_empty_2 : decode cX2_empty 2 = .ok (.putfield 15, 3) := by decide +kernel
theorem dX2_empty_5 : decode cX2_empty 5 = .ok (.return_, 1) := by decide +kernel
set_option maxRecDepth 20000 in
theorem ggX2_errorPlace_X2_placeBehind : GoodIn wsX2_errorPlace wsX2_placeBehind := goodIn_r _ [6, 7, 8, 5, 9, 10, 11, 12, 13, 14, 15, 16, 17, 18] (by decide +kernel) (by decide +kernel)
set_option maxRecDepth 20000 in
theorem gX2_errorPlace_X2_placeBehind : GoodIn wsX2_errorPlace (va_wsS RX2 19 yX2_placeBehind wsX2_placeBehind) := goodIn_app (goodIn_of _ (by decide +kernel)) ggX2_errorPlace_X2_placeBehind
theorem dX2_errorPlace_0 : decode cX2_errorPlace 0 = .ok (.iconst 0, 1) := by decide +kernel
theorem dX2_errorPlace_1 : decode cX2_errorPlace 1 = .ok (.istore_n 1, 1) := by decide +kernel
theorem dX2_errorPlace_2 : decode cX2_errorPlace 2 = .ok (.iconst 0, 1) := by decide +kernel
theorem dX2_errorPlace_3 : decode cX2_errorPlace 3 = .ok (.istore_n 2, 1) := by decide +kernel
theorem dX2_errorPlace_4 : decode cX2_errorPlace 4 = .ok (.iload_n 2, 1) := by decide +kernel
theorem dX2_errorPlace_5 : decode cX2_errorPlace 5 = .ok (.aload_n 0, 1) := by decide +kernel
theorem dX2_errorPlace_6 : decode cX2_errorPlace 6 = .ok (.getfield 15, 3) := by decide +kernel
theorem dX2_errorPlace_9 : decode cX2_errorPlace 9 = .ok (.if_icmp .ge 27, 3) := by decide +kernel
theorem dX2_errorPlace_12 : decode cX2_errorPlace 12 = .ok (.iload_n 1, 1) := by decide +kernel
theorem dX2_errorPlace_13 : decode cX2_errorPlace 13 = .ok (.aload_n 0, 1) := by decide +kernel
theorem dX2_errorPlace_14 : decode cX2_errorPlace 14 = .ok (.getfield 11, 3) := by decide +kernel
theorem dX2_errorPlace_17 : decode cX2_errorPlace 17 = .ok (.iload_n 2, 1) := by decide +kernel
theorem dX2_errorPlace_18 : decode cX2_errorPlace 18 = .ok (.caload, 1) := by decide +kernel
theorem dX2_errorPlace_19 : decode cX2_errorPlace 19 = .ok (.invokestatic 19, 3) := by decide +kernel
theorem dX2_errorPlace_22 : decode cX2_errorPlace 22 = .ok (.istore_n 1, 1) := by decide +kernel
theorem dX2_errorPlace_23 : decode cX2_errorPlace 23 = .ok (.iload_n 1, 1) := by decide +kernel
theorem dX2_errorPlace_24 : decode cX2_errorPlace 24 = .ok (.iconst (-1), 1) := by decide +kernel
theorem dX2_errorPlace_25 : decode cX2_errorPlace 25 = .ok (.if_icmp .ne 5, 3) := by decide +kernel
theorem dX2_errorPlace_28 : decode cX2_errorPlace 28 = .ok (.iload_n 2, 1) := by decide +kernel
theorem dX2_errorPlace_29 : decode cX2_errorPlace 29 = .ok (.ireturn, 1) := by decide +kernel
theorem dX2_errorPlace_30 : decode cX2_errorPlace 30 = .ok (.iinc 2 1, 3) := by decide +kernel
theorem dX2_errorPlace_33 : decode cX2_errorPlace 33 = .ok (.goto (-29), 3) := by decide +kernel
theorem dX2_errorPlace_36 : decode cX2_errorPlace 36 = .ok (.aload_n 0, 1) := by decide +kernel
theorem dX2_errorPlace_37 : decode cX2_errorPlace 37 = .ok (.getfield 15, 3) := by decide +kernel
theorem dX2_errorPlace_40 : decode cX2_errorPlace 40 = .ok (.ireturn, 1) := by decide +kernel
set_option maxRecDepth 20000 in
theorem ggX2_tellsWheels_X2_placeBehind : GoodIn wsX2_tellsWheels wsX2_placeBehind := goodIn_r _ [6, 7, 8, 5, 9, 10, 11, 12, 13, 14, 15, 16, 17, 18] (by decide +kernel) (by decide +kernel)
set_option maxRecDepth 20000 in
theorem gX2_tellsWheels_X2_placeBehind : GoodIn wsX2_tellsWheels (va_wsS RX2 19 yX2_placeBehind wsX2_placeBehind) := goodIn_app (goodIn_of _ (by decide +kernel)) ggX2_tellsWheels_X2_placeBehind
theorem dX2_tellsWheels_0 : decode cX2_tellsWheels 0 = .ok (.iconst 0, 1) := by decide +kernel
theorem dX2_tellsWheels_1 : decode cX2_tellsWheels 1 = .ok (.istore_n 1, 1) := by decide +kernel
theorem dX2_tellsWheels_2 : decode cX2_tellsWheels 2 = .ok (.iconst 0, 1) := by decide +kernel
theorem dX2_tellsWheels_3 : decode cX2_tellsWheels 3 = .ok (.istore_n 2, 1) := by decide +kernel
theorem dX2_tellsWheels_4 : decode cX2_tellsWheels 4 = .ok (.iload_n 2, 1) := by decide +kernel
theorem dX2_tellsWheels_5 : decode cX2_tellsWheels 5 = .ok (.aload_n 0, 1) := by decide +kernel
theorem dX2_tellsWheels_6 : decode cX2_tellsWheels 6 = .ok (.getfield 15, 3) := by decide +kernel
theorem dX2_tellsWheels_9 : decode cX2_tellsWheels 9 = .ok (.if_icmp .ge 25, 3) := by decide +kernel
theorem dX2_tellsWheels_12 : decode cX2_tellsWheels 12 = .ok (.iload_n 1, 1) := by decide +kernel
theorem dX2_tellsWheels_13 : decode cX2_tellsWheels 13 = .ok (.iconst (-1), 1) := by decide +kernel
theorem dX2_tellsWheels_14 : decode cX2_tellsWheels 14 = .ok (.if_icmp .eq 20, 3) := by decide +kernel
theorem dX2_tellsWheels_17 : decode cX2_tellsWheels 17 = .ok (.iload_n 1, 1) := by decide +kernel
theorem dX2_tellsWheels_18 : decode cX2_tellsWheels 18 = .ok (.aload_n 0, 1) := by decide +kernel
theorem dX2_tellsWheels_19 : decode cX2_tellsWheels 19 = .ok (.getfield 11, 3) := by decide +kernel
theorem dX2_tellsWheels_22 : decode cX2_tellsWheels 22 = .ok (.iload_n 2, 1) := by decide +kernel
theorem dX2_tellsWheels_23 : decode cX2_tellsWheels 23 = .ok (.caload, 1) := by decide +kernel
theorem dX2_tellsWheels_24 : decode cX2_tellsWheels 24 = .ok (.invokestatic 19, 3) := by decide +kernel
theorem dX2_tellsWheels_27 : decode cX2_tellsWheels 27 = .ok (.istore_n 1, 1) := by decide +kernel
theorem dX2_tellsWheels_28 : decode cX2_tellsWheels 28 = .ok (.iinc 2 1, 3) := by decide +kernel
theorem dX2_tellsWheels_31 : decode cX2_tellsWheels 31 = .ok (.goto (-27), 3) := by decide +kernel
theorem dX2_tellsWheels_34 : decode cX2_tellsWheels 34 = .ok (.iload_n 1, 1) := by decide +kernel
theorem dX2_tellsWheels_35 : decode cX2_tellsWheels 35 = .ok (.iconst 4, 1) := by decide +kernel
theorem dX2_tellsWheels_36 : decode cX2_tellsWheels 36 = .ok (.if_icmp .eq 8, 3) := by decide +kernel
theorem dX2_tellsWheels_39 : decode cX2_tellsWheels 39 = .ok (.iload_n 1, 1) := by decide +kernel
theorem dX2_tellsWheels_40 : decode cX2_tellsWheels 40 = .ok (.iconst 5, 1) := by decide +kernel
theorem dX2_tellsWheels_41 : decode cX2_tellsWheels 41 = .ok (.if_icmp .ne 7, 3) := by decide +kernel
theorem dX2_tellsWheels_44 : decode cX2_tellsWheels 44 = .ok (.iconst 1, 1) := by decide +kernel
theorem dX2_tellsWheels_45 : decode cX2_tellsWheels 45 = .ok (.goto 4, 3) := by decide +kernel
theorem dX2_tellsWheels_48 : decode cX2_tellsWheels 48 = .ok (.iconst 0, 1) := by decide +kernel
theorem dX2_tellsWheels_49 : decode cX2_tellsWheels 49 = .ok (.ireturn, 1) := by decide +kernel
set_option maxRecDepth 20000 in
theorem ggX2_placeBehind_X2_isLetter : GoodIn wsX2_placeBehind wsX2_isLetter := goodIn_r _ [4] (by decide +kernel) (by decide +kernel)
set_option maxRecDepth 20000 in
theorem gX2_placeBehind_X2_isLetter : GoodIn wsX2_placeBehind (va_wsS RX2 23 yX2_isLetter wsX2_isLetter) := goodIn_app (goodIn_of _ (by decide +kernel)) ggX2_placeBehind_X2_isLetter
set_option maxRecDepth 20000 in
theorem ggX2_placeBehind_X2_placeBehindFirstDigit : GoodIn wsX2_placeBehind wsX2_placeBehindFirstDigit := goodIn_r _ [7, 8, 9, 3, 10] (by decide +kernel) (by decide +kernel)
set_option maxRecDepth 20000 in
theorem gX2_placeBehind_X2_placeBehindFirstDigit : GoodIn wsX2_placeBehind (va_wsS RX2 27 yX2_placeBehindFirstDigit wsX2_placeBehindFirstDigit) := goodIn_app (goodIn_of _ (by decide +kernel)) ggX2_placeBehind_X2_placeBehindFirstDigit
set_option maxRecDepth 20000 in
theorem ggX2_placeBehind_X2_isDigit : GoodIn wsX2_placeBehind wsX2_isDigit := goodIn_r _ [10] (by decide +kernel) (by decide +kernel)
set_option maxRecDepth 20000 in
theorem gX2_placeBehind_X2_isDigit : GoodIn wsX2_placeBehind (va_wsS RX2 31 yX2_isDigit wsX2_isDigit) := goodIn_app (goodIn_of _ (by decide +kernel)) ggX2_placeBehind_X2_isDigit
set_option maxRecDepth 20000 in
theorem ggX2_placeBehind_X2_placeBehindWheel : GoodIn wsX2_placeBehind wsX2_placeBehindWheel := goodIn_r _ [13] (by decide +kernel) (by decide +kernel)
set_option maxRecDepth 20000 in
theorem gX2_placeBehind_X2_placeBehindWheel : GoodIn wsX2_placeBehind (va_wsS RX2 34 yX2_placeBehindWheel wsX2_placeBehindWheel) := goodIn_app (goodIn_of _ (by decide +kernel)) ggX2_placeBehind_X2_placeBehindWheel
theorem dX2_placeBehind_0 : decode cX2_placeBehind 0 = .ok (.iload_n 0, 1) := by decide +kernel
theorem dX2_placeBehind_1 : decode cX2_placeBehind 1 = .ok (.tableswitch 116 0 4 #[35, 48, 70, 85, 100], 35) := by decide +kernel
theorem dX2_placeBehind_36 : decode cX2_placeBehind 36 = .ok (.iload_n 1, 1) := by decide +kernel
theorem dX2_placeBehind_37 : decode cX2_placeBehind 37 = .ok (.invokestatic 23, 3) := by decide +kernel
theorem dX2_placeBehind_40 : decode cX2_placeBehind 40 = .ok (.ifCond .eq 7, 3) := by decide +kernel
theorem dX2_placeBehind_43 : decode cX2_placeBehind 43 = .ok (.iconst 1, 1) := by decide +kernel
theorem dX2_placeBehind_44 : decode cX2_placeBehind 44 = .ok (.goto 4, 3) := by decide +kernel
theorem dX2_placeBehind_47 : decode cX2_placeBehind 47 = .ok (.iconst (-1), 1) := by decide +kernel
theorem dX2_placeBehind_48 : decode cX2_placeBehind 48 = .ok (.ireturn, 1) := by decide +kernel
theorem dX2_placeBehind_49 : decode cX2_placeBehind 49 = .ok (.iload_n 1, 1) := by decide +kernel
theorem dX2_placeBehind_50 : decode cX2_placeBehind 50 = .ok (.bipush 61, 2) := by decide +kernel
theorem dX2_placeBehind_52 : decode cX2_placeBehind 52 = .ok (.if_icmp .ne 7, 3) := by decide +kernel
theorem dX2_placeBehind_55 : decode cX2_placeBehind 55 = .ok (.iconst 2, 1) := by decide +kernel
theorem dX2_placeBehind_56 : decode cX2_placeBehind 56 = .ok (.goto 14, 3) := by decide +kernel
theorem dX2_placeBehind_59 : decode cX2_placeBehind 59 = .ok (.iload_n 1, 1) := by decide +kernel
theorem dX2_placeBehind_60 : decode cX2_placeBehind 60 = .ok (.bipush 33, 2) := by decide +kernel
theorem dX2_placeBehind_62 : decode cX2_placeBehind 62 = .ok (.if_icmp .ne 7, 3) := by decide +kernel
theorem dX2_placeBehind_65 : decode cX2_placeBehind 65 = .ok (.iconst 5, 1) := by decide +kernel
theorem dX2_placeBehind_66 : decode cX2_placeBehind 66 = .ok (.goto 4, 3) := by decide +kernel
theorem dX2_placeBehind_69 : decode cX2_placeBehind 69 = .ok (.iconst (-1), 1) := by decide +kernel
theorem dX2_placeBehind_70 : decode cX2_placeBehind 70 = .ok (.ireturn, 1) := by decide +kernel
theorem dX2_placeBehind_71 : decode cX2_placeBehind 71 = .ok (.iload_n 1, 1) := by decide +kernel
theorem dX2_placeBehind_72 : decode cX2_placeBehind 72 = .ok (.bipush 45, 2) := by decide +kernel
theorem dX2_placeBehind_74 : decode cX2_placeBehind 74 = .ok (.if_icmp .ne 7, 3) := by decide +kernel
theorem dX2_placeBehind_77 : decode cX2_placeBehind 77 = .ok (.iconst 3, 1) := by decide +kernel
theorem dX2_placeBehind_78 : decode cX2_placeBehind 78 = .ok (.goto 7, 3) := by decide +kernel
theorem dX2_placeBehind_81 : decode cX2_placeBehind 81 = .ok (.iload_n 1, 1) := by decide +kernel
theorem dX2_placeBehind_82 : decode cX2_placeBehind 82 = .ok (.invokestatic 27, 3) := by decide +kernel
theorem dX2_placeBehind_85 : decode cX2_placeBehind 85 = .ok (.ireturn, 1) := by decide +kernel
theorem dX2_placeBehind_86 : decode cX2_placeBehind 86 = .ok (.iload_n 1, 1) := by decide +kernel
theorem dX2_placeBehind_87 : decode cX2_placeBehind 87 = .ok (.bipush 48, 2) := by decide +kernel
theorem dX2_placeBehind_89 : decode cX2_placeBehind 89 = .ok (.if_icmp .ne 7, 3) := by decide +kernel
theorem dX2_placeBehind_92 : decode cX2_placeBehind 92 = .ok (.iconst (-1), 1) := by decide +kernel
theorem dX2_placeBehind_93 : decode cX2_placeBehind 93 = .ok (.goto 7, 3) := by decide +kernel
theorem dX2_placeBehind_96 : decode cX2_placeBehind 96 = .ok (.iload_n 1, 1) := by decide +kernel
theorem dX2_placeBehind_97 : decode cX2_placeBehind 97 = .ok (.invokestatic 27, 3) := by decide +kernel
theorem dX2_placeBehind_100 : decode cX2_placeBehind 100 = .ok (.ireturn, 1) := by decide +kernel
theorem dX2_placeBehind_101 : decode cX2_placeBehind 101 = .ok (.iload_n 1, 1) := by decide +kernel
theorem dX2_placeBehind_102 : decode cX2_placeBehind 102 = .ok (.invokestatic 31, 3) := by decide +kernel
theorem dX2_placeBehind_105 : decode cX2_placeBehind 105 = .ok (.ifCond .eq 7, 3) := by decide +kernel
theorem dX2_placeBehind_108 : decode cX2_placeBehind 108 = .ok (.iconst 5, 1) := by decide +kernel
theorem dX2_placeBehind_109 : decode cX2_placeBehind 109 = .ok (.goto 7, 3) := by decide +kernel
theorem dX2_placeBehind_112 : decode cX2_placeBehind 112 = .ok (.iload_n 1, 1) := by decide +kernel
theorem dX2_placeBehind_113 : decode cX2_placeBehind 113 = .ok (.invokestatic 34, 3) := by decide +kernel
theorem dX2_placeBehind_116 : decode cX2_placeBehind 116 = .ok (.ireturn, 1) := by decide +kernel
theorem dX2_placeBehind_117 : decode cX2_placeBehind 117 = .ok (.iload_n 1, 1) := by decide +kernel
theorem dX2_placeBehind_118 : decode cX2_placeBehind 118 = .ok (.invokestatic 34, 3) := by decide +kernel
theorem dX2_placeBehind_121 : decode cX2_placeBehind 121 = .ok (.ireturn, 1) := by decide +kernel
set_option maxRecDepth 20000 in
theorem ggX2_placeBehindFirstDigit_X2_isDigit : GoodIn wsX2_placeBehindFirstDigit wsX2_isDigit := goodIn_r _ [4] (by decide +kernel) (by decide +kernel)
set_option maxRecDepth 20000 in
theorem gX2_placeBehindFirstDigit_X2_isDigit : GoodIn wsX2_placeBehindFirstDigit (va_wsS RX2 31 yX2_isDigit wsX2_isDigit) := goodIn_app (goodIn_of _ (by decide +kernel)) ggX2_placeBehindFirstDigit_X2_isDigit
theorem dX2_placeBehindFirstDigit_0 : decode cX2_placeBehindFirstDigit 0 = .ok (.iload_n 0, 1) := by decide +kernel
theorem dX2_placeBehindFirstDigit_1 : decode cX2_placeBehindFirstDigit 1 = .ok (.invokestatic 31, 3) := by decide +kernel
theorem dX2_placeBehindFirstDigit_4 : decode cX2_placeBehindFirstDigit 4 = .ok (.ifCond .ne 5, 3) := by decide +kernel
theorem dX2_placeBehindFirstDigit_7 : decode cX2_placeBehindFirstDigit 7 = .ok (.iconst (-1), 1) := by decide +kernel
theorem dX2_placeBehindFirstDigit_8 : decode cX2_placeBehindFirstDigit 8 = .ok (.ireturn, 1) := by decide +kernel
theorem dX2_placeBehindFirstDigit_9 : decode cX2_placeBehindFirstDigit 9 = .ok (.iload_n 0, 1) := by decide +kernel
theorem dX2_placeBehindFirstDigit_10 : decode cX2_placeBehindFirstDigit 10 = .ok (.bipush 48, 2) := by decide +kernel
theorem dX2_placeBehindFirstDigit_12 : decode cX2_placeBehindFirstDigit 12 = .ok (.if_icmp .ne 7, 3) := by decide +kernel
theorem dX2_placeBehindFirstDigit_15 : decode cX2_placeBehindFirstDigit 15 = .ok (.iconst 5, 1) := by decide +kernel
theorem dX2_placeBehindFirstDigit_16 : decode cX2_placeBehindFirstDigit 16 = .ok (.goto 4, 3) := by decide +kernel
theorem dX2_placeBehindFirstDigit_19 : decode cX2_placeBehindFirstDigit 19 = .ok (.iconst 4, 1) := by decide +kernel
theorem dX2_placeBehindFirstDigit_20 : decode cX2_placeBehindFirstDigit 20 = .ok (.ireturn, 1) := by decide +kernel
theorem dX2_placeBehindWheel_0 : decode cX2_placeBehindWheel 0 = .ok (.iload_n 0, 1) := by decide +kernel
theorem dX2_placeBehindWheel_1 : decode cX2_placeBehindWheel 1 = .ok (.bipush 59, 2) := by decide +kernel
theorem dX2_placeBehindWheel_3 : decode cX2_placeBehindWheel 3 = .ok (.if_icmp .ne 7, 3) := by decide +kernel
theorem dX2_placeBehindWheel_6 : decode cX2_placeBehindWheel 6 = .ok (.iconst 0, 1) := by decide +kernel
theorem dX2_placeBehindWheel_7 : decode cX2_placeBehindWheel 7 = .ok (.goto 4, 3) := by decide +kernel
theorem dX2_placeBehindWheel_10 : decode cX2_placeBehindWheel 10 = .ok (.iconst (-1), 1) := by decide +kernel
theorem dX2_placeBehindWheel_11 : decode cX2_placeBehindWheel 11 = .ok (.ireturn, 1) := by decide +kernel
theorem dX2_isLetter_0 : decode cX2_isLetter 0 = .ok (.iload_n 0, 1) := by decide +kernel
theorem dX2_isLetter_1 : decode cX2_isLetter 1 = .ok (.bipush 97, 2) := by decide +kernel
theorem dX2_isLetter_3 : decode cX2_isLetter 3 = .ok (.if_icmp .lt 13, 3) := by decide +kernel
theorem dX2_isLetter_6 : decode cX2_isLetter 6 = .ok (.iload_n 0, 1) := by decide +kernel
theorem dX2_isLetter_7 : decode cX2_isLetter 7 = .ok (.bipush 104, 2) := by decide +kernel
theorem dX2_isLetter_9 : decode cX2_isLetter 9 = .ok (.if_icmp .gt 7, 3) := by decide +kernel
theorem dX2_isLetter_12 : decode cX2_isLetter 12 = .ok (.iconst 1, 1) := by decide +kernel
theorem dX2_isLetter_13 : decode cX2_isLetter 13 = .ok (.goto 4, 3) := by decide +kernel
theorem dX2_isLetter_16 : decode cX2_isLetter 16 = .ok (.iconst 0, 1) := by decide +kernel
theorem dX2_isLetter_17 : decode cX2_isLetter 17 = .ok (.ireturn, 1) := by decide +kernel
theorem dX2_isDigit_0 : decode cX2_isDigit 0 = .ok (.iload_n 0, 1) := by decide +kernel
theorem dX2_isDigit_1 : decode cX2_isDigit 1 = .ok (.bipush 48, 2) := by decide +kernel
theorem dX2_isDigit_3 : decode cX2_isDigit 3 = .ok (.if_icmp .lt 13, 3) := by decide +kernel
theorem dX2_isDigit_6 : decode cX2_isDigit 6 = .ok (.iload_n 0, 1) := by decide +kernel
theorem dX2_isDigit_7 : decode cX2_isDigit 7 = .ok (.bipush 57, 2) := by decide +kernel
theorem dX2_isDigit_9 : decode cX2_isDigit 9 = .ok (.if_icmp .gt 7, 3) := by decide +kernel
theorem dX2_isDigit_12 : decode cX2_isDigit 12 = .ok (.iconst 1, 1) := by decide +kernel
theorem dX2_isDigit_13 : decode cX2_isDigit 13 = .ok (.goto 4, 3) := by decide +kernel
theorem dX2_isDigit_16 : decode cX2_isDigit 16 = .ok (.iconst 0, 1) := by decide +kernel
theorem dX2_isDigit_17 : decode cX2_isDigit 17 = .ok (.ireturn, 1) := by decide +kernel
set_option maxRecDepth 20000 in
theorem ggX2_tellTo_X2_isLetter : GoodIn wsX2_tellTo wsX2_isLetter := goodIn_r _ [6] (by decide +kernel) (by decide +kernel)
set_option maxRecDepth 20000 in
theorem gX2_tellTo_X2_isLetter : GoodIn wsX2_tellTo (va_wsS RX2 23 yX2_isLetter wsX2_isLetter) := goodIn_app (goodIn_of _ (by decide +kernel)) ggX2_tellTo_X2_isLetter
set_option maxRecDepth 20000 in
theorem ggX2_tellTo_X2_isDigit : GoodIn wsX2_tellTo wsX2_isDigit := goodIn_r _ [9] (by decide +kernel) (by decide +kernel)
set_option maxRecDepth 20000 in
theorem gX2_tellTo_X2_isDigit : GoodIn wsX2_tellTo (va_wsS RX2 31 yX2_isDigit wsX2_isDigit) := goodIn_app (goodIn_of _ (by decide +kernel)) ggX2_tellTo_X2_isDigit
theorem dX2_tellTo_0 : decode cX2_tellTo 0 = .ok (.iconst 0, 1) := by decide +kernel
theorem dX2_tellTo_1 : decode cX2_tellTo 1 = .ok (.istore_n 2, 1) := by decide +kernel
theorem dX2_tellTo_2 : decode cX2_tellTo 2 = .ok (.iload_n 2, 1) := by decide +kernel
theorem dX2_tellTo_3 : decode cX2_tellTo 3 = .ok (.bipush 8, 2) := by decide +kernel
theorem dX2_tellTo_5 : decode cX2_tellTo 5 = .ok (.if_icmp .ge 16, 3) := by decide +kernel
theorem dX2_tellTo_8 : decode cX2_tellTo 8 = .ok (.aload_n 1, 1) := by decide +kernel
theorem dX2_tellTo_9 : decode cX2_tellTo 9 = .ok (.getfield 37, 3) := by decide +kernel
theorem dX2_tellTo_12 : decode cX2_tellTo 12 = .ok (.iload_n 2, 1) := by decide +kernel
theorem dX2_tellTo_13 : decode cX2_tellTo 13 = .ok (.iconst 0, 1) := by decide +kernel
theorem dX2_tellTo_14 : decode cX2_tellTo 14 = .ok (.iastore, 1) := by decide +kernel
theorem dX2_tellTo_15 : decode cX2_tellTo 15 = .ok (.iinc 2 1, 3) := by decide +kernel
theorem dX2_tellTo_18 : decode cX2_tellTo 18 = .ok (.goto (-16), 3) := by decide +kernel
theorem dX2_tellTo_21 : decode cX2_tellTo 21 = .ok (.aload_n 1, 1) := by decide +kernel
theorem dX2_tellTo_22 : decode cX2_tellTo 22 = .ok (.iconst 0, 1) := by decide +kernel
theorem dX2_tellTo_23 : decode cX2_tellTo 23 = .ok (.putfield 43, 3) := by decide +kernel
theorem dX2_tellTo_26 : decode cX2_tellTo 26 = .ok (.iconst 0, 1) := by decide +kernel
theorem dX2_tellTo_27 : decode cX2_tellTo 27 = .ok (.istore_n 2, 1) := by decide +kernel
theorem dX2_tellTo_28 : decode cX2_tellTo 28 = .ok (.iconst 0, 1) := by decide +kernel
theorem dX2_tellTo_29 : decode cX2_tellTo 29 = .ok (.istore_n 3, 1) := by decide +kernel
theorem dX2_tellTo_30 : decode cX2_tellTo 30 = .ok (.iconst 0, 1) := by decide +kernel
theorem dX2_tellTo_31 : decode cX2_tellTo 31 = .ok (.istore 4, 2) := by decide +kernel
theorem dX2_tellTo_33 : decode cX2_tellTo 33 = .ok (.iload 4, 2) := by decide +kernel
theorem dX2_tellTo_35 : decode cX2_tellTo 35 = .ok (.aload_n 0, 1) := by decide +kernel
theorem dX2_tellTo_36 : decode cX2_tellTo 36 = .ok (.getfield 15, 3) := by decide +kernel
theorem dX2_tellTo_39 : decode cX2_tellTo 39 = .ok (.if_icmp .ge 131, 3) := by decide +kernel
theorem dX2_tellTo_42 : decode cX2_tellTo 42 = .ok (.aload_n 0, 1) := by decide +kernel
theorem dX2_tellTo_43 : decode cX2_tellTo 43 = .ok (.getfield 11, 3) := by decide +kernel
theorem dX2_tellTo_46 : decode cX2_tellTo 46 = .ok (.iload 4, 2) := by decide +kernel
theorem dX2_tellTo_48 : decode cX2_tellTo 48 = .ok (.caload, 1) := by decide +kernel
theorem dX2_tellTo_49 : decode cX2_tellTo 49 = .ok (.istore 5, 2) := by decide +kernel
theorem dX2_tellTo_51 : decode cX2_tellTo 51 = .ok (.iload 5, 2) := by decide +kernel
theorem dX2_tellTo_53 : decode cX2_tellTo 53 = .ok (.invokestatic 23, 3) := by decide +kernel
theorem dX2_tellTo_56 : decode cX2_tellTo 56 = .ok (.ifCond .eq 12, 3) := by decide +kernel
theorem dX2_tellTo_59 : decode cX2_tellTo 59 = .ok (.iload 5, 2) := by decide +kernel
theorem dX2_tellTo_61 : decode cX2_tellTo 61 = .ok (.bipush 97, 2) := by decide +kernel
theorem dX2_tellTo_63 : decode cX2_tellTo 63 = .ok (.isub, 1) := by decide +kernel
theorem dX2_tellTo_64 : decode cX2_tellTo 64 = .ok (.istore_n 2, 1) := by decide +kernel
theorem dX2_tellTo_65 : decode cX2_tellTo 65 = .ok (.goto 99, 3) := by decide +kernel
theorem dX2_tellTo_68 : decode cX2_tellTo 68 = .ok (.iload 5, 2) := by decide +kernel
theorem dX2_tellTo_70 : decode cX2_tellTo 70 = .ok (.bipush 33, 2) := by decide +kernel
theorem dX2_tellTo_72 : decode cX2_tellTo 72 = .ok (.if_icmp .ne 18, 3) := by decide +kernel
theorem dX2_tellTo_75 : decode cX2_tellTo 75 = .ok (.aload_n 1, 1) := by decide +kernel
theorem dX2_tellTo_76 : decode cX2_tellTo 76 = .ok (.dup, 1) := by decide +kernel
theorem dX2_tellTo_77 : decode cX2_tellTo 77 = .ok (.getfield 43, 3) := by decide +kernel
theorem dX2_tellTo_80 : decode cX2_tellTo 80 = .ok (.iconst 1, 1) := by decide +kernel
theorem dX2_tellTo_81 : decode cX2_tellTo 81 = .ok (.iload_n 2, 1) := by decide +kernel
theorem dX2_tellTo_82 : decode cX2_tellTo 82 = .ok (.ishl, 1) := by decide +kernel
theorem dX2_tellTo_83 : decode cX2_tellTo 83 = .ok (.ior, 1) := by decide +kernel
theorem dX2_tellTo_84 : decode cX2_tellTo 84 = .ok (.putfield 43, 3) := by decide +kernel
theorem dX2_tellTo_87 : decode cX2_tellTo 87 = .ok (.goto 77, 3) := by decide +kernel
theorem dX2_tellTo_90 : decode cX2_tellTo 90 = .ok (.iload 5, 2) := by decide +kernel
theorem dX2_tellTo_92 : decode cX2_tellTo 92 = .ok (.bipush 61, 2) := by decide +kernel
theorem dX2_tellTo_94 : decode cX2_tellTo 94 = .ok (.if_icmp .ne 15, 3) := by decide +kernel
theorem dX2_tellTo_97 : decode cX2_tellTo 97 = .ok (.aload_n 1, 1) := by decide +kernel
theorem dX2_tellTo_98 : decode cX2_tellTo 98 = .ok (.getfield 37, 3) := by decide +kernel
theorem dX2_tellTo_101 : decode cX2_tellTo 101 = .ok (.iload_n 2, 1) := by decide +kernel
theorem dX2_tellTo_102 : decode cX2_tellTo 102 = .ok (.iconst 0, 1) := by decide +kernel
theorem dX2_tellTo_103 : decode cX2_tellTo 103 = .ok (.iastore, 1) := by decide +kernel
theorem dX2_tellTo_104 : decode cX2_tellTo 104 = .ok (.iconst 0, 1) := by decide +kernel
theorem dX2_tellTo_105 : decode cX2_tellTo 105 = .ok (.istore_n 3, 1) := by decide +kernel
theorem dX2_tellTo_106 : decode cX2_tellTo 106 = .ok (.goto 58, 3) := by decide +kernel
theorem dX2_tellTo_109 : decode cX2_tellTo 109 = .ok (.iload 5, 2) := by decide +kernel
theorem dX2_tellTo_111 : decode cX2_tellTo 111 = .ok (.bipush 45, 2) := by decide +kernel
theorem dX2_tellTo_113 : decode cX2_tellTo 113 = .ok (.if_icmp .ne 8, 3) := by decide +kernel
theorem dX2_tellTo_116 : decode cX2_tellTo 116 = .ok (.iconst 1, 1) := by decide +kernel
theorem dX2_tellTo_117 : decode cX2_tellTo 117 = .ok (.istore_n 3, 1) := by decide +kernel
theorem dX2_tellTo_118 : decode cX2_tellTo 118 = .ok (.goto 46, 3) := by decide +kernel
theorem dX2_tellTo_121 : decode cX2_tellTo 121 = .ok (.iload 5, 2) := by decide +kernel
theorem dX2_tellTo_123 : decode cX2_tellTo 123 = .ok (.invokestatic 31, 3) := by decide +kernel
theorem dX2_tellTo_126 : decode cX2_tellTo 126 = .ok (.ifCond .eq 38, 3) := by decide +kernel
theorem dX2_tellTo_129 : decode cX2_tellTo 129 = .ok (.iload 5, 2) := by decide +kernel
theorem dX2_tellTo_131 : decode cX2_tellTo 131 = .ok (.bipush 48, 2) := by decide +kernel
theorem dX2_tellTo_133 : decode cX2_tellTo 133 = .ok (.isub, 1) := by decide +kernel
theorem dX2_tellTo_134 : decode cX2_tellTo 134 = .ok (.istore 6, 2) := by decide +kernel
theorem dX2_tellTo_136 : decode cX2_tellTo 136 = .ok (.aload_n 1, 1) := by decide +kernel
theorem dX2_tellTo_137 : decode cX2_tellTo 137 = .ok (.getfield 37, 3) := by decide +kernel
theorem dX2_tellTo_140 : decode cX2_tellTo 140 = .ok (.iload_n 2, 1) := by decide +kernel
theorem dX2_tellTo_141 : decode cX2_tellTo 141 = .ok (.aload_n 1, 1) := by decide +kernel
theorem dX2_tellTo_142 : decode cX2_tellTo 142 = .ok (.getfield 37, 3) := by decide +kernel
theorem dX2_tellTo_145 : decode cX2_tellTo 145 = .ok (.iload_n 2, 1) := by decide +kernel
theorem dX2_tellTo_146 : decode cX2_tellTo 146 = .ok (.iaload, 1) := by decide +kernel
theorem dX2_tellTo_147 : decode cX2_tellTo 147 = .ok (.bipush 10, 2) := by decide +kernel
theorem dX2_tellTo_149 : decode cX2_tellTo 149 = .ok (.imul, 1) := by decide +kernel
theorem dX2_tellTo_150 : decode cX2_tellTo 150 = .ok (.iload_n 3, 1) := by decide +kernel
theorem dX2_tellTo_151 : decode cX2_tellTo 151 = .ok (.ifCond .eq 9, 3) := by decide +kernel
theorem dX2_tellTo_154 : decode cX2_tellTo 154 = .ok (.iload 6, 2) := by decide +kernel
theorem dX2_tellTo_156 : decode cX2_tellTo 156 = .ok (.ineg, 1) := by decide +kernel
theorem dX2_tellTo_157 : decode cX2_tellTo 157 = .ok (.goto 5, 3) := by decide +kernel
theorem dX2_tellTo_160 : decode cX2_tellTo 160 = .ok (.iload 6, 2) := by decide +kernel
theorem dX2_tellTo_162 : decode cX2_tellTo 162 = .ok (.iadd, 1) := by decide +kernel
theorem dX2_tellTo_163 : decode cX2_tellTo 163 = .ok (.iastore, 1) := by decide +kernel
theorem dX2_tellTo_164 : decode cX2_tellTo 164 = .ok (.iinc 4 1, 3) := by decide +kernel
theorem dX2_tellTo_167 : decode cX2_tellTo 167 = .ok (.goto (-134), 3) := by decide +kernel
theorem dX2_tellTo_170 : decode cX2_tellTo 170 = .ok (.return_, 1) := by decide +kernel
end
section
set_option maxRecDepth 20000 in
theorem ggX3_init_X0_init : GoodIn wsX3_init wsX0_init := goodIn_r _ [21, 22, 2, 3, 18, 23, 24, 25, 26, 40, 41, 42, 43] (by decide +kernel) (by decide +kernel)
set_option maxRecDepth 20000 in
theorem gX3_init_X0_init_n11 : GoodIn wsX3_init (wsX0_init) := ggX3_init_X0_init
set_option maxRecDepth 20000 in
theorem ggX3_init_X1_init : GoodIn wsX3_init wsX1_init := goodIn_r _ [28, 29, 2, 3, 30, 31, 32, 33, 5, 6, 20, 21, 22, 18, 23, 24, 25, 26, 50, 51, 52, 40, 41, 42, 43] (by decide +kernel) (by decide +kernel)
set_option maxRecDepth 20000 in
theorem gX3_init_X1_init_n26 : GoodIn wsX3_init (wsX1_init) := ggX3_init_X1_init
set_option maxRecDepth 20000 in
theorem ggX3_init_X2_init : GoodIn wsX3_init wsX2_init := goodIn_r _ [35, 36, 2, 3, 37, 38, 39, 53, 54] (by decide +kernel) (by decide +kernel)
set_option maxRecDepth 20000 in
theorem gX3_init_X2_init_n33 : GoodIn wsX3_init (wsX2_init) := ggX3_init_X2_init
theorem dX3_init_0 : decode cX3_init 0 = .ok (.aload_n 0, 1) := by decide +kernel
theorem dX3_init_1 : decode cX3_init 1 = .ok (.invokespecial 3, 3) := by decide +kernel
theorem dX3_init_4 : decode cX3_init 4 = .ok (.aload_n 0, 1) := by decide +kernel
theorem dX3_init_5 : decode cX3_init 5 = .ok (.new 9, 3) := by decide +kernel
theorem dX3_init_8 : decode cX3_init 8 = .ok (.dup, 1) := by decide +kernel
theorem dX3_init_9 : decode cX3_init 9 = .ok (.invokespecial 11, 3) := by decide +kernel
theorem dX3_init_12 : decode cX3_init 12 = .ok (.putfield 12, 3) := by decide +kernel
theorem dX3_init_15 : decode cX3_init 15 = .ok (.aload_n 0, 1) := by decide +kernel
theorem dX3_init_16 : decode cX3_init 16 = .ok (.iconst 2, 1) := by decide +kernel
theorem dX3_init_17 : decode cX3_init 17 = .ok (.anewarray 9, 3) := by decide +kernel
theorem dX3_init_20 : decode cX3_init 20 = .ok (.putfield 16, 3) := by decide +kernel
theorem dX3_init_23 : decode cX3_init 23 = .ok (.aload_n 0, 1) := by decide +kernel
theorem dX3_init_24 : decode cX3_init 24 = .ok (.iconst 0, 1) := by decide +kernel
theorem dX3_init_25 : decode cX3_init 25 = .ok (.putfield 20, 3) := by decide +kernel
theorem dX3_init_28 : decode cX3_init 28 = .ok (.aload_n 0, 1) := by decide +kernel
theorem dX3_init_29 : decode cX3_init 29 = .ok (.new 24, 3) := by decide +kernel
theorem dX3_init_32 : decode cX3_init 32 = .ok (.dup, 1) := by decide +kernel
theorem dX3_init_33 : decode cX3_init 33 = .ok (.invokespecial 26, 3) := by decide +kernel
theorem dX3_init_36 : decode cX3_init 36 = .ok (.putfield 27, 3) := by decide +kernel
theorem dX3_init_39 : decode cX3_init 39 = .ok (.aload_n 0, 1) := by decide +kernel
theorem dX3_init_40 : decode cX3_init 40 = .ok (.new 31, 3) := by decide +kernel
theorem dX3_init_43 : decode cX3_init 43 = .ok (.dup, 1) := by decide +kernel
theorem dX3_init_44 : decode cX3_init 44 = .ok (.invokespecial 33, 3) := by decide +kernel
theorem dX3_init_47 : decode cX3_init 47 = .ok (.putfield 34, 3) := by decide +kernel
theorem dX3_init_50 : decode cX3_init 50 = .ok (.aload_n 0, 1) := by decide +kernel
theorem dX3_init_51 : decode cX3_init 51 = .ok (.bipush 8, 2) := by decide +kernel
theorem dX3_init_53 : decode cX3_init 53 = .ok (.newarray .int, 2) := by decide +kernel
theorem dX3_init_55 : decode cX3_init 55 = .ok (.putfield 38, 3) := by decide +kernel
theorem dX3_init_58 : decode cX3_init 58 = .ok (.iconst 0, 1) := by decide +kernel
theorem dX3_init_59 : decode cX3_init 59 = .ok (.istore_n 1, 1) := by decide +kernel
theorem dX3_init_60 : decode cX3_init 60 = .ok (.iload_n 1, 1) := by decide +kernel
theorem dX3_init_61 : decode cX3_init 61 = .ok (.iconst 2, 1) := by decide +kernel
theorem dX3_init_62 : decode cX3_init 62 = .ok (.if_icmp .ge 22, 3) := by decide +kernel
theorem dX3_init_65 : decode cX3_init 65 = .ok (.aload_n 0, 1) := by decide +kernel
theorem dX3_init_66 : decode cX3_init 66 = .ok (.getfield 16, 3) := by decide +kernel
theorem dX3_init_69 : decode cX3_init 69 = .ok (.iload_n 1, 1) := by decide +kernel
theorem dX3_init_70 : decode cX3_init 70 = .ok (.new 9, 3) := by decide +kernel
theorem dX3_init_73 : decode cX3_init 73 = .ok (.dup, 1) := by decide +kernel
theorem dX3_init_74 : decode cX3_init 74 = .ok (.invokespecial 11, 3) := by decide +kernel
theorem dX3_init_77 : decode cX3_init 77 = .ok (.aastore, 1) := by decide +kernel
theorem dX3_init_78 : decode cX3_init 78 = .ok (.iinc 1 1, 3) := by decide +kernel
theorem dX3_init_81 : decode cX3_init 81 = .ok (.goto (-21), 3) := by decide +kernel
theorem dX3_init_84 : decode cX3_init 84 = .ok (.return_, 1) := by decide +kernel
set_option maxRecDepth 20000 in
theorem ggX3_set_X3_isNoPlace : GoodIn wsX3_set wsX3_isNoPlace := goodIn_r _ [10, 11, 12, 9, 13] (by decide +kernel) (by decide +kernel)
set_option maxRecDepth 20000 in
theorem gX3_set_X3_isNoPlace : GoodIn wsX3_set (va_wsS RX3 42 yX3_isNoPlace wsX3_isNoPlace) := goodIn_app (goodIn_of _ (by decide +kernel)) ggX3_set_X3_isNoPlace
set_option maxRecDepth 20000 in
theorem ggX3_set_X3_isOutside : GoodIn wsX3_set wsX3_isOutside := goodIn_r _ [13] (by decide +kernel) (by decide +kernel)
set_option maxRecDepth 20000 in
theorem gX3_set_X3_isOutside : GoodIn wsX3_set (va_wsS RX3 53 yX3_isOutside wsX3_isOutside) := goodIn_app (goodIn_of _ (by decide +kernel)) ggX3_set_X3_isOutside
set_option maxRecDepth 20000 in
theorem ggX3_set_X1_push : GoodIn wsX3_set wsX1_push := goodIn_r _ [17, 18, 19, 20, 21, 22, 23, 24, 25, 26, 27, 28, 29, 30, 31, 32, 33, 34, 35, 36, 47, 48, 49, 43, 44, 45, 46] (by decide +kernel) (by decide +kernel)
set_option maxRecDepth 20000 in
theorem gX3_set_X1_push_n62 : GoodIn wsX3_set (wsX1_push) := ggX3_set_X1_push
theorem dX3_set_0 : decode cX3_set 0 = .ok (.iload_n 1, 1) := by decide +kernel
theorem dX3_set_1 : decode cX3_set 1 = .ok (.invokestatic 42, 3) := by decide +kernel
theorem dX3_set_4 : decode cX3_set 4 = .ok (.ifCond .eq 13, 3) := by decide +kernel
theorem dX3_set_7 : decode cX3_set 7 = .ok (.new 46, 3) := by decide +kernel
theorem dX3_set_10 : decode cX3_set 10 = .ok (.dup, 1) := by decide +kernel
theorem dX3_set_11 : decode cX3_set 11 = .ok (.ldc 48, 2) := by decide +kernel
theorem dX3_set_13 : decode cX3_set 13 = .ok (.invokespecial 50, 3) := by decide +kernel
theorem dX3_set_16 : decode cX3_set 16 = .ok (.athrow, 1) := by decide +kernel
theorem dX3_set_17 : decode cX3_set 17 = .ok (.iload_n 2, 1) := by decide +kernel
theorem dX3_set_18 : decode cX3_set 18 = .ok (.bipush (-99), 2) := by decide +kernel
theorem dX3_set_20 : decode cX3_set 20 = .ok (.bipush 99, 2) := by decide +kernel
theorem dX3_set_22 : decode cX3_set 22 = .ok (.invokestatic 53, 3) := by decide +kernel
theorem dX3_set_25 : decode cX3_set 25 = .ok (.ifCond .eq 13, 3) := by decide +kernel
theorem dX3_set_28 : decode cX3_set 28 = .ok (.new 57, 3) := by decide +kernel
theorem dX3_set_31 : decode cX3_set 31 = .ok (.dup, 1) := by decide +kernel
theorem dX3_set_32 : decode cX3_set 32 = .ok (.ldc 59, 2) := by decide +kernel
theorem dX3_set_34 : decode cX3_set 34 = .ok (.invokespecial 61, 3) := by decide +kernel
theorem dX3_set_37 : decode cX3_set 37 = .ok (.athrow, 1) := by decide +kernel
theorem dX3_set_38 : decode cX3_set 38 = .ok (.aload_n 0, 1) := by decide +kernel
theorem dX3_set_39 : decode cX3_set 39 = .ok (.getfield 27, 3) := by decide +kernel
theorem dX3_set_42 : decode cX3_set 42 = .ok (.aload_n 0, 1) := by decide +kernel
theorem dX3_set_43 : decode cX3_set 43 = .ok (.getfield 12, 3) := by decide +kernel
theorem dX3_set_46 : decode cX3_set 46 = .ok (.invokevirtual 62, 3) := by decide +kernel
theorem dX3_set_49 : decode cX3_set 49 = .ok (.aload_n 0, 1) := by decide +kernel
theorem dX3_set_50 : decode cX3_set 50 = .ok (.getfield 12, 3) := by decide +kernel
theorem dX3_set_53 : decode cX3_set 53 = .ok (.getfield 66, 3) := by decide +kernel
theorem dX3_set_56 : decode cX3_set 56 = .ok (.iload_n 1, 1) := by decide +kernel
theorem dX3_set_57 : decode cX3_set 57 = .ok (.iaload, 1) := by decide +kernel
theorem dX3_set_58 : decode cX3_set 58 = .ok (.istore_n 3, 1) := by decide +kernel
theorem dX3_set_59 : decode cX3_set 59 = .ok (.aload_n 0, 1) := by decide +kernel
theorem dX3_set_60 : decode cX3_set 60 = .ok (.getfield 12, 3) := by decide +kernel
theorem dX3_set_63 : decode cX3_set 63 = .ok (.getfield 66, 3) := by decide +kernel
theorem dX3_set_66 : decode cX3_set 66 = .ok (.iload_n 1, 1) := by decide +kernel
theorem dX3_set_67 : decode cX3_set 67 = .ok (.iload_n 2, 1) := by decide +kernel
theorem dX3_set_68 : decode cX3_set 68 = .ok (.iastore, 1) := by decide +kernel
theorem dX3_set_69 : decode cX3_set 69 = .ok (.iload_n 3, 1) := by decide +kernel
theorem dX3_set_70 : decode cX3_set 70 = .ok (.ireturn, 1) := by decide +kernel
set_option maxRecDepth 20000 in
theorem ggX3_lose_X3_isNoPlace : GoodIn wsX3_lose wsX3_isNoPlace := goodIn_r _ [8, 9, 10, 7, 11] (by decide +kernel) (by decide +kernel)
set_option maxRecDepth 20000 in
theorem gX3_lose_X3_isNoPlace : GoodIn wsX3_lose (va_wsS RX3 42 yX3_isNoPlace wsX3_isNoPlace) := goodIn_app (goodIn_of _ (by decide +kernel)) ggX3_lose_X3_isNoPlace
set_option maxRecDepth 20000 in
theorem ggX3_lose_X1_push : GoodIn wsX3_lose wsX1_push := goodIn_r _ [15, 16, 17, 18, 19, 20, 21, 22, 23, 24, 25, 26, 27, 28, 29, 30, 31, 32, 33, 34, 48, 49, 50, 44, 45, 46, 47] (by decide +kernel) (by decide +kernel)
set_option maxRecDepth 20000 in
theorem gX3_lose_X1_push_n62 : GoodIn wsX3_lose (wsX1_push) := ggX3_lose_X1_push
set_option maxRecDepth 20000 in
theorem ggX3_lose_X0_isLost : GoodIn wsX3_lose wsX0_isLost := goodIn_r _ [37, 33, 44, 45, 46, 47] (by decide +kernel) (by decide +kernel)
set_option maxRecDepth 20000 in
theorem gX3_lose_X0_isLost_n72 : GoodIn wsX3_lose (wsX0_isLost) := ggX3_lose_X0_isLost
theorem dX3_lose_0 : decode cX3_lose 0 = .ok (.iload_n 1, 1) := by decide +kernel
theorem dX3_lose_1 : decode cX3_lose 1 = .ok (.invokestatic 42, 3) := by decide +kernel
theorem dX3_lose_4 : decode cX3_lose 4 = .ok (.ifCond .eq 13, 3) := by decide +kernel
theorem dX3_lose_7 : decode cX3_lose 7 = .ok (.new 46, 3) := by decide +kernel
theorem dX3_lose_10 : decode cX3_lose 10 = .ok (.dup, 1) := by decide +kernel
theorem dX3_lose_11 : decode cX3_lose 11 = .ok (.ldc 48, 2) := by decide +kernel
theorem dX3_lose_13 : decode cX3_lose 13 = .ok (.invokespecial 50, 3) := by decide +kernel
theorem dX3_lose_16 : decode cX3_lose 16 = .ok (.athrow, 1) := by decide +kernel
theorem dX3_lose_17 : decode cX3_lose 17 = .ok (.aload_n 0, 1) := by decide +kernel
theorem dX3_lose_18 : decode cX3_lose 18 = .ok (.getfield 27, 3) := by decide +kernel
theorem dX3_lose_21 : decode cX3_lose 21 = .ok (.aload_n 0, 1) := by decide +kernel
theorem dX3_lose_22 : decode cX3_lose 22 = .ok (.getfield 12, 3) := by decide +kernel
theorem dX3_lose_25 : decode cX3_lose 25 = .ok (.invokevirtual 62, 3) := by decide +kernel
theorem dX3_lose_28 : decode cX3_lose 28 = .ok (.aload_n 0, 1) := by decide +kernel
theorem dX3_lose_29 : decode cX3_lose 29 = .ok (.getfield 12, 3) := by decide +kernel
theorem dX3_lose_32 : decode cX3_lose 32 = .ok (.dup, 1) := by decide +kernel
theorem dX3_lose_33 : decode cX3_lose 33 = .ok (.getfield 69, 3) := by decide +kernel
theorem dX3_lose_36 : decode cX3_lose 36 = .ok (.iconst 1, 1) := by decide +kernel
theorem dX3_lose_37 : decode cX3_lose 37 = .ok (.iload_n 1, 1) := by decide +kernel
theorem dX3_lose_38 : decode cX3_lose 38 = .ok (.ishl, 1) := by decide +kernel
theorem dX3_lose_39 : decode cX3_lose 39 = .ok (.ixor, 1) := by decide +kernel
theorem dX3_lose_40 : decode cX3_lose 40 = .ok (.putfield 69, 3) := by decide +kernel
theorem dX3_lose_43 : decode cX3_lose 43 = .ok (.aload_n 0, 1) := by decide +kernel
theorem dX3_lose_44 : decode cX3_lose 44 = .ok (.getfield 12, 3) := by decide +kernel
theorem dX3_lose_47 : decode cX3_lose 47 = .ok (.iload_n 1, 1) := by decide +kernel
theorem dX3_lose_48 : decode cX3_lose 48 = .ok (.invokevirtual 72, 3) := by decide +kernel
theorem dX3_lose_51 : decode cX3_lose 51 = .ok (.ifCond .eq 7, 3) := by decide +kernel
theorem dX3_lose_54 : decode cX3_lose 54 = .ok (.iconst 1, 1) := by decide +kernel
theorem dX3_lose_55 : decode cX3_lose 55 = .ok (.goto 4, 3) := by decide +kernel
theorem dX3_lose_58 : decode cX3_lose 58 = .ok (.iconst 0, 1) := by decide +kernel
theorem dX3_lose_59 : decode cX3_lose 59 = .ok (.ireturn, 1) := by decide +kernel
set_option maxRecDepth 20000 in
theorem ggX3_turn_X3_isNoPlace : GoodIn wsX3_turn wsX3_isNoPlace := goodIn_r _ [8, 9, 10, 7, 11] (by decide +kernel) (by decide +kernel)
set_option maxRecDepth 20000 in
theorem gX3_turn_X3_isNoPlace : GoodIn wsX3_turn (va_wsS RX3 42 yX3_isNoPlace wsX3_isNoPlace) := goodIn_app (goodIn_of _ (by decide +kernel)) ggX3_turn_X3_isNoPlace
set_option maxRecDepth 20000 in
theorem ggX3_turn_X1_push : GoodIn wsX3_turn wsX1_push := goodIn_r _ [15, 16, 17, 18, 19, 20, 21, 22, 23, 24, 25, 26, 27, 28, 29, 30, 31, 32, 33, 34, 55, 56, 57, 51, 52, 53, 54] (by decide +kernel) (by decide +kernel)
set_option maxRecDepth 20000 in
theorem gX3_turn_X1_push_n62 : GoodIn wsX3_turn (wsX1_push) := ggX3_turn_X1_push
set_option maxRecDepth 20000 in
theorem ggX3_turn_X3_wave : GoodIn wsX3_turn wsX3_wave := goodIn_r _ [37, 38, 39, 40, 41, 42, 43, 44] (by decide +kernel) (by decide +kernel)
set_option maxRecDepth 20000 in
theorem gX3_turn_X3_wave : GoodIn wsX3_turn (va_wsS RX3 77 yX3_wave wsX3_wave) := goodIn_app (goodIn_of _ (by decide +kernel)) ggX3_turn_X3_wave
theorem dX3_turn_0 : decode cX3_turn 0 = .ok (.iload_n 1, 1) := by decide +kernel
theorem dX3_turn_1 : decode cX3_turn 1 = .ok (.invokestatic 42, 3) := by decide +kernel
theorem dX3_turn_4 : decode cX3_turn 4 = .ok (.ifCond .eq 13, 3) := by decide +kernel
theorem dX3_turn_7 : decode cX3_turn 7 = .ok (.new 57, 3) := by decide +kernel
theorem dX3_turn_10 : decode cX3_turn 10 = .ok (.dup, 1) := by decide +kernel
theorem dX3_turn_11 : decode cX3_turn 11 = .ok (.ldc 75, 2) := by decide +kernel
theorem dX3_turn_13 : decode cX3_turn 13 = .ok (.invokespecial 61, 3) := by decide +kernel
theorem dX3_turn_16 : decode cX3_turn 16 = .ok (.athrow, 1) := by decide +kernel
theorem dX3_turn_17 : decode cX3_turn 17 = .ok (.aload_n 0, 1) := by decide +kernel
theorem dX3_turn_18 : decode cX3_turn 18 = .ok (.getfield 27, 3) := by decide +kernel
theorem dX3_turn_21 : decode cX3_turn 21 = .ok (.aload_n 0, 1) := by decide +kernel
theorem dX3_turn_22 : decode cX3_turn 22 = .ok (.getfield 12, 3) := by decide +kernel
theorem dX3_turn_25 : decode cX3_turn 25 = .ok (.invokevirtual 62, 3) := by decide +kernel
theorem dX3_turn_28 : decode cX3_turn 28 = .ok (.iconst 0, 1) := by decide +kernel
theorem dX3_turn_29 : decode cX3_turn 29 = .ok (.istore_n 2, 1) := by decide +kernel
theorem dX3_turn_30 : decode cX3_turn 30 = .ok (.iconst 0, 1) := by decide +kernel
theorem dX3_turn_31 : decode cX3_turn 31 = .ok (.istore_n 3, 1) := by decide +kernel
theorem dX3_turn_32 : decode cX3_turn 32 = .ok (.iload_n 3, 1) := by decide +kernel
theorem dX3_turn_33 : decode cX3_turn 33 = .ok (.bipush 8, 2) := by decide +kernel
theorem dX3_turn_35 : decode cX3_turn 35 = .ok (.if_icmp .ge 51, 3) := by decide +kernel
theorem dX3_turn_38 : decode cX3_turn 38 = .ok (.iload_n 3, 1) := by decide +kernel
theorem dX3_turn_39 : decode cX3_turn 39 = .ok (.iload_n 1, 1) := by decide +kernel
theorem dX3_turn_40 : decode cX3_turn 40 = .ok (.invokestatic 77, 3) := by decide +kernel
theorem dX3_turn_43 : decode cX3_turn 43 = .ok (.ifCond .ge 37, 3) := by decide +kernel
theorem dX3_turn_46 : decode cX3_turn 46 = .ok (.aload_n 0, 1) := by decide +kernel
theorem dX3_turn_47 : decode cX3_turn 47 = .ok (.getfield 12, 3) := by decide +kernel
theorem dX3_turn_50 : decode cX3_turn 50 = .ok (.getfield 66, 3) := by decide +kernel
theorem dX3_turn_53 : decode cX3_turn 53 = .ok (.iload_n 3, 1) := by decide +kernel
theorem dX3_turn_54 : decode cX3_turn 54 = .ok (.iaload, 1) := by decide +kernel
theorem dX3_turn_55 : decode cX3_turn 55 = .ok (.ifCond .eq 25, 3) := by decide +kernel
theorem dX3_turn_58 : decode cX3_turn 58 = .ok (.aload_n 0, 1) := by decide +kernel
theorem dX3_turn_59 : decode cX3_turn 59 = .ok (.getfield 12, 3) := by decide +kernel
theorem dX3_turn_62 : decode cX3_turn 62 = .ok (.getfield 66, 3) := by decide +kernel
theorem dX3_turn_65 : decode cX3_turn 65 = .ok (.iload_n 3, 1) := by decide +kernel
theorem dX3_turn_66 : decode cX3_turn 66 = .ok (.aload_n 0, 1) := by decide +kernel
theorem dX3_turn_67 : decode cX3_turn 67 = .ok (.getfield 12, 3) := by decide +kernel
theorem dX3_turn_70 : decode cX3_turn 70 = .ok (.getfield 66, 3) := by decide +kernel
theorem dX3_turn_73 : decode cX3_turn 73 = .ok (.iload_n 3, 1) := by decide +kernel
theorem dX3_turn_74 : decode cX3_turn 74 = .ok (.iaload, 1) := by decide +kernel
theorem dX3_turn_75 : decode cX3_turn 75 = .ok (.ineg, 1) := by decide +kernel
theorem dX3_turn_76 : decode cX3_turn 76 = .ok (.iastore, 1) := by decide +kernel
theorem dX3_turn_77 : decode cX3_turn 77 = .ok (.iinc 2 1, 3) := by decide +kernel
theorem dX3_turn_80 : decode cX3_turn 80 = .ok (.iinc 3 1, 3) := by decide +kernel
theorem dX3_turn_83 : decode cX3_turn 83 = .ok (.goto (-51), 3) := by decide +kernel
theorem dX3_turn_86 : decode cX3_turn 86 = .ok (.iload_n 2, 1) := by decide +kernel
theorem dX3_turn_87 : decode cX3_turn 87 = .ok (.ireturn, 1) := by decide +kernel
set_option maxRecDepth 20000 in
theorem ggX3_drop_X3_isOutside : GoodIn wsX3_drop wsX3_isOutside := goodIn_r _ [12] (by decide +kernel) (by decide +kernel)
set_option maxRecDepth 20000 in
theorem gX3_drop_X3_isOutside : GoodIn wsX3_drop (va_wsS RX3 53 yX3_isOutside wsX3_isOutside) := goodIn_app (goodIn_of _ (by decide +kernel)) ggX3_drop_X3_isOutside
set_option maxRecDepth 20000 in
theorem ggX3_drop_X1_push : GoodIn wsX3_drop wsX1_push := goodIn_r _ [16, 17, 18, 19, 20, 21, 7, 22, 23, 24, 25, 26, 27, 28, 29, 30, 31, 32, 33, 34, 45, 46, 47, 41, 42, 43, 44] (by decide +kernel) (by decide +kernel)
set_option maxRecDepth 20000 in
theorem gX3_drop_X1_push_n62 : GoodIn wsX3_drop (wsX1_push) := ggX3_drop_X1_push
theorem dX3_drop_0 : decode cX3_drop 0 = .ok (.iload_n 1, 1) := by decide +kernel
theorem dX3_drop_1 : decode cX3_drop 1 = .ok (.iconst 1, 1) := by decide +kernel
theorem dX3_drop_2 : decode cX3_drop 2 = .ok (.bipush 99, 2) := by decide +kernel
theorem dX3_drop_4 : decode cX3_drop 4 = .ok (.invokestatic 53, 3) := by decide +kernel
theorem dX3_drop_7 : decode cX3_drop 7 = .ok (.ifCond .eq 13, 3) := by decide +kernel
theorem dX3_drop_10 : decode cX3_drop 10 = .ok (.new 57, 3) := by decide +kernel
theorem dX3_drop_13 : decode cX3_drop 13 = .ok (.dup, 1) := by decide +kernel
theorem dX3_drop_14 : decode cX3_drop 14 = .ok (.ldc 81, 2) := by decide +kernel
theorem dX3_drop_16 : decode cX3_drop 16 = .ok (.invokespecial 61, 3) := by decide +kernel
theorem dX3_drop_19 : decode cX3_drop 19 = .ok (.athrow, 1) := by decide +kernel
theorem dX3_drop_20 : decode cX3_drop 20 = .ok (.aload_n 0, 1) := by decide +kernel
theorem dX3_drop_21 : decode cX3_drop 21 = .ok (.getfield 27, 3) := by decide +kernel
theorem dX3_drop_24 : decode cX3_drop 24 = .ok (.aload_n 0, 1) := by decide +kernel
theorem dX3_drop_25 : decode cX3_drop 25 = .ok (.getfield 12, 3) := by decide +kernel
theorem dX3_drop_28 : decode cX3_drop 28 = .ok (.invokevirtual 62, 3) := by decide +kernel
theorem dX3_drop_31 : decode cX3_drop 31 = .ok (.iconst 0, 1) := by decide +kernel
theorem dX3_drop_32 : decode cX3_drop 32 = .ok (.istore_n 2, 1) := by decide +kernel
theorem dX3_drop_33 : decode cX3_drop 33 = .ok (.iconst 0, 1) := by decide +kernel
theorem dX3_drop_34 : decode cX3_drop 34 = .ok (.istore_n 3, 1) := by decide +kernel
theorem dX3_drop_35 : decode cX3_drop 35 = .ok (.iload_n 3, 1) := by decide +kernel
theorem dX3_drop_36 : decode cX3_drop 36 = .ok (.bipush 8, 2) := by decide +kernel
theorem dX3_drop_38 : decode cX3_drop 38 = .ok (.if_icmp .ge 50, 3) := by decide +kernel
theorem dX3_drop_41 : decode cX3_drop 41 = .ok (.aload_n 0, 1) := by decide +kernel
theorem dX3_drop_42 : decode cX3_drop 42 = .ok (.getfield 12, 3) := by decide +kernel
theorem dX3_drop_45 : decode cX3_drop 45 = .ok (.getfield 66, 3) := by decide +kernel
theorem dX3_drop_48 : decode cX3_drop 48 = .ok (.iload_n 3, 1) := by decide +kernel
theorem dX3_drop_49 : decode cX3_drop 49 = .ok (.iaload, 1) := by decide +kernel
theorem dX3_drop_50 : decode cX3_drop 50 = .ok (.ifCond .eq 32, 3) := by decide +kernel
theorem dX3_drop_53 : decode cX3_drop 53 = .ok (.aload_n 0, 1) := by decide +kernel
theorem dX3_drop_54 : decode cX3_drop 54 = .ok (.getfield 12, 3) := by decide +kernel
theorem dX3_drop_57 : decode cX3_drop 57 = .ok (.getfield 66, 3) := by decide +kernel
theorem dX3_drop_60 : decode cX3_drop 60 = .ok (.iload_n 3, 1) := by decide +kernel
theorem dX3_drop_61 : decode cX3_drop 61 = .ok (.iaload, 1) := by decide +kernel
theorem dX3_drop_62 : decode cX3_drop 62 = .ok (.invokestatic 83, 3) := by decide +kernel
theorem dX3_drop_65 : decode cX3_drop 65 = .ok (.iload_n 1, 1) := by decide +kernel
theorem dX3_drop_66 : decode cX3_drop 66 = .ok (.if_icmp .ge 16, 3) := by decide +kernel
theorem dX3_drop_69 : decode cX3_drop 69 = .ok (.aload_n 0, 1) := by decide +kernel
theorem dX3_drop_70 : decode cX3_drop 70 = .ok (.getfield 12, 3) := by decide +kernel
theorem dX3_drop_73 : decode cX3_drop 73 = .ok (.getfield 66, 3) := by decide +kernel
theorem dX3_drop_76 : decode cX3_drop 76 = .ok (.iload_n 3, 1) := by decide +kernel
theorem dX3_drop_77 : decode cX3_drop 77 = .ok (.iconst 0, 1) := by decide +kernel
theorem dX3_drop_78 : decode cX3_drop 78 = .ok (.iastore, 1) := by decide +kernel
theorem dX3_drop_79 : decode cX3_drop 79 = .ok (.iinc 2 1, 3) := by decide +kernel
theorem dX3_drop_82 : decode cX3_drop 82 = .ok (.iinc 3 1, 3) := by decide +kernel
theorem dX3_drop_85 : decode cX3_drop 85 = .ok (.goto (-50), 3) := by decide +kernel
theorem dX3_drop_88 : decode cX3_drop 88 = .ok (.iload_n 2, 1) := by decide +kernel
theorem dX3_drop_89 : decode cX3_drop 89 = .ok (.ireturn, 1) := by decide +kernel
set_option maxRecDepth 20000 in
theorem ggX3_point_X3_isNoPlace : GoodIn wsX3_point wsX3_isNoPlace := goodIn_r _ [10, 11, 12, 9, 13] (by decide +kernel) (by decide +kernel)
set_option maxRecDepth 20000 in
theorem gX3_point_X3_isNoPlace : GoodIn wsX3_point (va_wsS RX3 42 yX3_isNoPlace wsX3_isNoPlace) := goodIn_app (goodIn_of _ (by decide +kernel)) ggX3_point_X3_isNoPlace
set_option maxRecDepth 20000 in
theorem ggX3_point_X3_isOutside : GoodIn wsX3_point wsX3_isOutside := goodIn_r _ [13] (by decide +kernel) (by decide +kernel)
set_option maxRecDepth 20000 in
theorem gX3_point_X3_isOutside : GoodIn wsX3_point (va_wsS RX3 53 yX3_isOutside wsX3_isOutside) := goodIn_app (goodIn_of _ (by decide +kernel)) ggX3_point_X3_isOutside
set_option maxRecDepth 20000 in
theorem ggX3_point_X1_push : GoodIn wsX3_point wsX1_push := goodIn_r _ [17, 18, 19, 20, 21, 22, 23, 24, 25, 26, 27, 28, 29, 30, 31, 32, 33, 34, 35, 36, 47, 48, 49, 43, 44, 45, 46] (by decide +kernel) (by decide +kernel)
set_option maxRecDepth 20000 in
theorem gX3_point_X1_push_n62 : GoodIn wsX3_point (wsX1_push) := ggX3_point_X1_push
theorem dX3_point_0 : decode cX3_point 0 = .ok (.iload_n 1, 1) := by decide +kernel
theorem dX3_point_1 : decode cX3_point 1 = .ok (.invokestatic 42, 3) := by decide +kernel
theorem dX3_point_4 : decode cX3_point 4 = .ok (.ifCond .eq 13, 3) := by decide +kernel
theorem dX3_point_7 : decode cX3_point 7 = .ok (.new 46, 3) := by decide +kernel
theorem dX3_point_10 : decode cX3_point 10 = .ok (.dup, 1) := by decide +kernel
theorem dX3_point_11 : decode cX3_point 11 = .ok (.ldc 89, 2) := by decide +kernel
theorem dX3_point_13 : decode cX3_point 13 = .ok (.invokespecial 50, 3) := by decide +kernel
theorem dX3_point_16 : decode cX3_point 16 = .ok (.athrow, 1) := by decide +kernel
theorem dX3_point_17 : decode cX3_point 17 = .ok (.iload_n 2, 1) := by decide +kernel
theorem dX3_point_18 : decode cX3_point 18 = .ok (.sipush (-9999), 3) := by decide +kernel
theorem dX3_point_21 : decode cX3_point 21 = .ok (.sipush 9999, 3) := by decide +kernel
theorem dX3_point_24 : decode cX3_point 24 = .ok (.invokestatic 53, 3) := by decide +kernel
theorem dX3_point_27 : decode cX3_point 27 = .ok (.ifCond .eq 13, 3) := by decide +kernel
theorem dX3_point_30 : decode cX3_point 30 = .ok (.new 57, 3) := by decide +kernel
theorem dX3_point_33 : decode cX3_point 33 = .ok (.dup, 1) := by decide +kernel
theorem dX3_point_34 : decode cX3_point 34 = .ok (.ldc 91, 2) := by decide +kernel
theorem dX3_point_36 : decode cX3_point 36 = .ok (.invokespecial 61, 3) := by decide +kernel
theorem dX3_point_39 : decode cX3_point 39 = .ok (.athrow, 1) := by decide +kernel
theorem dX3_point_40 : decode cX3_point 40 = .ok (.aload_n 0, 1) := by decide +kernel
theorem dX3_point_41 : decode cX3_point 41 = .ok (.getfield 27, 3) := by decide +kernel
theorem dX3_point_44 : decode cX3_point 44 = .ok (.aload_n 0, 1) := by decide +kernel
theorem dX3_point_45 : decode cX3_point 45 = .ok (.getfield 12, 3) := by decide +kernel
theorem dX3_point_48 : decode cX3_point 48 = .ok (.invokevirtual 62, 3) := by decide +kernel
theorem dX3_point_51 : decode cX3_point 51 = .ok (.aload_n 0, 1) := by decide +kernel
theorem dX3_point_52 : decode cX3_point 52 = .ok (.getfield 12, 3) := by decide +kernel
theorem dX3_point_55 : decode cX3_point 55 = .ok (.getfield 93, 3) := by decide +kernel
theorem dX3_point_58 : decode cX3_point 58 = .ok (.iload_n 1, 1) := by decide +kernel
theorem dX3_point_59 : decode cX3_point 59 = .ok (.iaload, 1) := by decide +kernel
theorem dX3_point_60 : decode cX3_point 60 = .ok (.istore_n 3, 1) := by decide +kernel
theorem dX3_point_61 : decode cX3_point 61 = .ok (.aload_n 0, 1) := by decide +kernel
theorem dX3_point_62 : decode cX3_point 62 = .ok (.getfield 12, 3) := by decide +kernel
theorem dX3_point_65 : decode cX3_point 65 = .ok (.getfield 93, 3) := by decide +kernel
theorem dX3_point_68 : decode cX3_point 68 = .ok (.iload_n 1, 1) := by decide +kernel
theorem dX3_point_69 : decode cX3_point 69 = .ok (.iload_n 2, 1) := by decide +kernel
theorem dX3_point_70 : decode cX3_point 70 = .ok (.iastore, 1) := by decide +kernel
theorem dX3_point_71 : decode cX3_point 71 = .ok (.iload_n 3, 1) := by decide +kernel
theorem dX3_point_72 : decode cX3_point 72 = .ok (.ireturn, 1) := by decide +kernel
set_option maxRecDepth 20000 in
theorem ggX3_copy_X1_push : GoodIn wsX3_copy wsX1_push := goodIn_r _ [6, 7, 8, 9, 10, 11, 12, 13, 14, 15, 16, 17, 18, 19, 20, 21, 22, 23, 24, 25, 57, 58, 59, 53, 54, 55, 56] (by decide +kernel) (by decide +kernel)
set_option maxRecDepth 20000 in
theorem gX3_copy_X1_push_n62 : GoodIn wsX3_copy (wsX1_push) := ggX3_copy_X1_push
set_option maxRecDepth 20000 in
theorem ggX3_copy_X0_traceAt : GoodIn wsX3_copy wsX0_traceAt := goodIn_r _ [28, 29, 30, 31, 15, 32, 18, 33, 34, 35, 36, 24, 37, 38, 39, 40, 41, 42, 43, 44, 45, 46, 53, 54, 55, 56] (by decide +kernel) (by decide +kernel)
set_option maxRecDepth 20000 in
theorem gX3_copy_X0_traceAt_n96 : GoodIn wsX3_copy (wsX0_traceAt) := ggX3_copy_X0_traceAt
theorem dX3_copy_0 : decode cX3_copy 0 = .ok (.aload_n 0, 1) := by decide +kernel
theorem dX3_copy_1 : decode cX3_copy 1 = .ok (.getfield 27, 3) := by decide +kernel
theorem dX3_copy_4 : decode cX3_copy 4 = .ok (.aload_n 0, 1) := by decide +kernel
theorem dX3_copy_5 : decode cX3_copy 5 = .ok (.getfield 12, 3) := by decide +kernel
theorem dX3_copy_8 : decode cX3_copy 8 = .ok (.invokevirtual 62, 3) := by decide +kernel
theorem dX3_copy_11 : decode cX3_copy 11 = .ok (.iconst 0, 1) := by decide +kernel
theorem dX3_copy_12 : decode cX3_copy 12 = .ok (.istore_n 1, 1) := by decide +kernel
theorem dX3_copy_13 : decode cX3_copy 13 = .ok (.iconst 0, 1) := by decide +kernel
theorem dX3_copy_14 : decode cX3_copy 14 = .ok (.istore_n 2, 1) := by decide +kernel
theorem dX3_copy_15 : decode cX3_copy 15 = .ok (.iload_n 2, 1) := by decide +kernel
theorem dX3_copy_16 : decode cX3_copy 16 = .ok (.bipush 8, 2) := by decide +kernel
theorem dX3_copy_18 : decode cX3_copy 18 = .ok (.if_icmp .ge 44, 3) := by decide +kernel
theorem dX3_copy_21 : decode cX3_copy 21 = .ok (.aload_n 0, 1) := by decide +kernel
theorem dX3_copy_22 : decode cX3_copy 22 = .ok (.getfield 12, 3) := by decide +kernel
theorem dX3_copy_25 : decode cX3_copy 25 = .ok (.iload_n 2, 1) := by decide +kernel
theorem dX3_copy_26 : decode cX3_copy 26 = .ok (.invokevirtual 96, 3) := by decide +kernel
theorem dX3_copy_29 : decode cX3_copy 29 = .ok (.istore_n 3, 1) := by decide +kernel
theorem dX3_copy_30 : decode cX3_copy 30 = .ok (.aload_n 0, 1) := by decide +kernel
theorem dX3_copy_31 : decode cX3_copy 31 = .ok (.getfield 12, 3) := by decide +kernel
theorem dX3_copy_34 : decode cX3_copy 34 = .ok (.getfield 93, 3) := by decide +kernel
theorem dX3_copy_37 : decode cX3_copy 37 = .ok (.iload_n 2, 1) := by decide +kernel
theorem dX3_copy_38 : decode cX3_copy 38 = .ok (.iaload, 1) := by decide +kernel
theorem dX3_copy_39 : decode cX3_copy 39 = .ok (.iload_n 3, 1) := by decide +kernel
theorem dX3_copy_40 : decode cX3_copy 40 = .ok (.if_icmp .eq 16, 3) := by decide +kernel
theorem dX3_copy_43 : decode cX3_copy 43 = .ok (.aload_n 0, 1) := by decide +kernel
theorem dX3_copy_44 : decode cX3_copy 44 = .ok (.getfield 12, 3) := by decide +kernel
theorem dX3_copy_47 : decode cX3_copy 47 = .ok (.getfield 93, 3) := by decide +kernel
theorem dX3_copy_50 : decode cX3_copy 50 = .ok (.iload_n 2, 1) := by decide +kernel
theorem dX3_copy_51 : decode cX3_copy 51 = .ok (.iload_n 3, 1) := by decide +kernel
theorem dX3_copy_52 : decode cX3_copy 52 = .ok (.iastore, 1) := by decide +kernel
theorem dX3_copy_53 : decode cX3_copy 53 = .ok (.iinc 1 1, 3) := by decide +kernel
theorem dX3_copy_56 : decode cX3_copy 56 = .ok (.iinc 2 1, 3) := by decide +kernel
theorem dX3_copy_59 : decode cX3_copy 59 = .ok (.goto (-44), 3) := by decide +kernel
theorem dX3_copy_62 : decode cX3_copy 62 = .ok (.iload_n 1, 1) := by decide +kernel
theorem dX3_copy_63 : decode cX3_copy 63 = .ok (.ireturn, 1) := by decide +kernel
set_option maxRecDepth 20000 in
theorem ggX3_fit_X1_push : GoodIn wsX3_fit wsX1_push := goodIn_r _ [13, 14, 15, 16, 17, 4, 5, 6, 18, 19, 20, 21, 22, 23, 24, 25, 26, 27, 28, 29, 57, 58, 59, 53, 54, 55, 56] (by decide +kernel) (by decide +kernel)
set_option maxRecDepth 20000 in
theorem gX3_fit_X1_push_n62 : GoodIn wsX3_fit (wsX1_push) := ggX3_fit_X1_push
set_option maxRecDepth 20000 in
theorem ggX3_fit_X0_patternAmplitude : GoodIn wsX3_fit wsX0_patternAmplitude := goodIn_r _ [32, 27, 33, 34, 35, 36, 37, 38, 39, 40, 41, 42, 43, 44, 45, 46, 53, 54, 55, 56] (by decide +kernel) (by decide +kernel)
set_option maxRecDepth 20000 in
theorem gX3_fit_X0_patternAmplitude_n99 : GoodIn wsX3_fit (wsX0_patternAmplitude) := ggX3_fit_X0_patternAmplitude
theorem dX3_fit_0 : decode cX3_fit 0 = .ok (.aload_n 0, 1) := by decide +kernel
theorem dX3_fit_1 : decode cX3_fit 1 = .ok (.getfield 27, 3) := by decide +kernel
theorem dX3_fit_4 : decode cX3_fit 4 = .ok (.aload_n 0, 1) := by decide +kernel
theorem dX3_fit_5 : decode cX3_fit 5 = .ok (.getfield 12, 3) := by decide +kernel
theorem dX3_fit_8 : decode cX3_fit 8 = .ok (.invokevirtual 62, 3) := by decide +kernel
theorem dX3_fit_11 : decode cX3_fit 11 = .ok (.iconst 0, 1) := by decide +kernel
theorem dX3_fit_12 : decode cX3_fit 12 = .ok (.istore_n 1, 1) := by decide +kernel
theorem dX3_fit_13 : decode cX3_fit 13 = .ok (.iconst 0, 1) := by decide +kernel
theorem dX3_fit_14 : decode cX3_fit 14 = .ok (.istore_n 2, 1) := by decide +kernel
theorem dX3_fit_15 : decode cX3_fit 15 = .ok (.iload_n 2, 1) := by decide +kernel
theorem dX3_fit_16 : decode cX3_fit 16 = .ok (.bipush 8, 2) := by decide +kernel
theorem dX3_fit_18 : decode cX3_fit 18 = .ok (.if_icmp .ge 54, 3) := by decide +kernel
theorem dX3_fit_21 : decode cX3_fit 21 = .ok (.bipush (-99), 2) := by decide +kernel
theorem dX3_fit_23 : decode cX3_fit 23 = .ok (.bipush 99, 2) := by decide +kernel
theorem dX3_fit_25 : decode cX3_fit 25 = .ok (.aload_n 0, 1) := by decide +kernel
theorem dX3_fit_26 : decode cX3_fit 26 = .ok (.getfield 12, 3) := by decide +kernel
theorem dX3_fit_29 : decode cX3_fit 29 = .ok (.iload_n 2, 1) := by decide +kernel
theorem dX3_fit_30 : decode cX3_fit 30 = .ok (.invokevirtual 99, 3) := by decide +kernel
theorem dX3_fit_33 : decode cX3_fit 33 = .ok (.invokestatic 102, 3) := by decide +kernel
theorem dX3_fit_36 : decode cX3_fit 36 = .ok (.invokestatic 105, 3) := by decide +kernel
theorem dX3_fit_39 : decode cX3_fit 39 = .ok (.istore_n 3, 1) := by decide +kernel
theorem dX3_fit_40 : decode cX3_fit 40 = .ok (.aload_n 0, 1) := by decide +kernel
theorem dX3_fit_41 : decode cX3_fit 41 = .ok (.getfield 12, 3) := by decide +kernel
theorem dX3_fit_44 : decode cX3_fit 44 = .ok (.getfield 66, 3) := by decide +kernel
theorem dX3_fit_47 : decode cX3_fit 47 = .ok (.iload_n 2, 1) := by decide +kernel
theorem dX3_fit_48 : decode cX3_fit 48 = .ok (.iaload, 1) := by decide +kernel
theorem dX3_fit_49 : decode cX3_fit 49 = .ok (.iload_n 3, 1) := by decide +kernel
theorem dX3_fit_50 : decode cX3_fit 50 = .ok (.if_icmp .eq 16, 3) := by decide +kernel
theorem dX3_fit_53 : decode cX3_fit 53 = .ok (.aload_n 0, 1) := by decide +kernel
theorem dX3_fit_54 : decode cX3_fit 54 = .ok (.getfield 12, 3) := by decide +kernel
theorem dX3_fit_57 : decode cX3_fit 57 = .ok (.getfield 66, 3) := by decide +kernel
theorem dX3_fit_60 : decode cX3_fit 60 = .ok (.iload_n 2, 1) := by decide +kernel
theorem dX3_fit_61 : decode cX3_fit 61 = .ok (.iload_n 3, 1) := by decide +kernel
theorem dX3_fit_62 : decode cX3_fit 62 = .ok (.iastore, 1) := by decide +kernel
theorem dX3_fit_63 : decode cX3_fit 63 = .ok (.iinc 1 1, 3) := by decide +kernel
theorem dX3_fit_66 : decode cX3_fit 66 = .ok (.iinc 2 1, 3) := by decide +kernel
theorem dX3_fit_69 : decode cX3_fit 69 = .ok (.goto (-54), 3) := by decide +kernel
theorem dX3_fit_72 : decode cX3_fit 72 = .ok (.aload_n 0, 1) := by decide +kernel
theorem dX3_fit_73 : decode cX3_fit 73 = .ok (.getfield 12, 3) := by decide +kernel
theorem dX3_fit_76 : decode cX3_fit 76 = .ok (.iconst 0, 1) := by decide +kernel
theorem dX3_fit_77 : decode cX3_fit 77 = .ok (.putfield 69, 3) := by decide +kernel
theorem dX3_fit_80 : decode cX3_fit 80 = .ok (.aload_n 0, 1) := by decide +kernel
theorem dX3_fit_81 : decode cX3_fit 81 = .ok (.getfield 12, 3) := by decide +kernel
theorem dX3_fit_84 : decode cX3_fit 84 = .ok (.dup, 1) := by decide +kernel
theorem dX3_fit_85 : decode cX3_fit 85 = .ok (.getfield 108, 3) := by decide +kernel
theorem dX3_fit_88 : decode cX3_fit 88 = .ok (.iload_n 1, 1) := by decide +kernel
theorem dX3_fit_89 : decode cX3_fit 89 = .ok (.iadd, 1) := by decide +kernel
theorem dX3_fit_90 : decode cX3_fit 90 = .ok (.putfield 108, 3) := by decide +kernel
theorem dX3_fit_93 : decode cX3_fit 93 = .ok (.iload_n 1, 1) := by decide +kernel
theorem dX3_fit_94 : decode cX3_fit 94 = .ok (.ireturn, 1) := by decide +kernel
set_option maxRecDepth 20000 in
theorem ggX3_append_X3_isOutside : GoodIn wsX3_append wsX3_isOutside := goodIn_r _ [9] (by decide +kernel) (by decide +kernel)
set_option maxRecDepth 20000 in
theorem gX3_append_X3_isOutside : GoodIn wsX3_append (va_wsS RX3 53 yX3_isOutside wsX3_isOutside) := goodIn_app (goodIn_of _ (by decide +kernel)) ggX3_append_X3_isOutside
set_option maxRecDepth 20000 in
theorem ggX3_append_X2_isFull : GoodIn wsX3_append wsX2_isFull := goodIn_r _ [13, 14, 25, 26] (by decide +kernel) (by decide +kernel)
set_option maxRecDepth 20000 in
theorem gX3_append_X2_isFull_n113 : GoodIn wsX3_append (wsX2_isFull) := ggX3_append_X2_isFull
set_option maxRecDepth 20000 in
theorem ggX3_append_X2_put : GoodIn wsX3_append wsX2_put := goodIn_r _ [17, 18, 14, 25, 26] (by decide +kernel) (by decide +kernel)
set_option maxRecDepth 20000 in
theorem gX3_append_X2_put_n122 : GoodIn wsX3_append (wsX2_put) := ggX3_append_X2_put
theorem dX3_append_0 : decode cX3_append 0 = .ok (.iload_n 1, 1) := by decide +kernel
theorem dX3_append_1 : decode cX3_append 1 = .ok (.bipush 33, 2) := by decide +kernel
theorem dX3_append_3 : decode cX3_append 3 = .ok (.bipush 126, 2) := by decide +kernel
theorem dX3_append_5 : decode cX3_append 5 = .ok (.invokestatic 53, 3) := by decide +kernel
theorem dX3_append_8 : decode cX3_append 8 = .ok (.ifCond .eq 13, 3) := by decide +kernel
theorem dX3_append_11 : decode cX3_append 11 = .ok (.new 57, 3) := by decide +kernel
theorem dX3_append_14 : decode cX3_append 14 = .ok (.dup, 1) := by decide +kernel
theorem dX3_append_15 : decode cX3_append 15 = .ok (.ldc 111, 2) := by decide +kernel
theorem dX3_append_17 : decode cX3_append 17 = .ok (.invokespecial 61, 3) := by decide +kernel
theorem dX3_append_20 : decode cX3_append 20 = .ok (.athrow, 1) := by decide +kernel
theorem dX3_append_21 : decode cX3_append 21 = .ok (.aload_n 0, 1) := by decide +kernel
theorem dX3_append_22 : decode cX3_append 22 = .ok (.getfield 34, 3) := by decide +kernel
theorem dX3_append_25 : decode cX3_append 25 = .ok (.invokevirtual 113, 3) := by decide +kernel
theorem dX3_append_28 : decode cX3_append 28 = .ok (.ifCond .eq 13, 3) := by decide +kernel
theorem dX3_append_31 : decode cX3_append 31 = .ok (.new 117, 3) := by decide +kernel
theorem dX3_append_34 : decode cX3_append 34 = .ok (.dup, 1) := by decide +kernel
theorem dX3_append_35 : decode cX3_append 35 = .ok (.ldc 119, 2) := by decide +kernel
theorem dX3_append_37 : decode cX3_append 37 = .ok (.invokespecial 121, 3) := by decide +kernel
theorem dX3_append_40 : decode cX3_append 40 = .ok (.athrow, 1) := by decide +kernel
theorem dX3_append_41 : decode cX3_append 41 = .ok (.aload_n 0, 1) := by decide +kernel
theorem dX3_append_42 : decode cX3_append 42 = .ok (.getfield 34, 3) := by decide +kernel
theorem dX3_append_45 : decode cX3_append 45 = .ok (.iload_n 1, 1) := by decide +kernel
theorem dX3_append_46 : decode cX3_append 46 = .ok (.i2c, 1) := by decide +kernel
theorem dX3_append_47 : decode cX3_append 47 = .ok (.invokevirtual 122, 3) := by decide +kernel
theorem dX3_append_50 : decode cX3_append 50 = .ok (.aload_n 0, 1) := by decide +kernel
theorem dX3_append_51 : decode cX3_append 51 = .ok (.getfield 34, 3) := by decide +kernel
theorem dX3_append_54 : decode cX3_append 54 = .ok (.getfield 126, 3) := by decide +kernel
theorem dX3_append_57 : decode cX3_append 57 = .ok (.ireturn, 1) := by decide +kernel
set_option maxRecDepth 20000 in
theorem ggX3_clearBuffer_X2_empty : GoodIn wsX3_clearBuffer wsX2_empty := goodIn_r _ [5, 6, 13, 14] (by decide +kernel) (by decide +kernel)
set_option maxRecDepth 20000 in
theorem gX3_clearBuffer_X2_empty_n129 : GoodIn wsX3_clearBuffer (wsX2_empty) := ggX3_clearBuffer_X2_empty
theorem dX3_clearBuffer_0 : decode cX3_clearBuffer 0 = .ok (.aload_n 0, 1) := by decide +kernel
theorem dX3_clearBuffer_1 : decode cX3_clearBuffer 1 = .ok (.getfield 34, 3) := by decide +kernel
theorem dX3_clearBuffer_4 : decode cX3_clearBuffer 4 = .ok (.getfield 126, 3) := by decide +kernel
theorem dX3_clearBuffer_7 : decode cX3_clearBuffer 7 = .ok (.istore_n 1, 1) := by decide +kernel
theorem dX3_clearBuffer_8 : decode cX3_clearBuffer 8 = .ok (.aload_n 0, 1) := by decide +kernel
theorem dX3_clearBuffer_9 : decode cX3_clearBuffer 9 = .ok (.getfield 34, 3) := by decide +kernel
theorem dX3_clearBuffer_12 : decode cX3_clearBuffer 12 = .ok (.invokevirtual 129, 3) := by decide +kernel
theorem dX3_clearBuffer_15 : decode cX3_clearBuffer 15 = .ok (.iload_n 1, 1) := by decide +kernel
theorem dX3_clearBuffer_16 : decode cX3_clearBuffer 16 = .ok (.ireturn, 1) := by decide +kernel
set_option maxRecDepth 20000 in
theorem ggX3_firstError_X2_errorPlace : GoodIn wsX3_firstError wsX2_errorPlace := goodIn_r _ [5, 6, 7, 8, 9, 3, 10, 11, 12, 13, 14, 15, 16, 17, 18, 19, 20, 21, 22, 29, 30] (by decide +kernel) (by decide +kernel)
set_option maxRecDepth 20000 in
theorem gX3_firstError_X2_errorPlace_n132 : GoodIn wsX3_firstError (wsX2_errorPlace) := ggX3_firstError_X2_errorPlace
theorem dX3_firstError_0 : decode cX3_firstError 0 = .ok (.aload_n 0, 1) := by decide +kernel
theorem dX3_firstError_1 : decode cX3_firstError 1 = .ok (.getfield 34, 3) := by decide +kernel
theorem dX3_firstError_4 : decode cX3_firstError 4 = .ok (.invokevirtual 132, 3) := by decide +kernel
theorem dX3_firstError_7 : decode cX3_firstError 7 = .ok (.ireturn, 1) := by decide +kernel
set_option maxRecDepth 20000 in
theorem ggX3_load_X2_tellsWheels : GoodIn wsX3_load wsX2_tellsWheels := goodIn_r _ [9, 10, 11, 12, 13, 7, 14, 15, 16, 17, 18, 19, 20, 21, 22, 23, 24, 25, 26, 65, 66] (by decide +kernel) (by decide +kernel)
set_option maxRecDepth 20000 in
theorem gX3_load_X2_tellsWheels_n136 : GoodIn wsX3_load (wsX2_tellsWheels) := ggX3_load_X2_tellsWheels
set_option maxRecDepth 20000 in
theorem ggX3_load_X1_push : GoodIn wsX3_load wsX1_push := goodIn_r _ [30, 31, 32, 33, 34, 35, 36, 37, 38, 39, 40, 41, 42, 43, 44, 45, 46, 47, 48, 49, 67, 68, 69, 70, 71, 72, 73] (by decide +kernel) (by decide +kernel)
set_option maxRecDepth 20000 in
theorem gX3_load_X1_push_n62 : GoodIn wsX3_load (wsX1_push) := ggX3_load_X1_push
set_option maxRecDepth 20000 in
theorem ggX3_load_X2_tellTo : GoodIn wsX3_load wsX2_tellTo := goodIn_r _ [52, 10, 11, 15, 16, 7, 17, 21, 22, 23, 70, 71, 72, 73, 65, 66] (by decide +kernel) (by decide +kernel)
set_option maxRecDepth 20000 in
theorem gX3_load_X2_tellTo_n141 : GoodIn wsX3_load (wsX2_tellTo) := ggX3_load_X2_tellTo
set_option maxRecDepth 20000 in
theorem ggX3_load_X2_empty : GoodIn wsX3_load wsX2_empty := goodIn_r _ [55, 10, 65, 66] (by decide +kernel) (by decide +kernel)
set_option maxRecDepth 20000 in
theorem gX3_load_X2_empty_n129 : GoodIn wsX3_load (wsX2_empty) := ggX3_load_X2_empty
set_option maxRecDepth 20000 in
theorem ggX3_load_X0_drawingWheels : GoodIn wsX3_load wsX0_drawingWheels := goodIn_r _ [58, 42, 70, 71, 72, 73] (by decide +kernel) (by decide +kernel)
set_option maxRecDepth 20000 in
theorem gX3_load_X0_drawingWheels_n144 : GoodIn wsX3_load (wsX0_drawingWheels) := ggX3_load_X0_drawingWheels
theorem dX3_load_0 : decode cX3_load 0 = .ok (.aload_n 0, 1) := by decide +kernel
theorem dX3_load_1 : decode cX3_load 1 = .ok (.getfield 34, 3) := by decide +kernel
theorem dX3_load_4 : decode cX3_load 4 = .ok (.invokevirtual 136, 3) := by decide +kernel
theorem dX3_load_7 : decode cX3_load 7 = .ok (.ifCond .ne 13, 3) := by decide +kernel
theorem dX3_load_10 : decode cX3_load 10 = .ok (.new 57, 3) := by decide +kernel
theorem dX3_load_13 : decode cX3_load 13 = .ok (.dup, 1) := by decide +kernel
theorem dX3_load_14 : decode cX3_load 14 = .ok (.ldc 139, 2) := by decide +kernel
theorem dX3_load_16 : decode cX3_load 16 = .ok (.invokespecial 61, 3) := by decide +kernel
theorem dX3_load_19 : decode cX3_load 19 = .ok (.athrow, 1) := by decide +kernel
theorem dX3_load_20 : decode cX3_load 20 = .ok (.aload_n 0, 1) := by decide +kernel
theorem dX3_load_21 : decode cX3_load 21 = .ok (.getfield 27, 3) := by decide +kernel
theorem dX3_load_24 : decode cX3_load 24 = .ok (.aload_n 0, 1) := by decide +kernel
theorem dX3_load_25 : decode cX3_load 25 = .ok (.getfield 12, 3) := by decide +kernel
theorem dX3_load_28 : decode cX3_load 28 = .ok (.invokevirtual 62, 3) := by decide +kernel
theorem dX3_load_31 : decode cX3_load 31 = .ok (.aload_n 0, 1) := by decide +kernel
theorem dX3_load_32 : decode cX3_load 32 = .ok (.getfield 34, 3) := by decide +kernel
theorem dX3_load_35 : decode cX3_load 35 = .ok (.aload_n 0, 1) := by decide +kernel
theorem dX3_load_36 : decode cX3_load 36 = .ok (.getfield 12, 3) := by decide +kernel
theorem dX3_load_39 : decode cX3_load 39 = .ok (.invokevirtual 141, 3) := by decide +kernel
theorem dX3_load_42 : decode cX3_load 42 = .ok (.aload_n 0, 1) := by decide +kernel
theorem dX3_load_43 : decode cX3_load 43 = .ok (.getfield 34, 3) := by decide +kernel
theorem dX3_load_46 : decode cX3_load 46 = .ok (.invokevirtual 129, 3) := by decide +kernel
theorem dX3_load_49 : decode cX3_load 49 = .ok (.aload_n 0, 1) := by decide +kernel
theorem dX3_load_50 : decode cX3_load 50 = .ok (.getfield 12, 3) := by decide +kernel
theorem dX3_load_53 : decode cX3_load 53 = .ok (.invokevirtual 144, 3) := by decide +kernel
theorem dX3_load_56 : decode cX3_load 56 = .ok (.ireturn, 1) := by decide +kernel
set_option maxRecDepth 20000 in
theorem ggX3_keep_X3_isOutside : GoodIn wsX3_keep wsX3_isOutside := goodIn_r _ [9] (by decide +kernel) (by decide +kernel)
set_option maxRecDepth 20000 in
theorem gX3_keep_X3_isOutside : GoodIn wsX3_keep (va_wsS RX3 53 yX3_isOutside wsX3_isOutside) := goodIn_app (goodIn_of _ (by decide +kernel)) ggX3_keep_X3_isOutside
set_option maxRecDepth 20000 in
theorem ggX3_keep_X0_takeFrom : GoodIn wsX3_keep wsX0_takeFrom := goodIn_r _ [13, 14, 15, 16, 17, 18, 19, 20, 21, 31, 32, 33, 34] (by decide +kernel) (by decide +kernel)
set_option maxRecDepth 20000 in
theorem gX3_keep_X0_takeFrom_n149 : GoodIn wsX3_keep (wsX0_takeFrom) := ggX3_keep_X0_takeFrom
set_option maxRecDepth 20000 in
theorem ggX3_keep_X0_drawingWheels : GoodIn wsX3_keep wsX0_drawingWheels := goodIn_r _ [24, 14, 31, 32, 33, 34] (by decide +kernel) (by decide +kernel)
set_option maxRecDepth 20000 in
theorem gX3_keep_X0_drawingWheels_n144 : GoodIn wsX3_keep (wsX0_drawingWheels) := ggX3_keep_X0_drawingWheels
theorem dX3_keep_0 : decode cX3_keep 0 = .ok (.iload_n 1, 1) := by decide +kernel
theorem dX3_keep_1 : decode cX3_keep 1 = .ok (.iconst 0, 1) := by decide +kernel
theorem dX3_keep_2 : decode cX3_keep 2 = .ok (.iconst 1, 1) := by decide +kernel
theorem dX3_keep_3 : decode cX3_keep 3 = .ok (.invokestatic 53, 3) := by decide +kernel
theorem dX3_keep_6 : decode cX3_keep 6 = .ok (.ifCond .eq 13, 3) := by decide +kernel
theorem dX3_keep_9 : decode cX3_keep 9 = .ok (.new 57, 3) := by decide +kernel
theorem dX3_keep_12 : decode cX3_keep 12 = .ok (.dup, 1) := by decide +kernel
theorem dX3_keep_13 : decode cX3_keep 13 = .ok (.ldc 147, 2) := by decide +kernel
theorem dX3_keep_15 : decode cX3_keep 15 = .ok (.invokespecial 61, 3) := by decide +kernel
theorem dX3_keep_18 : decode cX3_keep 18 = .ok (.athrow, 1) := by decide +kernel
theorem dX3_keep_19 : decode cX3_keep 19 = .ok (.aload_n 0, 1) := by decide +kernel
theorem dX3_keep_20 : decode cX3_keep 20 = .ok (.getfield 16, 3) := by decide +kernel
theorem dX3_keep_23 : decode cX3_keep 23 = .ok (.iload_n 1, 1) := by decide +kernel
theorem dX3_keep_24 : decode cX3_keep 24 = .ok (.aaload, 1) := by decide +kernel
theorem dX3_keep_25 : decode cX3_keep 25 = .ok (.aload_n 0, 1) := by decide +kernel
theorem dX3_keep_26 : decode cX3_keep 26 = .ok (.getfield 12, 3) := by decide +kernel
theorem dX3_keep_29 : decode cX3_keep 29 = .ok (.invokevirtual 149, 3) := by decide +kernel
theorem dX3_keep_32 : decode cX3_keep 32 = .ok (.aload_n 0, 1) := by decide +kernel
theorem dX3_keep_33 : decode cX3_keep 33 = .ok (.dup, 1) := by decide +kernel
theorem dX3_keep_34 : decode cX3_keep 34 = .ok (.getfield 20, 3) := by decide +kernel
theorem dX3_keep_37 : decode cX3_keep 37 = .ok (.iconst 1, 1) := by decide +kernel
theorem dX3_keep_38 : decode cX3_keep 38 = .ok (.iload_n 1, 1) := by decide +kernel
theorem dX3_keep_39 : decode cX3_keep 39 = .ok (.ishl, 1) := by decide +kernel
theorem dX3_keep_40 : decode cX3_keep 40 = .ok (.ior, 1) := by decide +kernel
theorem dX3_keep_41 : decode cX3_keep 41 = .ok (.putfield 20, 3) := by decide +kernel
theorem dX3_keep_44 : decode cX3_keep 44 = .ok (.aload_n 0, 1) := by decide +kernel
theorem dX3_keep_45 : decode cX3_keep 45 = .ok (.getfield 12, 3) := by decide +kernel
theorem dX3_keep_48 : decode cX3_keep 48 = .ok (.invokevirtual 144, 3) := by decide +kernel
theorem dX3_keep_51 : decode cX3_keep 51 = .ok (.ireturn, 1) := by decide +kernel
set_option maxRecDepth 20000 in
theorem ggX3_goBack_X3_isOutside : GoodIn wsX3_goBack wsX3_isOutside := goodIn_r _ [11] (by decide +kernel) (by decide +kernel)
set_option maxRecDepth 20000 in
theorem gX3_goBack_X3_isOutside : GoodIn wsX3_goBack (va_wsS RX3 53 yX3_isOutside wsX3_isOutside) := goodIn_app (goodIn_of _ (by decide +kernel)) ggX3_goBack_X3_isOutside
set_option maxRecDepth 20000 in
theorem ggX3_goBack_X3_hasSnapshot : GoodIn wsX3_goBack wsX3_hasSnapshot := goodIn_r _ [15, 16, 43, 44, 45, 46, 47, 48] (by decide +kernel) (by decide +kernel)
set_option maxRecDepth 20000 in
theorem gX3_goBack_X3_hasSnapshot : GoodIn wsX3_goBack (wsV RX3 152 RX3 yX3_hasSnapshot wsX3_hasSnapshot) := goodIn_app (goodIn_of _ (by decide +kernel)) ggX3_goBack_X3_hasSnapshot
set_option maxRecDepth 20000 in
theorem ggX3_goBack_X1_push : GoodIn wsX3_goBack wsX1_push := goodIn_r _ [20, 21, 22, 23, 24, 25, 26, 27, 28, 29, 30, 31, 32, 33, 34, 35, 36, 37, 38, 39, 49, 50, 51, 52, 53, 54, 55] (by decide +kernel) (by decide +kernel)
set_option maxRecDepth 20000 in
theorem gX3_goBack_X1_push_n62 : GoodIn wsX3_goBack (wsX1_push) := ggX3_goBack_X1_push
set_option maxRecDepth 20000 in
theorem ggX3_goBack_X0_takeFrom : GoodIn wsX3_goBack wsX0_takeFrom := goodIn_r _ [31, 32, 33, 34, 35, 36, 37, 38, 39, 52, 53, 54, 55] (by decide +kernel) (by decide +kernel)
set_option maxRecDepth 20000 in
theorem gX3_goBack_X0_takeFrom_n149 : GoodIn wsX3_goBack (wsX0_takeFrom) := ggX3_goBack_X0_takeFrom
set_option maxRecDepth 20000 in
theorem ggX3_goBack_X0_drawingWheels : GoodIn wsX3_goBack wsX0_drawingWheels := goodIn_r _ [42, 32, 52, 53, 54, 55] (by decide +kernel) (by decide +kernel)
set_option maxRecDepth 20000 in
theorem gX3_goBack_X0_drawingWheels_n144 : GoodIn wsX3_goBack (wsX0_drawingWheels) := ggX3_goBack_X0_drawingWheels
theorem dX3_goBack_0 : decode cX3_goBack 0 = .ok (.iload_n 1, 1) := by decide +kernel
theorem dX3_goBack_1 : decode cX3_goBack 1 = .ok (.iconst 0, 1) := by decide +kernel
theorem dX3_goBack_2 : decode cX3_goBack 2 = .ok (.iconst 1, 1) := by decide +kernel
theorem dX3_goBack_3 : decode cX3_goBack 3 = .ok (.invokestatic 53, 3) := by decide +kernel
theorem dX3_goBack_6 : decode cX3_goBack 6 = .ok (.ifCond .eq 13, 3) := by decide +kernel
theorem dX3_goBack_9 : decode cX3_goBack 9 = .ok (.new 57, 3) := by decide +kernel
theorem dX3_goBack_12 : decode cX3_goBack 12 = .ok (.dup, 1) := by decide +kernel
theorem dX3_goBack_13 : decode cX3_goBack 13 = .ok (.ldc 147, 2) := by decide +kernel
theorem dX3_goBack_15 : decode cX3_goBack 15 = .ok (.invokespecial 61, 3) := by decide +kernel
theorem dX3_goBack_18 : decode cX3_goBack 18 = .ok (.athrow, 1) := by decide +kernel
theorem dX3_goBack_19 : decode cX3_goBack 19 = .ok (.aload_n 0, 1) := by decide +kernel
theorem dX3_goBack_20 : decode cX3_goBack 20 = .ok (.iload_n 1, 1) := by decide +kernel
theorem dX3_goBack_21 : decode cX3_goBack 21 = .ok (.invokevirtual 152, 3) := by decide +kernel
theorem dX3_goBack_24 : decode cX3_goBack 24 = .ok (.ifCond .ne 13, 3) := by decide +kernel
theorem dX3_goBack_27 : decode cX3_goBack 27 = .ok (.new 117, 3) := by decide +kernel
theorem dX3_goBack_30 : decode cX3_goBack 30 = .ok (.dup, 1) := by decide +kernel
theorem dX3_goBack_31 : decode cX3_goBack 31 = .ok (.ldc 155, 2) := by decide +kernel
theorem dX3_goBack_33 : decode cX3_goBack 33 = .ok (.invokespecial 121, 3) := by decide +kernel
theorem dX3_goBack_36 : decode cX3_goBack 36 = .ok (.athrow, 1) := by decide +kernel
theorem dX3_goBack_37 : decode cX3_goBack 37 = .ok (.aload_n 0, 1) := by decide +kernel
theorem dX3_goBack_38 : decode cX3_goBack 38 = .ok (.getfield 27, 3) := by decide +kernel
theorem dX3_goBack_41 : decode cX3_goBack 41 = .ok (.aload_n 0, 1) := by decide +kernel
theorem dX3_goBack_42 : decode cX3_goBack 42 = .ok (.getfield 12, 3) := by decide +kernel
theorem dX3_goBack_45 : decode cX3_goBack 45 = .ok (.invokevirtual 62, 3) := by decide +kernel
theorem dX3_goBack_48 : decode cX3_goBack 48 = .ok (.aload_n 0, 1) := by decide +kernel
theorem dX3_goBack_49 : decode cX3_goBack 49 = .ok (.getfield 12, 3) := by decide +kernel
theorem dX3_goBack_52 : decode cX3_goBack 52 = .ok (.aload_n 0, 1) := by decide +kernel
theorem dX3_goBack_53 : decode cX3_goBack 53 = .ok (.getfield 16, 3) := by decide +kernel
theorem dX3_goBack_56 : decode cX3_goBack 56 = .ok (.iload_n 1, 1) := by decide +kernel
theorem dX3_goBack_57 : decode cX3_goBack 57 = .ok (.aaload, 1) := by decide +kernel
theorem dX3_goBack_58 : decode cX3_goBack 58 = .ok (.invokevirtual 149, 3) := by decide +kernel
theorem dX3_goBack_61 : decode cX3_goBack 61 = .ok (.aload_n 0, 1) := by decide +kernel
theorem dX3_goBack_62 : decode cX3_goBack 62 = .ok (.getfield 12, 3) := by decide +kernel
theorem dX3_goBack_65 : decode cX3_goBack 65 = .ok (.invokevirtual 144, 3) := by decide +kernel
theorem dX3_goBack_68 : decode cX3_goBack 68 = .ok (.ireturn, 1) := by decide +kernel
set_option maxRecDepth 20000 in
theorem ggX3_undo_X1_popInto : GoodIn wsX3_undo wsX1_popInto := goodIn_r _ [8, 9, 10, 11, 12, 13, 14, 15, 16, 17, 18, 19, 20, 21, 22, 23, 30, 31, 32, 33, 34, 35, 36] (by decide +kernel) (by decide +kernel)
set_option maxRecDepth 20000 in
theorem gX3_undo_X1_popInto_n162 : GoodIn wsX3_undo (wsX1_popInto) := ggX3_undo_X1_popInto
theorem dX3_undo_0 : decode cX3_undo 0 = .ok (.aload_n 0, 1) := by decide +kernel
theorem dX3_undo_1 : decode cX3_undo 1 = .ok (.getfield 27, 3) := by decide +kernel
theorem dX3_undo_4 : decode cX3_undo 4 = .ok (.getfield 157, 3) := by decide +kernel
theorem dX3_undo_7 : decode cX3_undo 7 = .ok (.ifCond .ne 13, 3) := by decide +kernel
theorem dX3_undo_10 : decode cX3_undo 10 = .ok (.new 117, 3) := by decide +kernel
theorem dX3_undo_13 : decode cX3_undo 13 = .ok (.dup, 1) := by decide +kernel
theorem dX3_undo_14 : decode cX3_undo 14 = .ok (.ldc 160, 2) := by decide +kernel
theorem dX3_undo_16 : decode cX3_undo 16 = .ok (.invokespecial 121, 3) := by decide +kernel
theorem dX3_undo_19 : decode cX3_undo 19 = .ok (.athrow, 1) := by decide +kernel
theorem dX3_undo_20 : decode cX3_undo 20 = .ok (.aload_n 0, 1) := by decide +kernel
theorem dX3_undo_21 : decode cX3_undo 21 = .ok (.getfield 27, 3) := by decide +kernel
theorem dX3_undo_24 : decode cX3_undo 24 = .ok (.aload_n 0, 1) := by decide +kernel
theorem dX3_undo_25 : decode cX3_undo 25 = .ok (.getfield 12, 3) := by decide +kernel
theorem dX3_undo_28 : decode cX3_undo 28 = .ok (.invokevirtual 162, 3) := by decide +kernel
theorem dX3_undo_31 : decode cX3_undo 31 = .ok (.aload_n 0, 1) := by decide +kernel
theorem dX3_undo_32 : decode cX3_undo 32 = .ok (.getfield 27, 3) := by decide +kernel
theorem dX3_undo_35 : decode cX3_undo 35 = .ok (.getfield 157, 3) := by decide +kernel
theorem dX3_undo_38 : decode cX3_undo 38 = .ok (.ireturn, 1) := by decide +kernel
set_option maxRecDepth 20000 in
theorem ggX3_wheelOf_X3_isNoPlace : GoodIn wsX3_wheelOf wsX3_isNoPlace := goodIn_r _ [8, 9, 10, 7, 11] (by decide +kernel) (by decide +kernel)
set_option maxRecDepth 20000 in
theorem gX3_wheelOf_X3_isNoPlace : GoodIn wsX3_wheelOf (va_wsS RX3 42 yX3_isNoPlace wsX3_isNoPlace) := goodIn_app (goodIn_of _ (by decide +kernel)) ggX3_wheelOf_X3_isNoPlace
set_option maxRecDepth 20000 in
theorem ggX3_wheelOf_X3_isOutside : GoodIn wsX3_wheelOf wsX3_isOutside := goodIn_r _ [11] (by decide +kernel) (by decide +kernel)
set_option maxRecDepth 20000 in
theorem gX3_wheelOf_X3_isOutside : GoodIn wsX3_wheelOf (va_wsS RX3 53 yX3_isOutside wsX3_isOutside) := goodIn_app (goodIn_of _ (by decide +kernel)) ggX3_wheelOf_X3_isOutside
set_option maxRecDepth 20000 in
theorem ggX3_wheelOf_X3_wheelNumber : GoodIn wsX3_wheelOf wsX3_wheelNumber := goodIn_r _ [15, 16, 17, 18, 19, 20, 21, 22, 23, 24, 25, 26, 7, 27, 28, 29, 30, 31, 32, 33, 34, 35, 36, 37, 38, 39, 40, 41, 42, 43, 44, 45, 46, 47, 48, 49, 50, 51, 52] (by decide +kernel) (by decide +kernel)
set_option maxRecDepth 20000 in
theorem gX3_wheelOf_X3_wheelNumber : GoodIn wsX3_wheelOf (wsV RX3 167 RX3 yX3_wheelNumber wsX3_wheelNumber) := goodIn_app (goodIn_of _ (by decide +kernel)) ggX3_wheelOf_X3_wheelNumber
theorem dX3_wheelOf_0 : decode cX3_wheelOf 0 = .ok (.iload_n 1, 1) := by decide +kernel
theorem dX3_wheelOf_1 : decode cX3_wheelOf 1 = .ok (.invokestatic 42, 3) := by decide +kernel
theorem dX3_wheelOf_4 : decode cX3_wheelOf 4 = .ok (.ifCond .eq 13, 3) := by decide +kernel
theorem dX3_wheelOf_7 : decode cX3_wheelOf 7 = .ok (.new 46, 3) := by decide +kernel
theorem dX3_wheelOf_10 : decode cX3_wheelOf 10 = .ok (.dup, 1) := by decide +kernel
theorem dX3_wheelOf_11 : decode cX3_wheelOf 11 = .ok (.ldc 48, 2) := by decide +kernel
theorem dX3_wheelOf_13 : decode cX3_wheelOf 13 = .ok (.invokespecial 50, 3) := by decide +kernel
theorem dX3_wheelOf_16 : decode cX3_wheelOf 16 = .ok (.athrow, 1) := by decide +kernel
theorem dX3_wheelOf_17 : decode cX3_wheelOf 17 = .ok (.iload_n 2, 1) := by decide +kernel
theorem dX3_wheelOf_18 : decode cX3_wheelOf 18 = .ok (.iconst 0, 1) := by decide +kernel
theorem dX3_wheelOf_19 : decode cX3_wheelOf 19 = .ok (.iconst 3, 1) := by decide +kernel
theorem dX3_wheelOf_20 : decode cX3_wheelOf 20 = .ok (.invokestatic 53, 3) := by decide +kernel
theorem dX3_wheelOf_23 : decode cX3_wheelOf 23 = .ok (.ifCond .eq 13, 3) := by decide +kernel
theorem dX3_wheelOf_26 : decode cX3_wheelOf 26 = .ok (.new 57, 3) := by decide +kernel
theorem dX3_wheelOf_29 : decode cX3_wheelOf 29 = .ok (.dup, 1) := by decide +kernel
theorem dX3_wheelOf_30 : decode cX3_wheelOf 30 = .ok (.ldc 165, 2) := by decide +kernel
theorem dX3_wheelOf_32 : decode cX3_wheelOf 32 = .ok (.invokespecial 61, 3) := by decide +kernel
theorem dX3_wheelOf_35 : decode cX3_wheelOf 35 = .ok (.athrow, 1) := by decide +kernel
theorem dX3_wheelOf_36 : decode cX3_wheelOf 36 = .ok (.aload_n 0, 1) := by decide +kernel
theorem dX3_wheelOf_37 : decode cX3_wheelOf 37 = .ok (.iload_n 1, 1) := by decide +kernel
theorem dX3_wheelOf_38 : decode cX3_wheelOf 38 = .ok (.iload_n 2, 1) := by decide +kernel
theorem dX3_wheelOf_39 : decode cX3_wheelOf 39 = .ok (.invokevirtual 167, 3) := by decide +kernel
theorem dX3_wheelOf_42 : decode cX3_wheelOf 42 = .ok (.ireturn, 1) := by decide +kernel
set_option maxRecDepth 20000 in
theorem ggX3_trace_X3_isNoPlace : GoodIn wsX3_trace wsX3_isNoPlace := goodIn_r _ [8, 9, 10, 7, 11] (by decide +kernel) (by decide +kernel)
set_option maxRecDepth 20000 in
theorem gX3_trace_X3_isNoPlace : GoodIn wsX3_trace (va_wsS RX3 42 yX3_isNoPlace wsX3_isNoPlace) := goodIn_app (goodIn_of _ (by decide +kernel)) ggX3_trace_X3_isNoPlace
set_option maxRecDepth 20000 in
theorem ggX3_trace_X3_isOutside : GoodIn wsX3_trace wsX3_isOutside := goodIn_r _ [11] (by decide +kernel) (by decide +kernel)
set_option maxRecDepth 20000 in
theorem gX3_trace_X3_isOutside : GoodIn wsX3_trace (va_wsS RX3 53 yX3_isOutside wsX3_isOutside) := goodIn_app (goodIn_of _ (by decide +kernel)) ggX3_trace_X3_isOutside
set_option maxRecDepth 20000 in
theorem ggX3_trace_X3_traceNumber : GoodIn wsX3_trace wsX3_traceNumber := goodIn_r _ [15, 16, 17, 18, 19, 20, 21, 22, 23, 24, 25, 26, 27, 28, 29, 30, 31, 32, 7, 33, 34, 35, 36, 37, 38, 39, 40, 41, 42, 43, 44, 45, 46, 47, 48, 49, 50, 51, 52, 53, 54] (by decide +kernel) (by decide +kernel)
set_option maxRecDepth 20000 in
theorem gX3_trace_X3_traceNumber : GoodIn wsX3_trace (wsV RX3 172 RX3 yX3_traceNumber wsX3_traceNumber) := goodIn_app (goodIn_of _ (by decide +kernel)) ggX3_trace_X3_traceNumber
theorem dX3_trace_0 : decode cX3_trace 0 = .ok (.iload_n 1, 1) := by decide +kernel
theorem dX3_trace_1 : decode cX3_trace 1 = .ok (.invokestatic 42, 3) := by decide +kernel
theorem dX3_trace_4 : decode cX3_trace 4 = .ok (.ifCond .eq 13, 3) := by decide +kernel
theorem dX3_trace_7 : decode cX3_trace 7 = .ok (.new 46, 3) := by decide +kernel
theorem dX3_trace_10 : decode cX3_trace 10 = .ok (.dup, 1) := by decide +kernel
theorem dX3_trace_11 : decode cX3_trace 11 = .ok (.ldc 89, 2) := by decide +kernel
theorem dX3_trace_13 : decode cX3_trace 13 = .ok (.invokespecial 50, 3) := by decide +kernel
theorem dX3_trace_16 : decode cX3_trace 16 = .ok (.athrow, 1) := by decide +kernel
theorem dX3_trace_17 : decode cX3_trace 17 = .ok (.iload_n 2, 1) := by decide +kernel
theorem dX3_trace_18 : decode cX3_trace 18 = .ok (.iconst 0, 1) := by decide +kernel
theorem dX3_trace_19 : decode cX3_trace 19 = .ok (.iconst 1, 1) := by decide +kernel
theorem dX3_trace_20 : decode cX3_trace 20 = .ok (.invokestatic 53, 3) := by decide +kernel
theorem dX3_trace_23 : decode cX3_trace 23 = .ok (.ifCond .eq 13, 3) := by decide +kernel
theorem dX3_trace_26 : decode cX3_trace 26 = .ok (.new 57, 3) := by decide +kernel
theorem dX3_trace_29 : decode cX3_trace 29 = .ok (.dup, 1) := by decide +kernel
theorem dX3_trace_30 : decode cX3_trace 30 = .ok (.ldc 170, 2) := by decide +kernel
theorem dX3_trace_32 : decode cX3_trace 32 = .ok (.invokespecial 61, 3) := by decide +kernel
theorem dX3_trace_35 : decode cX3_trace 35 = .ok (.athrow, 1) := by decide +kernel
theorem dX3_trace_36 : decode cX3_trace 36 = .ok (.aload_n 0, 1) := by decide +kernel
theorem dX3_trace_37 : decode cX3_trace 37 = .ok (.iload_n 1, 1) := by decide +kernel
theorem dX3_trace_38 : decode cX3_trace 38 = .ok (.iload_n 2, 1) := by decide +kernel
theorem dX3_trace_39 : decode cX3_trace 39 = .ok (.invokevirtual 172, 3) := by decide +kernel
theorem dX3_trace_42 : decode cX3_trace 42 = .ok (.ireturn, 1) := by decide +kernel
set_option maxRecDepth 20000 in
theorem ggX3_pointOf_X3_isNoPlace : GoodIn wsX3_pointOf wsX3_isNoPlace := goodIn_r _ [8, 9, 10, 7, 11] (by decide +kernel) (by decide +kernel)
set_option maxRecDepth 20000 in
theorem gX3_pointOf_X3_isNoPlace : GoodIn wsX3_pointOf (va_wsS RX3 42 yX3_isNoPlace wsX3_isNoPlace) := goodIn_app (goodIn_of _ (by decide +kernel)) ggX3_pointOf_X3_isNoPlace
set_option maxRecDepth 20000 in
theorem ggX3_pointOf_X3_isOutside : GoodIn wsX3_pointOf wsX3_isOutside := goodIn_r _ [11] (by decide +kernel) (by decide +kernel)
set_option maxRecDepth 20000 in
theorem gX3_pointOf_X3_isOutside : GoodIn wsX3_pointOf (va_wsS RX3 53 yX3_isOutside wsX3_isOutside) := goodIn_app (goodIn_of _ (by decide +kernel)) ggX3_pointOf_X3_isOutside
set_option maxRecDepth 20000 in
theorem ggX3_pointOf_X3_pointNumber : GoodIn wsX3_pointOf wsX3_pointNumber := goodIn_r _ [15, 16, 17, 18, 19, 20, 21, 22, 23, 24, 25, 26, 27, 28, 29, 30, 31, 32, 33, 34, 35, 36, 7, 37, 38, 39, 40, 41, 42, 43, 44, 45, 46, 47, 48, 49, 50, 51, 52, 53, 54, 55, 56, 57] (by decide +kernel) (by decide +kernel)
set_option maxRecDepth 20000 in
theorem gX3_pointOf_X3_pointNumber : GoodIn wsX3_pointOf (wsV RX3 177 RX3 yX3_pointNumber wsX3_pointNumber) := goodIn_app (goodIn_of _ (by decide +kernel)) ggX3_pointOf_X3_pointNumber
theorem dX3_pointOf_0 : decode cX3_pointOf 0 = .ok (.iload_n 1, 1) := by decide +kernel
theorem dX3_pointOf_1 : decode cX3_pointOf 1 = .ok (.invokestatic 42, 3) := by decide +kernel
theorem dX3_pointOf_4 : decode cX3_pointOf 4 = .ok (.ifCond .eq 13, 3) := by decide +kernel
theorem dX3_pointOf_7 : decode cX3_pointOf 7 = .ok (.new 46, 3) := by decide +kernel
theorem dX3_pointOf_10 : decode cX3_pointOf 10 = .ok (.dup, 1) := by decide +kernel
theorem dX3_pointOf_11 : decode cX3_pointOf 11 = .ok (.ldc 89, 2) := by decide +kernel
theorem dX3_pointOf_13 : decode cX3_pointOf 13 = .ok (.invokespecial 50, 3) := by decide +kernel
theorem dX3_pointOf_16 : decode cX3_pointOf 16 = .ok (.athrow, 1) := by decide +kernel
theorem dX3_pointOf_17 : decode cX3_pointOf 17 = .ok (.iload_n 2, 1) := by decide +kernel
theorem dX3_pointOf_18 : decode cX3_pointOf 18 = .ok (.iconst 0, 1) := by decide +kernel
theorem dX3_pointOf_19 : decode cX3_pointOf 19 = .ok (.iconst 2, 1) := by decide +kernel
theorem dX3_pointOf_20 : decode cX3_pointOf 20 = .ok (.invokestatic 53, 3) := by decide +kernel
theorem dX3_pointOf_23 : decode cX3_pointOf 23 = .ok (.ifCond .eq 13, 3) := by decide +kernel
theorem dX3_pointOf_26 : decode cX3_pointOf 26 = .ok (.new 57, 3) := by decide +kernel
theorem dX3_pointOf_29 : decode cX3_pointOf 29 = .ok (.dup, 1) := by decide +kernel
theorem dX3_pointOf_30 : decode cX3_pointOf 30 = .ok (.ldc 175, 2) := by decide +kernel
theorem dX3_pointOf_32 : decode cX3_pointOf 32 = .ok (.invokespecial 61, 3) := by decide +kernel
theorem dX3_pointOf_35 : decode cX3_pointOf 35 = .ok (.athrow, 1) := by decide +kernel
theorem dX3_pointOf_36 : decode cX3_pointOf 36 = .ok (.aload_n 0, 1) := by decide +kernel
theorem dX3_pointOf_37 : decode cX3_pointOf 37 = .ok (.iload_n 1, 1) := by decide +kernel
theorem dX3_pointOf_38 : decode cX3_pointOf 38 = .ok (.iload_n 2, 1) := by decide +kernel
theorem dX3_pointOf_39 : decode cX3_pointOf 39 = .ok (.invokevirtual 177, 3) := by decide +kernel
theorem dX3_pointOf_42 : decode cX3_pointOf 42 = .ok (.ireturn, 1) := by decide +kernel
set_option maxRecDepth 20000 in
theorem ggX3_count_X3_isOutside : GoodIn wsX3_count wsX3_isOutside := goodIn_r _ [6] (by decide +kernel) (by decide +kernel)
set_option maxRecDepth 20000 in
theorem gX3_count_X3_isOutside : GoodIn wsX3_count (va_wsS RX3 53 yX3_isOutside wsX3_isOutside) := goodIn_app (goodIn_of _ (by decide +kernel)) ggX3_count_X3_isOutside
set_option maxRecDepth 20000 in
theorem ggX3_count_X3_countNumber : GoodIn wsX3_count wsX3_countNumber := goodIn_r _ [10, 11, 12, 13, 14, 15, 16, 17, 18, 19, 20, 21, 22, 23, 24, 25, 26, 27, 5, 28, 29, 30, 31, 32, 33, 34, 35, 36, 37, 38, 39, 40, 41, 42, 43, 44, 45, 46, 47, 48, 49, 50, 51, 52, 53, 54, 55, 56, 57, 58, 59, 60, 61, 62, 63, 64, 65, 66, 67, 68, 69, 70, 71, 72, 73, 74, 75, 76, 77, 78, 79, 80, 81, 82, 83, 84, 85, 86, 87, 88, 89] (by decide +kernel) (by decide +kernel)
set_option maxRecDepth 20000 in
theorem gX3_count_X3_countNumber : GoodIn wsX3_count (wsV RX3 182 RX3 yX3_countNumber wsX3_countNumber) := goodIn_app (goodIn_of _ (by decide +kernel)) ggX3_count_X3_countNumber
theorem dX3_count_0 : decode cX3_count 0 = .ok (.iload_n 1, 1) := by decide +kernel
theorem dX3_count_1 : decode cX3_count 1 = .ok (.iconst 0, 1) := by decide +kernel
theorem dX3_count_2 : decode cX3_count 2 = .ok (.bipush 8, 2) := by decide +kernel
theorem dX3_count_4 : decode cX3_count 4 = .ok (.invokestatic 53, 3) := by decide +kernel
theorem dX3_count_7 : decode cX3_count 7 = .ok (.ifCond .eq 13, 3) := by decide +kernel
theorem dX3_count_10 : decode cX3_count 10 = .ok (.new 57, 3) := by decide +kernel
theorem dX3_count_13 : decode cX3_count 13 = .ok (.dup, 1) := by decide +kernel
theorem dX3_count_14 : decode cX3_count 14 = .ok (.ldc 180, 2) := by decide +kernel
theorem dX3_count_16 : decode cX3_count 16 = .ok (.invokespecial 61, 3) := by decide +kernel
theorem dX3_count_19 : decode cX3_count 19 = .ok (.athrow, 1) := by decide +kernel
theorem dX3_count_20 : decode cX3_count 20 = .ok (.aload_n 0, 1) := by decide +kernel
theorem dX3_count_21 : decode cX3_count 21 = .ok (.iload_n 1, 1) := by decide +kernel
theorem dX3_count_22 : decode cX3_count 22 = .ok (.invokevirtual 182, 3) := by decide +kernel
theorem dX3_count_25 : decode cX3_count 25 = .ok (.ireturn, 1) := by decide +kernel
set_option maxRecDepth 20000 in
theorem ggX3_findLost_X0_differenceAt : GoodIn wsX3_findLost wsX0_differenceAt := goodIn_r _ [5, 6, 7, 8, 9, 3, 10, 11, 12, 13, 14, 15, 16, 17, 18, 19, 20, 21, 22, 23, 24, 25, 26, 27, 28, 29, 30, 42, 43, 44, 45] (by decide +kernel) (by decide +kernel)
set_option maxRecDepth 20000 in
theorem gX3_findLost_X0_differenceAt_n185 : GoodIn wsX3_findLost (wsX0_differenceAt) := ggX3_findLost_X0_differenceAt
set_option maxRecDepth 20000 in
theorem ggX3_findLost_X3_isDifference : GoodIn wsX3_findLost wsX3_isDifference := goodIn_r _ [34, 1, 2, 3, 4, 5, 6, 7, 8, 9, 10, 11, 12, 13, 14, 15, 16, 17, 18, 19, 20, 21, 22, 23, 24, 25, 26, 27, 28, 29, 30, 35, 36, 37, 38, 39, 40, 41, 42, 43, 44, 45] (by decide +kernel) (by decide +kernel)
set_option maxRecDepth 20000 in
theorem gX3_findLost_X3_isDifference : GoodIn wsX3_findLost (wsV RX3 188 RX3 yX3_isDifference wsX3_isDifference) := goodIn_app (goodIn_of _ (by decide +kernel)) ggX3_findLost_X3_isDifference
theorem dX3_findLost_0 : decode cX3_findLost 0 = .ok (.aload_n 0, 1) := by decide +kernel
theorem dX3_findLost_1 : decode cX3_findLost 1 = .ok (.getfield 12, 3) := by decide +kernel
theorem dX3_findLost_4 : decode cX3_findLost 4 = .ok (.iconst 0, 1) := by decide +kernel
theorem dX3_findLost_5 : decode cX3_findLost 5 = .ok (.invokevirtual 185, 3) := by decide +kernel
theorem dX3_findLost_8 : decode cX3_findLost 8 = .ok (.istore_n 1, 1) := by decide +kernel
theorem dX3_findLost_9 : decode cX3_findLost 9 = .ok (.iload_n 1, 1) := by decide +kernel
theorem dX3_findLost_10 : decode cX3_findLost 10 = .ok (.ifCond .ne 5, 3) := by decide +kernel
theorem dX3_findLost_13 : decode cX3_findLost 13 = .ok (.iconst (-1), 1) := by decide +kernel
theorem dX3_findLost_14 : decode cX3_findLost 14 = .ok (.ireturn, 1) := by decide +kernel
theorem dX3_findLost_15 : decode cX3_findLost 15 = .ok (.iconst 0, 1) := by decide +kernel
theorem dX3_findLost_16 : decode cX3_findLost 16 = .ok (.istore_n 2, 1) := by decide +kernel
theorem dX3_findLost_17 : decode cX3_findLost 17 = .ok (.iload_n 2, 1) := by decide +kernel
theorem dX3_findLost_18 : decode cX3_findLost 18 = .ok (.bipush 8, 2) := by decide +kernel
theorem dX3_findLost_20 : decode cX3_findLost 20 = .ok (.if_icmp .ge 20, 3) := by decide +kernel
theorem dX3_findLost_23 : decode cX3_findLost 23 = .ok (.aload_n 0, 1) := by decide +kernel
theorem dX3_findLost_24 : decode cX3_findLost 24 = .ok (.iload_n 1, 1) := by decide +kernel
theorem dX3_findLost_25 : decode cX3_findLost 25 = .ok (.iload_n 2, 1) := by decide +kernel
theorem dX3_findLost_26 : decode cX3_findLost 26 = .ok (.invokevirtual 188, 3) := by decide +kernel
theorem dX3_findLost_29 : decode cX3_findLost 29 = .ok (.ifCond .eq 5, 3) := by decide +kernel
theorem dX3_findLost_32 : decode cX3_findLost 32 = .ok (.iload_n 2, 1) := by decide +kernel
theorem dX3_findLost_33 : decode cX3_findLost 33 = .ok (.ireturn, 1) := by decide +kernel
theorem dX3_findLost_34 : decode cX3_findLost 34 = .ok (.iinc 2 1, 3) := by decide +kernel
theorem dX3_findLost_37 : decode cX3_findLost 37 = .ok (.goto (-20), 3) := by decide +kernel
theorem dX3_findLost_40 : decode cX3_findLost 40 = .ok (.iconst (-1), 1) := by decide +kernel
theorem dX3_findLost_41 : decode cX3_findLost 41 = .ok (.ireturn, 1) := by decide +kernel
set_option maxRecDepth 20000 in
theorem ggX3_enough_X3_isOutside : GoodIn wsX3_enough wsX3_isOutside := goodIn_r _ [7] (by decide +kernel) (by decide +kernel)
set_option maxRecDepth 20000 in
theorem gX3_enough_X3_isOutside : GoodIn wsX3_enough (va_wsS RX3 53 yX3_isOutside wsX3_isOutside) := goodIn_app (goodIn_of _ (by decide +kernel)) ggX3_enough_X3_isOutside
set_option maxRecDepth 20000 in
theorem ggX3_enough_X3_fewestNumber : GoodIn wsX3_enough wsX3_fewestNumber := goodIn_r _ [11, 12, 13, 14, 15, 16, 17, 18, 19, 20, 21, 22, 23, 24, 25, 26, 27, 28, 29, 30, 6, 31, 32, 33, 34, 35, 36, 37, 38, 39, 40, 41, 42, 43, 44, 45, 46, 47, 48, 49] (by decide +kernel) (by decide +kernel)
set_option maxRecDepth 20000 in
theorem gX3_enough_X3_fewestNumber : GoodIn wsX3_enough (wsV RX3 195 RX3 yX3_fewestNumber wsX3_fewestNumber) := goodIn_app (goodIn_of _ (by decide +kernel)) ggX3_enough_X3_fewestNumber
theorem dX3_enough_0 : decode cX3_enough 0 = .ok (.iload_n 1, 1) := by decide +kernel
theorem dX3_enough_1 : decode cX3_enough 1 = .ok (.iconst 0, 1) := by decide +kernel
theorem dX3_enough_2 : decode cX3_enough 2 = .ok (.ldc 192, 2) := by decide +kernel
theorem dX3_enough_4 : decode cX3_enough 4 = .ok (.invokestatic 53, 3) := by decide +kernel
theorem dX3_enough_7 : decode cX3_enough 7 = .ok (.ifCond .eq 13, 3) := by decide +kernel
theorem dX3_enough_10 : decode cX3_enough 10 = .ok (.new 57, 3) := by decide +kernel
theorem dX3_enough_13 : decode cX3_enough 13 = .ok (.dup, 1) := by decide +kernel
theorem dX3_enough_14 : decode cX3_enough 14 = .ok (.ldc 193, 2) := by decide +kernel
theorem dX3_enough_16 : decode cX3_enough 16 = .ok (.invokespecial 61, 3) := by decide +kernel
theorem dX3_enough_19 : decode cX3_enough 19 = .ok (.athrow, 1) := by decide +kernel
theorem dX3_enough_20 : decode cX3_enough 20 = .ok (.iload_n 2, 1) := by decide +kernel
theorem dX3_enough_21 : decode cX3_enough 21 = .ok (.iconst 0, 1) := by decide +kernel
theorem dX3_enough_22 : decode cX3_enough 22 = .ok (.iconst 1, 1) := by decide +kernel
theorem dX3_enough_23 : decode cX3_enough 23 = .ok (.invokestatic 53, 3) := by decide +kernel
theorem dX3_enough_26 : decode cX3_enough 26 = .ok (.ifCond .eq 13, 3) := by decide +kernel
theorem dX3_enough_29 : decode cX3_enough 29 = .ok (.new 57, 3) := by decide +kernel
theorem dX3_enough_32 : decode cX3_enough 32 = .ok (.dup, 1) := by decide +kernel
theorem dX3_enough_33 : decode cX3_enough 33 = .ok (.ldc 170, 2) := by decide +kernel
theorem dX3_enough_35 : decode cX3_enough 35 = .ok (.invokespecial 61, 3) := by decide +kernel
theorem dX3_enough_38 : decode cX3_enough 38 = .ok (.athrow, 1) := by decide +kernel
theorem dX3_enough_39 : decode cX3_enough 39 = .ok (.aload_n 0, 1) := by decide +kernel
theorem dX3_enough_40 : decode cX3_enough 40 = .ok (.iload_n 1, 1) := by decide +kernel
theorem dX3_enough_41 : decode cX3_enough 41 = .ok (.iload_n 2, 1) := by decide +kernel
theorem dX3_enough_42 : decode cX3_enough 42 = .ok (.invokevirtual 195, 3) := by decide +kernel
theorem dX3_enough_45 : decode cX3_enough 45 = .ok (.ireturn, 1) := by decide +kernel
set_option maxRecDepth 20000 in
theorem ggX3_ifTurned_X3_isNoPlace : GoodIn wsX3_ifTurned wsX3_isNoPlace := goodIn_r _ [9, 10, 11, 8, 12] (by decide +kernel) (by decide +kernel)
set_option maxRecDepth 20000 in
theorem gX3_ifTurned_X3_isNoPlace : GoodIn wsX3_ifTurned (va_wsS RX3 42 yX3_isNoPlace wsX3_isNoPlace) := goodIn_app (goodIn_of _ (by decide +kernel)) ggX3_ifTurned_X3_isNoPlace
set_option maxRecDepth 20000 in
theorem ggX3_ifTurned_X0_traceAt : GoodIn wsX3_ifTurned wsX0_traceAt := goodIn_r _ [16, 17, 18, 19, 14, 20, 21, 22, 23, 24, 25, 26, 27, 8, 28, 29, 30, 31, 32, 33, 34, 35, 42, 43, 44, 45] (by decide +kernel) (by decide +kernel)
set_option maxRecDepth 20000 in
theorem gX3_ifTurned_X0_traceAt_n96 : GoodIn wsX3_ifTurned (wsX0_traceAt) := ggX3_ifTurned_X0_traceAt
theorem dX3_ifTurned_0 : decode cX3_ifTurned 0 = .ok (.iload_n 2, 1) := by decide +kernel
theorem dX3_ifTurned_1 : decode cX3_ifTurned 1 = .ok (.invokestatic 42, 3) := by decide +kernel
theorem dX3_ifTurned_4 : decode cX3_ifTurned 4 = .ok (.ifCond .eq 13, 3) := by decide +kernel
theorem dX3_ifTurned_7 : decode cX3_ifTurned 7 = .ok (.new 46, 3) := by decide +kernel
theorem dX3_ifTurned_10 : decode cX3_ifTurned 10 = .ok (.dup, 1) := by decide +kernel
theorem dX3_ifTurned_11 : decode cX3_ifTurned 11 = .ok (.ldc 89, 2) := by decide +kernel
theorem dX3_ifTurned_13 : decode cX3_ifTurned 13 = .ok (.invokespecial 50, 3) := by decide +kernel
theorem dX3_ifTurned_16 : decode cX3_ifTurned 16 = .ok (.athrow, 1) := by decide +kernel
theorem dX3_ifTurned_17 : decode cX3_ifTurned 17 = .ok (.iload_n 1, 1) := by decide +kernel
theorem dX3_ifTurned_18 : decode cX3_ifTurned 18 = .ok (.invokestatic 42, 3) := by decide +kernel
theorem dX3_ifTurned_21 : decode cX3_ifTurned 21 = .ok (.ifCond .eq 13, 3) := by decide +kernel
theorem dX3_ifTurned_24 : decode cX3_ifTurned 24 = .ok (.new 57, 3) := by decide +kernel
theorem dX3_ifTurned_27 : decode cX3_ifTurned 27 = .ok (.dup, 1) := by decide +kernel
theorem dX3_ifTurned_28 : decode cX3_ifTurned 28 = .ok (.ldc 75, 2) := by decide +kernel
theorem dX3_ifTurned_30 : decode cX3_ifTurned 30 = .ok (.invokespecial 61, 3) := by decide +kernel
theorem dX3_ifTurned_33 : decode cX3_ifTurned 33 = .ok (.athrow, 1) := by decide +kernel
theorem dX3_ifTurned_34 : decode cX3_ifTurned 34 = .ok (.aload_n 0, 1) := by decide +kernel
theorem dX3_ifTurned_35 : decode cX3_ifTurned 35 = .ok (.getfield 12, 3) := by decide +kernel
theorem dX3_ifTurned_38 : decode cX3_ifTurned 38 = .ok (.iload_n 2, 1) := by decide +kernel
theorem dX3_ifTurned_39 : decode cX3_ifTurned 39 = .ok (.iload_n 1, 1) := by decide +kernel
theorem dX3_ifTurned_40 : decode cX3_ifTurned 40 = .ok (.ixor, 1) := by decide +kernel
theorem dX3_ifTurned_41 : decode cX3_ifTurned 41 = .ok (.invokevirtual 96, 3) := by decide +kernel
theorem dX3_ifTurned_44 : decode cX3_ifTurned 44 = .ok (.ireturn, 1) := by decide +kernel
set_option maxRecDepth 20000 in
theorem ggX3_bestTurn_X3_differencesIfTurned : GoodIn wsX3_bestTurn wsX3_differencesIfTurned := goodIn_r _ [5, 6, 7, 8, 9, 10, 11, 12, 13, 14, 15, 16, 17, 18, 19, 20, 21, 22, 23, 24, 25, 4, 26, 27, 28, 29, 30, 31, 32, 33, 34, 35, 36, 37, 38, 39, 40, 41, 42, 43] (by decide +kernel) (by decide +kernel)
set_option maxRecDepth 20000 in
theorem gX3_bestTurn_X3_differencesIfTurned : GoodIn wsX3_bestTurn (wsV RX3 198 RX3 yX3_differencesIfTurned wsX3_differencesIfTurned) := goodIn_app (goodIn_of _ (by decide +kernel)) ggX3_bestTurn_X3_differencesIfTurned
theorem dX3_bestTurn_0 : decode cX3_bestTurn 0 = .ok (.iconst 0, 1) := by decide +kernel
theorem dX3_bestTurn_1 : decode cX3_bestTurn 1 = .ok (.istore_n 1, 1) := by decide +kernel
theorem dX3_bestTurn_2 : decode cX3_bestTurn 2 = .ok (.aload_n 0, 1) := by decide +kernel
theorem dX3_bestTurn_3 : decode cX3_bestTurn 3 = .ok (.iconst 0, 1) := by decide +kernel
theorem dX3_bestTurn_4 : decode cX3_bestTurn 4 = .ok (.invokevirtual 198, 3) := by decide +kernel
theorem dX3_bestTurn_7 : decode cX3_bestTurn 7 = .ok (.istore_n 2, 1) := by decide +kernel
theorem dX3_bestTurn_8 : decode cX3_bestTurn 8 = .ok (.iconst 1, 1) := by decide +kernel
theorem dX3_bestTurn_9 : decode cX3_bestTurn 9 = .ok (.istore_n 3, 1) := by decide +kernel
theorem dX3_bestTurn_10 : decode cX3_bestTurn 10 = .ok (.iload_n 3, 1) := by decide +kernel
theorem dX3_bestTurn_11 : decode cX3_bestTurn 11 = .ok (.bipush 8, 2) := by decide +kernel
theorem dX3_bestTurn_13 : decode cX3_bestTurn 13 = .ok (.if_icmp .ge 27, 3) := by decide +kernel
theorem dX3_bestTurn_16 : decode cX3_bestTurn 16 = .ok (.aload_n 0, 1) := by decide +kernel
theorem dX3_bestTurn_17 : decode cX3_bestTurn 17 = .ok (.iload_n 3, 1) := by decide +kernel
theorem dX3_bestTurn_18 : decode cX3_bestTurn 18 = .ok (.invokevirtual 198, 3) := by decide +kernel
theorem dX3_bestTurn_21 : decode cX3_bestTurn 21 = .ok (.istore 4, 2) := by decide +kernel
theorem dX3_bestTurn_23 : decode cX3_bestTurn 23 = .ok (.iload 4, 2) := by decide +kernel
theorem dX3_bestTurn_25 : decode cX3_bestTurn 25 = .ok (.iload_n 2, 1) := by decide +kernel
theorem dX3_bestTurn_26 : decode cX3_bestTurn 26 = .ok (.if_icmp .ge 8, 3) := by decide +kernel
theorem dX3_bestTurn_29 : decode cX3_bestTurn 29 = .ok (.iload 4, 2) := by decide +kernel
theorem dX3_bestTurn_31 : decode cX3_bestTurn 31 = .ok (.istore_n 2, 1) := by decide +kernel
theorem dX3_bestTurn_32 : decode cX3_bestTurn 32 = .ok (.iload_n 3, 1) := by decide +kernel
theorem dX3_bestTurn_33 : decode cX3_bestTurn 33 = .ok (.istore_n 1, 1) := by decide +kernel
theorem dX3_bestTurn_34 : decode cX3_bestTurn 34 = .ok (.iinc 3 1, 3) := by decide +kernel
theorem dX3_bestTurn_37 : decode cX3_bestTurn 37 = .ok (.goto (-27), 3) := by decide +kernel
theorem dX3_bestTurn_40 : decode cX3_bestTurn 40 = .ok (.iload_n 1, 1) := by decide +kernel
theorem dX3_bestTurn_41 : decode cX3_bestTurn 41 = .ok (.ireturn, 1) := by decide +kernel
set_option maxRecDepth 20000 in
theorem ggX3_mainShare_X0_drawnAmplitude : GoodIn wsX3_mainShare wsX0_drawnAmplitude := goodIn_r _ [9, 10, 11, 12, 13, 7, 14, 15, 22, 23, 24, 25] (by decide +kernel) (by decide +kernel)
set_option maxRecDepth 20000 in
theorem gX3_mainShare_X0_drawnAmplitude_n201 : GoodIn wsX3_mainShare (wsX0_drawnAmplitude) := ggX3_mainShare_X0_drawnAmplitude
theorem dX3_mainShare_0 : decode cX3_mainShare 0 = .ok (.iconst 0, 1) := by decide +kernel
theorem dX3_mainShare_1 : decode cX3_mainShare 1 = .ok (.istore_n 1, 1) := by decide +kernel
theorem dX3_mainShare_2 : decode cX3_mainShare 2 = .ok (.iconst 0, 1) := by decide +kernel
theorem dX3_mainShare_3 : decode cX3_mainShare 3 = .ok (.istore_n 2, 1) := by decide +kernel
theorem dX3_mainShare_4 : decode cX3_mainShare 4 = .ok (.iconst 0, 1) := by decide +kernel
theorem dX3_mainShare_5 : decode cX3_mainShare 5 = .ok (.istore_n 3, 1) := by decide +kernel
theorem dX3_mainShare_6 : decode cX3_mainShare 6 = .ok (.iload_n 3, 1) := by decide +kernel
theorem dX3_mainShare_7 : decode cX3_mainShare 7 = .ok (.bipush 8, 2) := by decide +kernel
theorem dX3_mainShare_9 : decode cX3_mainShare 9 = .ok (.if_icmp .ge 40, 3) := by decide +kernel
theorem dX3_mainShare_12 : decode cX3_mainShare 12 = .ok (.aload_n 0, 1) := by decide +kernel
theorem dX3_mainShare_13 : decode cX3_mainShare 13 = .ok (.getfield 12, 3) := by decide +kernel
theorem dX3_mainShare_16 : decode cX3_mainShare 16 = .ok (.iload_n 3, 1) := by decide +kernel
theorem dX3_mainShare_17 : decode cX3_mainShare 17 = .ok (.invokevirtual 201, 3) := by decide +kernel
theorem dX3_mainShare_20 : decode cX3_mainShare 20 = .ok (.aload_n 0, 1) := by decide +kernel
theorem dX3_mainShare_21 : decode cX3_mainShare 21 = .ok (.getfield 12, 3) := by decide +kernel
theorem dX3_mainShare_24 : decode cX3_mainShare 24 = .ok (.iload_n 3, 1) := by decide +kernel
theorem dX3_mainShare_25 : decode cX3_mainShare 25 = .ok (.invokevirtual 201, 3) := by decide +kernel
theorem dX3_mainShare_28 : decode cX3_mainShare 28 = .ok (.imul, 1) := by decide +kernel
theorem dX3_mainShare_29 : decode cX3_mainShare 29 = .ok (.istore 4, 2) := by decide +kernel
theorem dX3_mainShare_31 : decode cX3_mainShare 31 = .ok (.iload_n 1, 1) := by decide +kernel
theorem dX3_mainShare_32 : decode cX3_mainShare 32 = .ok (.iload 4, 2) := by decide +kernel
theorem dX3_mainShare_34 : decode cX3_mainShare 34 = .ok (.invokestatic 105, 3) := by decide +kernel
theorem dX3_mainShare_37 : decode cX3_mainShare 37 = .ok (.istore_n 1, 1) := by decide +kernel
theorem dX3_mainShare_38 : decode cX3_mainShare 38 = .ok (.iload_n 2, 1) := by decide +kernel
theorem dX3_mainShare_39 : decode cX3_mainShare 39 = .ok (.iload 4, 2) := by decide +kernel
theorem dX3_mainShare_41 : decode cX3_mainShare 41 = .ok (.iadd, 1) := by decide +kernel
theorem dX3_mainShare_42 : decode cX3_mainShare 42 = .ok (.istore_n 2, 1) := by decide +kernel
theorem dX3_mainShare_43 : decode cX3_mainShare 43 = .ok (.iinc 3 1, 3) := by decide +kernel
theorem dX3_mainShare_46 : decode cX3_mainShare 46 = .ok (.goto (-40), 3) := by decide +kernel
theorem dX3_mainShare_49 : decode cX3_mainShare 49 = .ok (.iload_n 2, 1) := by decide +kernel
theorem dX3_mainShare_50 : decode cX3_mainShare 50 = .ok (.ifCond .ne 7, 3) := by decide +kernel
theorem dX3_mainShare_53 : decode cX3_mainShare 53 = .ok (.dconst 0, 1) := by decide +kernel
theorem dX3_mainShare_54 : decode cX3_mainShare 54 = .ok (.goto 8, 3) := by decide +kernel
theorem dX3_mainShare_57 : decode cX3_mainShare 57 = .ok (.iload_n 1, 1) := by decide +kernel
theorem dX3_mainShare_58 : decode cX3_mainShare 58 = .ok (.i2d, 1) := by decide +kernel
theorem dX3_mainShare_59 : decode cX3_mainShare 59 = .ok (.iload_n 2, 1) := by decide +kernel
theorem dX3_mainShare_60 : decode cX3_mainShare 60 = .ok (.i2d, 1) := by decide +kernel
theorem dX3_mainShare_61 : decode cX3_mainShare 61 = .ok (.ddiv, 1) := by decide +kernel
theorem dX3_mainShare_62 : decode cX3_mainShare 62 = .ok (.dreturn, 1) := by decide +kernel
set_option maxRecDepth 20000 in
theorem ggX3_digest_X3_countNumber : GoodIn wsX3_digest wsX3_countNumber := goodIn_r _ [9, 3, 10, 11, 12, 13, 14, 15, 16, 17, 18, 19, 20, 21, 22, 23, 24, 25, 8, 26, 27, 28, 29, 30, 31, 32, 33, 34, 35, 36, 37, 38, 39, 40, 41, 42, 43, 44, 45, 46, 47, 48, 49, 50, 51, 52, 53, 54, 55, 56, 57, 58, 59, 60, 61, 62, 63, 64, 65, 66, 67, 68, 69, 70, 71, 72, 73, 74, 170, 171, 172, 173, 174, 175, 178, 179, 180, 181, 182, 183, 184] (by decide +kernel) (by decide +kernel)
set_option maxRecDepth 20000 in
theorem gX3_digest_X3_countNumber : GoodIn wsX3_digest (wsV RX3 182 RX3 yX3_countNumber wsX3_countNumber) := goodIn_app (goodIn_of _ (by decide +kernel)) ggX3_digest_X3_countNumber
set_option maxRecDepth 20000 in
theorem ggX3_digest_X3_hashed : GoodIn wsX3_digest wsX3_hashed := goodIn_r _ [77, 78] (by decide +kernel) (by decide +kernel)
set_option maxRecDepth 20000 in
theorem gX3_digest_X3_hashed : GoodIn wsX3_digest (va_wsS RX3 206 yX3_hashed wsX3_hashed) := goodIn_app (goodIn_of _ (by decide +kernel)) ggX3_digest_X3_hashed
set_option maxRecDepth 20000 in
theorem ggX3_digest_X3_hashedWheels : GoodIn wsX3_digest wsX3_hashedWheels := goodIn_r _ [82, 83, 84, 85, 8, 86, 3, 39, 12, 40, 41, 42, 87, 88, 89, 62, 43, 44, 16, 17, 18, 19, 20, 21, 22, 90, 91, 92, 93, 94, 95, 96, 97, 75, 76, 77, 78, 170, 171, 172, 173, 174, 175, 178, 179, 180, 181] (by decide +kernel) (by decide +kernel)
set_option maxRecDepth 20000 in
theorem gX3_digest_X3_hashedWheels : GoodIn wsX3_digest (wsV RX3 210 RX3 yX3_hashedWheels wsX3_hashedWheels) := goodIn_app (goodIn_of _ (by decide +kernel)) ggX3_digest_X3_hashedWheels
set_option maxRecDepth 20000 in
theorem ggX3_digest_X3_hashedPoints : GoodIn wsX3_digest wsX3_hashedPoints := goodIn_r _ [101, 102, 103, 104, 8, 105, 3, 106, 31, 12, 32, 33, 34, 35, 36, 37, 15, 38, 39, 40, 41, 42, 43, 44, 16, 17, 18, 19, 20, 21, 22, 107, 108, 109, 110, 75, 76, 77, 78, 111, 112, 113, 114, 59, 60, 61, 62, 63, 68, 69, 70, 170, 171, 172, 173, 174, 175, 178, 179, 180, 181] (by decide +kernel) (by decide +kernel)
set_option maxRecDepth 20000 in
theorem gX3_digest_X3_hashedPoints : GoodIn wsX3_digest (wsV RX3 214 RX3 yX3_hashedPoints wsX3_hashedPoints) := goodIn_app (goodIn_of _ (by decide +kernel)) ggX3_digest_X3_hashedPoints
set_option maxRecDepth 20000 in
theorem ggX3_digest_X3_findLost : GoodIn wsX3_digest wsX3_findLost := goodIn_r _ [118, 3, 59, 12, 60, 61, 62, 63, 31, 32, 33, 34, 35, 36, 37, 15, 38, 39, 40, 41, 42, 43, 8, 44, 16, 17, 18, 19, 20, 21, 22, 119, 120, 121, 122, 97, 170, 171, 172, 173, 174, 175, 178, 179, 180, 181] (by decide +kernel) (by decide +kernel)
set_option maxRecDepth 20000 in
theorem gX3_digest_X3_findLost : GoodIn wsX3_digest (wsV RX3 217 RX3 yX3_findLost wsX3_findLost) := goodIn_app (goodIn_of _ (by decide +kernel)) ggX3_digest_X3_findLost
set_option maxRecDepth 20000 in
theorem ggX3_digest_X3_hashedFewest : GoodIn wsX3_digest wsX3_hashedFewest := goodIn_r _ [126, 127, 128, 129, 8, 130, 106, 3, 131, 12, 132, 133, 34, 35, 36, 37, 15, 38, 39, 40, 41, 42, 134, 135, 136, 137, 138, 139, 140, 141, 142, 143, 144, 145, 75, 76, 77, 78, 170, 171, 172, 173, 174, 175, 178, 179, 180, 181] (by decide +kernel) (by decide +kernel)
set_option maxRecDepth 20000 in
theorem gX3_digest_X3_hashedFewest : GoodIn wsX3_digest (wsV RX3 220 RX3 yX3_hashedFewest wsX3_hashedFewest) := goodIn_app (goodIn_of _ (by decide +kernel)) ggX3_digest_X3_hashedFewest
set_option maxRecDepth 20000 in
theorem ggX3_digest_X0_traceAt : GoodIn wsX3_digest wsX0_traceAt := goodIn_r _ [33, 34, 35, 36, 12, 37, 15, 38, 39, 40, 41, 42, 43, 8, 44, 16, 17, 18, 19, 20, 21, 22, 178, 179, 180, 181] (by decide +kernel) (by decide +kernel)
set_option maxRecDepth 20000 in
theorem gX3_digest_X0_traceAt_n96 : GoodIn wsX3_digest (wsX0_traceAt) := ggX3_digest_X0_traceAt
set_option maxRecDepth 20000 in
theorem ggX3_digest_X3_bestTurn : GoodIn wsX3_digest wsX3_bestTurn := goodIn_r _ [149, 150, 151, 152, 8, 153, 3, 56, 57, 29, 58, 31, 12, 32, 33, 34, 35, 36, 37, 15, 38, 39, 40, 41, 42, 43, 44, 16, 17, 18, 19, 20, 21, 22, 170, 171, 172, 173, 174, 175, 178, 179, 180, 181] (by decide +kernel) (by decide +kernel)
set_option maxRecDepth 20000 in
theorem gX3_digest_X3_bestTurn : GoodIn wsX3_digest (wsV RX3 225 RX3 yX3_bestTurn wsX3_bestTurn) := goodIn_app (goodIn_of _ (by decide +kernel)) ggX3_digest_X3_bestTurn
set_option maxRecDepth 20000 in
theorem ggX3_digest_X3_mainShare : GoodIn wsX3_digest wsX3_mainShare := goodIn_r _ [157, 3, 27, 28, 29, 30, 35, 12, 36, 37, 15, 38, 39, 40, 41, 42, 170, 171, 172, 173, 174, 175, 178, 179, 180, 181] (by decide +kernel) (by decide +kernel)
set_option maxRecDepth 20000 in
theorem gX3_digest_X3_mainShare : GoodIn wsX3_digest (wsV RX3 228 RX3 yX3_mainShare wsX3_mainShare) := goodIn_app (goodIn_of _ (by decide +kernel)) ggX3_digest_X3_mainShare
set_option maxRecDepth 20000 in
theorem ggX3_digest_X3_bitsOfShare : GoodIn wsX3_digest wsX3_bitsOfShare := goodIn_r _ [160, 161, 162, 163, 164] (by decide +kernel) (by decide +kernel)
set_option maxRecDepth 20000 in
theorem gX3_digest_X3_bitsOfShare : GoodIn wsX3_digest (va_wsS RX3 232 yX3_bitsOfShare wsX3_bitsOfShare) := goodIn_app (goodIn_of _ (by decide +kernel)) ggX3_digest_X3_bitsOfShare
set_option maxRecDepth 20000 in
theorem ggX3_digest_X3_hasSnapshot : GoodIn wsX3_digest wsX3_hasSnapshot := goodIn_r _ [168, 169, 170, 171, 172, 173, 174, 175] (by decide +kernel) (by decide +kernel)
set_option maxRecDepth 20000 in
theorem gX3_digest_X3_hasSnapshot : GoodIn wsX3_digest (wsV RX3 152 RX3 yX3_hasSnapshot wsX3_hasSnapshot) := goodIn_app (goodIn_of _ (by decide +kernel)) ggX3_digest_X3_hasSnapshot
theorem dX3_digest_0 : decode cX3_digest 0 = .ok (.ldc2_w 204, 3) := by decide +kernel
theorem dX3_digest_3 : decode cX3_digest 3 = .ok (.lstore_n 1, 1) := by decide +kernel
theorem dX3_digest_4 : decode cX3_digest 4 = .ok (.iconst 0, 1) := by decide +kernel
theorem dX3_digest_5 : decode cX3_digest 5 = .ok (.istore_n 3, 1) := by decide +kernel
theorem dX3_digest_6 : decode cX3_digest 6 = .ok (.iload_n 3, 1) := by decide +kernel
theorem dX3_digest_7 : decode cX3_digest 7 = .ok (.bipush 8, 2) := by decide +kernel
theorem dX3_digest_9 : decode cX3_digest 9 = .ok (.if_icmp .gt 20, 3) := by decide +kernel
theorem dX3_digest_12 : decode cX3_digest 12 = .ok (.lload_n 1, 1) := by decide +kernel
theorem dX3_digest_13 : decode cX3_digest 13 = .ok (.aload_n 0, 1) := by decide +kernel
theorem dX3_digest_14 : decode cX3_digest 14 = .ok (.iload_n 3, 1) := by decide +kernel
theorem dX3_digest_15 : decode cX3_digest 15 = .ok (.invokevirtual 182, 3) := by decide +kernel
theorem dX3_digest_18 : decode cX3_digest 18 = .ok (.i2l, 1) := by decide +kernel
theorem dX3_digest_19 : decode cX3_digest 19 = .ok (.invokestatic 206, 3) := by decide +kernel
theorem dX3_digest_22 : decode cX3_digest 22 = .ok (.lstore_n 1, 1) := by decide +kernel
theorem dX3_digest_23 : decode cX3_digest 23 = .ok (.iinc 3 1, 3) := by decide +kernel
theorem dX3_digest_26 : decode cX3_digest 26 = .ok (.goto (-20), 3) := by decide +kernel
theorem dX3_digest_29 : decode cX3_digest 29 = .ok (.aload_n 0, 1) := by decide +kernel
theorem dX3_digest_30 : decode cX3_digest 30 = .ok (.lload_n 1, 1) := by decide +kernel
theorem dX3_digest_31 : decode cX3_digest 31 = .ok (.invokevirtual 210, 3) := by decide +kernel
theorem dX3_digest_34 : decode cX3_digest 34 = .ok (.lstore_n 1, 1) := by decide +kernel
theorem dX3_digest_35 : decode cX3_digest 35 = .ok (.aload_n 0, 1) := by decide +kernel
theorem dX3_digest_36 : decode cX3_digest 36 = .ok (.lload_n 1, 1) := by decide +kernel
theorem dX3_digest_37 : decode cX3_digest 37 = .ok (.invokevirtual 214, 3) := by decide +kernel
theorem dX3_digest_40 : decode cX3_digest 40 = .ok (.lstore_n 1, 1) := by decide +kernel
theorem dX3_digest_41 : decode cX3_digest 41 = .ok (.lload_n 1, 1) := by decide +kernel
theorem dX3_digest_42 : decode cX3_digest 42 = .ok (.aload_n 0, 1) := by decide +kernel
theorem dX3_digest_43 : decode cX3_digest 43 = .ok (.invokevirtual 217, 3) := by decide +kernel
theorem dX3_digest_46 : decode cX3_digest 46 = .ok (.i2l, 1) := by decide +kernel
theorem dX3_digest_47 : decode cX3_digest 47 = .ok (.invokestatic 206, 3) := by decide +kernel
theorem dX3_digest_50 : decode cX3_digest 50 = .ok (.lstore_n 1, 1) := by decide +kernel
theorem dX3_digest_51 : decode cX3_digest 51 = .ok (.aload_n 0, 1) := by decide +kernel
theorem dX3_digest_52 : decode cX3_digest 52 = .ok (.lload_n 1, 1) := by decide +kernel
theorem dX3_digest_53 : decode cX3_digest 53 = .ok (.iconst 0, 1) := by decide +kernel
theorem dX3_digest_54 : decode cX3_digest 54 = .ok (.invokevirtual 220, 3) := by decide +kernel
theorem dX3_digest_57 : decode cX3_digest 57 = .ok (.lstore_n 1, 1) := by decide +kernel
theorem dX3_digest_58 : decode cX3_digest 58 = .ok (.aload_n 0, 1) := by decide +kernel
theorem dX3_digest_59 : decode cX3_digest 59 = .ok (.lload_n 1, 1) := by decide +kernel
theorem dX3_digest_60 : decode cX3_digest 60 = .ok (.sipush 1000, 3) := by decide +kernel
theorem dX3_digest_63 : decode cX3_digest 63 = .ok (.invokevirtual 220, 3) := by decide +kernel
theorem dX3_digest_66 : decode cX3_digest 66 = .ok (.lstore_n 1, 1) := by decide +kernel
theorem dX3_digest_67 : decode cX3_digest 67 = .ok (.aload_n 0, 1) := by decide +kernel
theorem dX3_digest_68 : decode cX3_digest 68 = .ok (.lload_n 1, 1) := by decide +kernel
theorem dX3_digest_69 : decode cX3_digest 69 = .ok (.ldc 224, 2) := by decide +kernel
theorem dX3_digest_71 : decode cX3_digest 71 = .ok (.invokevirtual 220, 3) := by decide +kernel
theorem dX3_digest_74 : decode cX3_digest 74 = .ok (.lstore_n 1, 1) := by decide +kernel
theorem dX3_digest_75 : decode cX3_digest 75 = .ok (.iconst 0, 1) := by decide +kernel
theorem dX3_digest_76 : decode cX3_digest 76 = .ok (.istore_n 3, 1) := by decide +kernel
theorem dX3_digest_77 : decode cX3_digest 77 = .ok (.iload_n 3, 1) := by decide +kernel
theorem dX3_digest_78 : decode cX3_digest 78 = .ok (.bipush 8, 2) := by decide +kernel
theorem dX3_digest_80 : decode cX3_digest 80 = .ok (.if_icmp .ge 25, 3) := by decide +kernel
theorem dX3_digest_83 : decode cX3_digest 83 = .ok (.lload_n 1, 1) := by decide +kernel
theorem dX3_digest_84 : decode cX3_digest 84 = .ok (.aload_n 0, 1) := by decide +kernel
theorem dX3_digest_85 : decode cX3_digest 85 = .ok (.getfield 12, 3) := by decide +kernel
theorem dX3_digest_88 : decode cX3_digest 88 = .ok (.iload_n 3, 1) := by decide +kernel
theorem dX3_digest_89 : decode cX3_digest 89 = .ok (.iconst 5, 1) := by decide +kernel
theorem dX3_digest_90 : decode cX3_digest 90 = .ok (.ixor, 1) := by decide +kernel
theorem dX3_digest_91 : decode cX3_digest 91 = .ok (.invokevirtual 96, 3) := by decide +kernel
theorem dX3_digest_94 : decode cX3_digest 94 = .ok (.i2l, 1) := by decide +kernel
theorem dX3_digest_95 : decode cX3_digest 95 = .ok (.invokestatic 206, 3) := by decide +kernel
theorem dX3_digest_98 : decode cX3_digest 98 = .ok (.lstore_n 1, 1) := by decide +kernel
theorem dX3_digest_99 : decode cX3_digest 99 = .ok (.iinc 3 1, 3) := by decide +kernel
theorem dX3_digest_102 : decode cX3_digest 102 = .ok (.goto (-25), 3) := by decide +kernel
theorem dX3_digest_105 : decode cX3_digest 105 = .ok (.lload_n 1, 1) := by decide +kernel
theorem dX3_digest_106 : decode cX3_digest 106 = .ok (.aload_n 0, 1) := by decide +kernel
theorem dX3_digest_107 : decode cX3_digest 107 = .ok (.invokevirtual 225, 3) := by decide +kernel
theorem dX3_digest_110 : decode cX3_digest 110 = .ok (.i2l, 1) := by decide +kernel
theorem dX3_digest_111 : decode cX3_digest 111 = .ok (.invokestatic 206, 3) := by decide +kernel
theorem dX3_digest_114 : decode cX3_digest 114 = .ok (.lstore_n 1, 1) := by decide +kernel
theorem dX3_digest_115 : decode cX3_digest 115 = .ok (.lload_n 1, 1) := by decide +kernel
theorem dX3_digest_116 : decode cX3_digest 116 = .ok (.aload_n 0, 1) := by decide +kernel
theorem dX3_digest_117 : decode cX3_digest 117 = .ok (.invokevirtual 228, 3) := by decide +kernel
theorem dX3_digest_120 : decode cX3_digest 120 = .ok (.invokestatic 232, 3) := by decide +kernel
theorem dX3_digest_123 : decode cX3_digest 123 = .ok (.invokestatic 206, 3) := by decide +kernel
theorem dX3_digest_126 : decode cX3_digest 126 = .ok (.lstore_n 1, 1) := by decide +kernel
theorem dX3_digest_127 : decode cX3_digest 127 = .ok (.iconst 0, 1) := by decide +kernel
theorem dX3_digest_128 : decode cX3_digest 128 = .ok (.istore_n 3, 1) := by decide +kernel
theorem dX3_digest_129 : decode cX3_digest 129 = .ok (.iload_n 3, 1) := by decide +kernel
theorem dX3_digest_130 : decode cX3_digest 130 = .ok (.iconst 2, 1) := by decide +kernel
theorem dX3_digest_131 : decode cX3_digest 131 = .ok (.if_icmp .ge 27, 3) := by decide +kernel
theorem dX3_digest_134 : decode cX3_digest 134 = .ok (.lload_n 1, 1) := by decide +kernel
theorem dX3_digest_135 : decode cX3_digest 135 = .ok (.aload_n 0, 1) := by decide +kernel
theorem dX3_digest_136 : decode cX3_digest 136 = .ok (.iload_n 3, 1) := by decide +kernel
theorem dX3_digest_137 : decode cX3_digest 137 = .ok (.invokevirtual 152, 3) := by decide +kernel
theorem dX3_digest_140 : decode cX3_digest 140 = .ok (.ifCond .eq 7, 3) := by decide +kernel
theorem dX3_digest_143 : decode cX3_digest 143 = .ok (.lconst 1, 1) := by decide +kernel
theorem dX3_digest_144 : decode cX3_digest 144 = .ok (.goto 4, 3) := by decide +kernel
theorem dX3_digest_147 : decode cX3_digest 147 = .ok (.lconst 0, 1) := by decide +kernel
theorem dX3_digest_148 : decode cX3_digest 148 = .ok (.invokestatic 206, 3) := by decide +kernel
theorem dX3_digest_151 : decode cX3_digest 151 = .ok (.lstore_n 1, 1) := by decide +kernel
theorem dX3_digest_152 : decode cX3_digest 152 = .ok (.iinc 3 1, 3) := by decide +kernel
theorem dX3_digest_155 : decode cX3_digest 155 = .ok (.goto (-26), 3) := by decide +kernel
theorem dX3_digest_158 : decode cX3_digest 158 = .ok (.lload_n 1, 1) := by decide +kernel
theorem dX3_digest_159 : decode cX3_digest 159 = .ok (.aload_n 0, 1) := by decide +kernel
theorem dX3_digest_160 : decode cX3_digest 160 = .ok (.getfield 34, 3) := by decide +kernel
theorem dX3_digest_163 : decode cX3_digest 163 = .ok (.getfield 126, 3) := by decide +kernel
theorem dX3_digest_166 : decode cX3_digest 166 = .ok (.i2l, 1) := by decide +kernel
theorem dX3_digest_167 : decode cX3_digest 167 = .ok (.invokestatic 206, 3) := by decide +kernel
theorem dX3_digest_170 : decode cX3_digest 170 = .ok (.lstore_n 1, 1) := by decide +kernel
theorem dX3_digest_171 : decode cX3_digest 171 = .ok (.iconst 0, 1) := by decide +kernel
theorem dX3_digest_172 : decode cX3_digest 172 = .ok (.istore_n 3, 1) := by decide +kernel
theorem dX3_digest_173 : decode cX3_digest 173 = .ok (.iload_n 3, 1) := by decide +kernel
theorem dX3_digest_174 : decode cX3_digest 174 = .ok (.aload_n 0, 1) := by decide +kernel
theorem dX3_digest_175 : decode cX3_digest 175 = .ok (.getfield 34, 3) := by decide +kernel
theorem dX3_digest_178 : decode cX3_digest 178 = .ok (.getfield 126, 3) := by decide +kernel
theorem dX3_digest_181 : decode cX3_digest 181 = .ok (.if_icmp .ge 24, 3) := by decide +kernel
theorem dX3_digest_184 : decode cX3_digest 184 = .ok (.lload_n 1, 1) := by decide +kernel
theorem dX3_digest_185 : decode cX3_digest 185 = .ok (.aload_n 0, 1) := by decide +kernel
theorem dX3_digest_186 : decode cX3_digest 186 = .ok (.getfield 34, 3) := by decide +kernel
theorem dX3_digest_189 : decode cX3_digest 189 = .ok (.getfield 236, 3) := by decide +kernel
theorem dX3_digest_192 : decode cX3_digest 192 = .ok (.iload_n 3, 1) := by decide +kernel
theorem dX3_digest_193 : decode cX3_digest 193 = .ok (.caload, 1) := by decide +kernel
theorem dX3_digest_194 : decode cX3_digest 194 = .ok (.i2l, 1) := by decide +kernel
theorem dX3_digest_195 : decode cX3_digest 195 = .ok (.invokestatic 206, 3) := by decide +kernel
theorem dX3_digest_198 : decode cX3_digest 198 = .ok (.lstore_n 1, 1) := by decide +kernel
theorem dX3_digest_199 : decode cX3_digest 199 = .ok (.iinc 3 1, 3) := by decide +kernel
theorem dX3_digest_202 : decode cX3_digest 202 = .ok (.goto (-29), 3) := by decide +kernel
theorem dX3_digest_205 : decode cX3_digest 205 = .ok (.lload_n 1, 1) := by decide +kernel
theorem dX3_digest_206 : decode cX3_digest 206 = .ok (.lreturn, 1) := by decide +kernel
theorem dX3_isOutside_0 : decode cX3_isOutside 0 = .ok (.iload_n 0, 1) := by decide +kernel
theorem dX3_isOutside_1 : decode cX3_isOutside 1 = .ok (.iload_n 1, 1) := by decide +kernel
theorem dX3_isOutside_2 : decode cX3_isOutside 2 = .ok (.if_icmp .lt 8, 3) := by decide +kernel
theorem dX3_isOutside_5 : decode cX3_isOutside 5 = .ok (.iload_n 0, 1) := by decide +kernel
theorem dX3_isOutside_6 : decode cX3_isOutside 6 = .ok (.iload_n 2, 1) := by decide +kernel
theorem dX3_isOutside_7 : decode cX3_isOutside 7 = .ok (.if_icmp .le 7, 3) := by decide +kernel
theorem dX3_isOutside_10 : decode cX3_isOutside 10 = .ok (.iconst 1, 1) := by decide +kernel
theorem dX3_isOutside_11 : decode cX3_isOutside 11 = .ok (.goto 4, 3) := by decide +kernel
theorem dX3_isOutside_14 : decode cX3_isOutside 14 = .ok (.iconst 0, 1) := by decide +kernel
theorem dX3_isOutside_15 : decode cX3_isOutside 15 = .ok (.ireturn, 1) := by decide +kernel
set_option maxRecDepth 20000 in
theorem ggX3_isNoPlace_X3_isOutside : GoodIn wsX3_isNoPlace wsX3_isOutside := goodIn_r _ [4] (by decide +kernel) (by decide +kernel)
set_option maxRecDepth 20000 in
theorem gX3_isNoPlace_X3_isOutside : GoodIn wsX3_isNoPlace (va_wsS RX3 53 yX3_isOutside wsX3_isOutside) := goodIn_app (goodIn_of _ (by decide +kernel)) ggX3_isNoPlace_X3_isOutside
theorem dX3_isNoPlace_0 : decode cX3_isNoPlace 0 = .ok (.iload_n 0, 1) := by decide +kernel
theorem dX3_isNoPlace_1 : decode cX3_isNoPlace 1 = .ok (.iconst 0, 1) := by decide +kernel
theorem dX3_isNoPlace_2 : decode cX3_isNoPlace 2 = .ok (.bipush 7, 2) := by decide +kernel
theorem dX3_isNoPlace_4 : decode cX3_isNoPlace 4 = .ok (.invokestatic 53, 3) := by decide +kernel
theorem dX3_isNoPlace_7 : decode cX3_isNoPlace 7 = .ok (.ireturn, 1) := by decide +kernel
set_option maxRecDepth 20000 in
theorem ggX3_wave_J6_bitCount_0f7a4 : GoodIn wsX3_wave wsJ6_bitCount_0f7a4 := goodIn_r _ [4, 5, 6, 7] (by decide +kernel) (by decide +kernel)
set_option maxRecDepth 20000 in
theorem gX3_wave_J6_bitCount_0f7a4 : GoodIn wsX3_wave (va_wsS RX3 240 yJ6_bitCount_0f7a4 wsJ6_bitCount_0f7a4) := goodIn_app (goodIn_of _ (by decide +kernel)) ggX3_wave_J6_bitCount_0f7a4
theorem dX3_wave_0 : decode cX3_wave 0 = .ok (.iload_n 0, 1) := by decide +kernel
theorem dX3_wave_1 : decode cX3_wave 1 = .ok (.iload_n 1, 1) := by decide +kernel
theorem dX3_wave_2 : decode cX3_wave 2 = .ok (.iand, 1) := by decide +kernel
theorem dX3_wave_3 : decode cX3_wave 3 = .ok (.invokestatic 240, 3) := by decide +kernel
theorem dX3_wave_6 : decode cX3_wave 6 = .ok (.iconst 1, 1) := by decide +kernel
theorem dX3_wave_7 : decode cX3_wave 7 = .ok (.iand, 1) := by decide +kernel
theorem dX3_wave_8 : decode cX3_wave 8 = .ok (.ifCond .ne 7, 3) := by decide +kernel
theorem dX3_wave_11 : decode cX3_wave 11 = .ok (.iconst 1, 1) := by decide +kernel
theorem dX3_wave_12 : decode cX3_wave 12 = .ok (.goto 4, 3) := by decide +kernel
theorem dX3_wave_15 : decode cX3_wave 15 = .ok (.iconst (-1), 1) := by decide +kernel
theorem dX3_wave_16 : decode cX3_wave 16 = .ok (.ireturn, 1) := by decide +kernel
theorem dX3_hasSnapshot_0 : decode cX3_hasSnapshot 0 = .ok (.aload_n 0, 1) := by decide +kernel
theorem dX3_hasSnapshot_1 : decode cX3_hasSnapshot 1 = .ok (.getfield 20, 3) := by decide +kernel
theorem dX3_hasSnapshot_4 : decode cX3_hasSnapshot 4 = .ok (.iload_n 1, 1) := by decide +kernel
theorem dX3_hasSnapshot_5 : decode cX3_hasSnapshot 5 = .ok (.ishr, 1) := by decide +kernel
theorem dX3_hasSnapshot_6 : decode cX3_hasSnapshot 6 = .ok (.iconst 1, 1) := by decide +kernel
theorem dX3_hasSnapshot_7 : decode cX3_hasSnapshot 7 = .ok (.iand, 1) := by decide +kernel
theorem dX3_hasSnapshot_8 : decode cX3_hasSnapshot 8 = .ok (.iconst 1, 1) := by decide +kernel
theorem dX3_hasSnapshot_9 : decode cX3_hasSnapshot 9 = .ok (.if_icmp .ne 7, 3) := by decide +kernel
theorem dX3_hasSnapshot_12 : decode cX3_hasSnapshot 12 = .ok (.iconst 1, 1) := by decide +kernel
theorem dX3_hasSnapshot_13 : decode cX3_hasSnapshot 13 = .ok (.goto 4, 3) := by decide +kernel
theorem dX3_hasSnapshot_16 : decode cX3_hasSnapshot 16 = .ok (.iconst 0, 1) := by decide +kernel
theorem dX3_hasSnapshot_17 : decode cX3_hasSnapshot 17 = .ok (.ireturn, 1) := by decide +kernel
set_option maxRecDepth 20000 in
theorem ggX3_wheelNumber_X0_isLost : GoodIn wsX3_wheelNumber wsX0_isLost := goodIn_r _ [5, 6, 35, 36, 37, 38] (by decide +kernel) (by decide +kernel)
set_option maxRecDepth 20000 in
theorem gX3_wheelNumber_X0_isLost_n72 : GoodIn wsX3_wheelNumber (wsX0_isLost) := ggX3_wheelNumber_X0_isLost
set_option maxRecDepth 20000 in
theorem ggX3_wheelNumber_X0_patternAmplitude : GoodIn wsX3_wheelNumber wsX0_patternAmplitude := goodIn_r _ [9, 10, 11, 12, 13, 14, 15, 16, 17, 18, 19, 20, 21, 22, 23, 24, 35, 36, 37, 38] (by decide +kernel) (by decide +kernel)
set_option maxRecDepth 20000 in
theorem gX3_wheelNumber_X0_patternAmplitude_n99 : GoodIn wsX3_wheelNumber (wsX0_patternAmplitude) := ggX3_wheelNumber_X0_patternAmplitude
set_option maxRecDepth 20000 in
theorem ggX3_wheelNumber_X3_changesOfWave : GoodIn wsX3_wheelNumber wsX3_changesOfWave := goodIn_r _ [27, 28, 11, 12, 13, 14, 15, 16, 17, 18, 19, 20] (by decide +kernel) (by decide +kernel)
set_option maxRecDepth 20000 in
theorem gX3_wheelNumber_X3_changesOfWave : GoodIn wsX3_wheelNumber (va_wsS RX3 245 yX3_changesOfWave wsX3_changesOfWave) := goodIn_app (goodIn_of _ (by decide +kernel)) ggX3_wheelNumber_X3_changesOfWave
theorem dX3_wheelNumber_0 : decode cX3_wheelNumber 0 = .ok (.iload_n 2, 1) := by decide +kernel
theorem dX3_wheelNumber_1 : decode cX3_wheelNumber 1 = .ok (.tableswitch 63 0 2 #[27, 37, 54], 27) := by decide +kernel
theorem dX3_wheelNumber_28 : decode cX3_wheelNumber 28 = .ok (.aload_n 0, 1) := by decide +kernel
theorem dX3_wheelNumber_29 : decode cX3_wheelNumber 29 = .ok (.getfield 12, 3) := by decide +kernel
theorem dX3_wheelNumber_32 : decode cX3_wheelNumber 32 = .ok (.getfield 66, 3) := by decide +kernel
theorem dX3_wheelNumber_35 : decode cX3_wheelNumber 35 = .ok (.iload_n 1, 1) := by decide +kernel
theorem dX3_wheelNumber_36 : decode cX3_wheelNumber 36 = .ok (.iaload, 1) := by decide +kernel
theorem dX3_wheelNumber_37 : decode cX3_wheelNumber 37 = .ok (.ireturn, 1) := by decide +kernel
theorem dX3_wheelNumber_38 : decode cX3_wheelNumber 38 = .ok (.aload_n 0, 1) := by decide +kernel
theorem dX3_wheelNumber_39 : decode cX3_wheelNumber 39 = .ok (.getfield 12, 3) := by decide +kernel
theorem dX3_wheelNumber_42 : decode cX3_wheelNumber 42 = .ok (.iload_n 1, 1) := by decide +kernel
theorem dX3_wheelNumber_43 : decode cX3_wheelNumber 43 = .ok (.invokevirtual 72, 3) := by decide +kernel
theorem dX3_wheelNumber_46 : decode cX3_wheelNumber 46 = .ok (.ifCond .eq 7, 3) := by decide +kernel
theorem dX3_wheelNumber_49 : decode cX3_wheelNumber 49 = .ok (.iconst 1, 1) := by decide +kernel
theorem dX3_wheelNumber_50 : decode cX3_wheelNumber 50 = .ok (.goto 4, 3) := by decide +kernel
theorem dX3_wheelNumber_53 : decode cX3_wheelNumber 53 = .ok (.iconst 0, 1) := by decide +kernel
theorem dX3_wheelNumber_54 : decode cX3_wheelNumber 54 = .ok (.ireturn, 1) := by decide +kernel
theorem dX3_wheelNumber_55 : decode cX3_wheelNumber 55 = .ok (.aload_n 0, 1) := by decide +kernel
theorem dX3_wheelNumber_56 : decode cX3_wheelNumber 56 = .ok (.getfield 12, 3) := by decide +kernel
theorem dX3_wheelNumber_59 : decode cX3_wheelNumber 59 = .ok (.iload_n 1, 1) := by decide +kernel
theorem dX3_wheelNumber_60 : decode cX3_wheelNumber 60 = .ok (.invokevirtual 99, 3) := by decide +kernel
theorem dX3_wheelNumber_63 : decode cX3_wheelNumber 63 = .ok (.ireturn, 1) := by decide +kernel
theorem dX3_wheelNumber_64 : decode cX3_wheelNumber 64 = .ok (.iload_n 1, 1) := by decide +kernel
theorem dX3_wheelNumber_65 : decode cX3_wheelNumber 65 = .ok (.invokestatic 245, 3) := by decide +kernel
theorem dX3_wheelNumber_68 : decode cX3_wheelNumber 68 = .ok (.ireturn, 1) := by decide +kernel
set_option maxRecDepth 20000 in
theorem ggX3_changesOfWave_X3_wave : GoodIn wsX3_changesOfWave wsX3_wave := goodIn_r _ [4, 5, 6, 7, 8, 9, 10, 11] (by decide +kernel) (by decide +kernel)
set_option maxRecDepth 20000 in
theorem gX3_changesOfWave_X3_wave : GoodIn wsX3_changesOfWave (va_wsS RX3 77 yX3_wave wsX3_wave) := goodIn_app (goodIn_of _ (by decide +kernel)) ggX3_changesOfWave_X3_wave
theorem dX3_changesOfWave_0 : decode cX3_changesOfWave 0 = .ok (.iconst 0, 1) := by decide +kernel
theorem dX3_changesOfWave_1 : decode cX3_changesOfWave 1 = .ok (.istore_n 1, 1) := by decide +kernel
theorem dX3_changesOfWave_2 : decode cX3_changesOfWave 2 = .ok (.iconst 0, 1) := by decide +kernel
theorem dX3_changesOfWave_3 : decode cX3_changesOfWave 3 = .ok (.istore_n 2, 1) := by decide +kernel
theorem dX3_changesOfWave_4 : decode cX3_changesOfWave 4 = .ok (.iload_n 2, 1) := by decide +kernel
theorem dX3_changesOfWave_5 : decode cX3_changesOfWave 5 = .ok (.bipush 7, 2) := by decide +kernel
theorem dX3_changesOfWave_7 : decode cX3_changesOfWave 7 = .ok (.if_icmp .ge 27, 3) := by decide +kernel
theorem dX3_changesOfWave_10 : decode cX3_changesOfWave 10 = .ok (.iload_n 0, 1) := by decide +kernel
theorem dX3_changesOfWave_11 : decode cX3_changesOfWave 11 = .ok (.iload_n 2, 1) := by decide +kernel
theorem dX3_changesOfWave_12 : decode cX3_changesOfWave 12 = .ok (.invokestatic 77, 3) := by decide +kernel
theorem dX3_changesOfWave_15 : decode cX3_changesOfWave 15 = .ok (.iload_n 0, 1) := by decide +kernel
theorem dX3_changesOfWave_16 : decode cX3_changesOfWave 16 = .ok (.iload_n 2, 1) := by decide +kernel
theorem dX3_changesOfWave_17 : decode cX3_changesOfWave 17 = .ok (.iconst 1, 1) := by decide +kernel
theorem dX3_changesOfWave_18 : decode cX3_changesOfWave 18 = .ok (.iadd, 1) := by decide +kernel
theorem dX3_changesOfWave_19 : decode cX3_changesOfWave 19 = .ok (.invokestatic 77, 3) := by decide +kernel
theorem dX3_changesOfWave_22 : decode cX3_changesOfWave 22 = .ok (.if_icmp .eq 6, 3) := by decide +kernel
theorem dX3_changesOfWave_25 : decode cX3_changesOfWave 25 = .ok (.iinc 1 1, 3) := by decide +kernel
theorem dX3_changesOfWave_28 : decode cX3_changesOfWave 28 = .ok (.iinc 2 1, 3) := by decide +kernel
theorem dX3_changesOfWave_31 : decode cX3_changesOfWave 31 = .ok (.goto (-27), 3) := by decide +kernel
theorem dX3_changesOfWave_34 : decode cX3_changesOfWave 34 = .ok (.iload_n 1, 1) := by decide +kernel
theorem dX3_changesOfWave_35 : decode cX3_changesOfWave 35 = .ok (.ireturn, 1) := by decide +kernel
set_option maxRecDepth 20000 in
theorem ggX3_traceNumber_X0_traceAt : GoodIn wsX3_traceNumber wsX0_traceAt := goodIn_r _ [6, 7, 8, 9, 4, 10, 11, 12, 13, 14, 15, 16, 17, 18, 19, 20, 21, 22, 23, 24, 25, 26, 37, 38, 39, 40] (by decide +kernel) (by decide +kernel)
set_option maxRecDepth 20000 in
theorem gX3_traceNumber_X0_traceAt_n96 : GoodIn wsX3_traceNumber (wsX0_traceAt) := ggX3_traceNumber_X0_traceAt
set_option maxRecDepth 20000 in
theorem ggX3_traceNumber_X0_drawnAmplitude : GoodIn wsX3_traceNumber wsX0_drawnAmplitude := goodIn_r _ [10, 11, 12, 13, 14, 4, 15, 16, 37, 38, 39, 40] (by decide +kernel) (by decide +kernel)
set_option maxRecDepth 20000 in
theorem gX3_traceNumber_X0_drawnAmplitude_n201 : GoodIn wsX3_traceNumber (wsX0_drawnAmplitude) := ggX3_traceNumber_X0_drawnAmplitude
set_option maxRecDepth 20000 in
theorem ggX3_traceNumber_X3_addAndSubtractHalves : GoodIn wsX3_traceNumber wsX3_addAndSubtractHalves := goodIn_r _ [30, 2, 31, 32, 33, 34, 35, 36] (by decide +kernel) (by decide +kernel)
set_option maxRecDepth 20000 in
theorem gX3_traceNumber_X3_addAndSubtractHalves : GoodIn wsX3_traceNumber (wsV RX3 248 RX3 yX3_addAndSubtractHalves wsX3_addAndSubtractHalves) := goodIn_app (goodIn_of _ (by decide +kernel)) ggX3_traceNumber_X3_addAndSubtractHalves
theorem dX3_traceNumber_0 : decode cX3_traceNumber 0 = .ok (.iload_n 2, 1) := by decide +kernel
theorem dX3_traceNumber_1 : decode cX3_traceNumber 1 = .ok (.ifCond .ne 12, 3) := by decide +kernel
theorem dX3_traceNumber_4 : decode cX3_traceNumber 4 = .ok (.aload_n 0, 1) := by decide +kernel
theorem dX3_traceNumber_5 : decode cX3_traceNumber 5 = .ok (.getfield 12, 3) := by decide +kernel
theorem dX3_traceNumber_8 : decode cX3_traceNumber 8 = .ok (.iload_n 1, 1) := by decide +kernel
theorem dX3_traceNumber_9 : decode cX3_traceNumber 9 = .ok (.invokevirtual 96, 3) := by decide +kernel
theorem dX3_traceNumber_12 : decode cX3_traceNumber 12 = .ok (.ireturn, 1) := by decide +kernel
theorem dX3_traceNumber_13 : decode cX3_traceNumber 13 = .ok (.iconst 0, 1) := by decide +kernel
theorem dX3_traceNumber_14 : decode cX3_traceNumber 14 = .ok (.istore_n 3, 1) := by decide +kernel
theorem dX3_traceNumber_15 : decode cX3_traceNumber 15 = .ok (.iload_n 3, 1) := by decide +kernel
theorem dX3_traceNumber_16 : decode cX3_traceNumber 16 = .ok (.bipush 8, 2) := by decide +kernel
theorem dX3_traceNumber_18 : decode cX3_traceNumber 18 = .ok (.if_icmp .ge 23, 3) := by decide +kernel
theorem dX3_traceNumber_21 : decode cX3_traceNumber 21 = .ok (.aload_n 0, 1) := by decide +kernel
theorem dX3_traceNumber_22 : decode cX3_traceNumber 22 = .ok (.getfield 38, 3) := by decide +kernel
theorem dX3_traceNumber_25 : decode cX3_traceNumber 25 = .ok (.iload_n 3, 1) := by decide +kernel
theorem dX3_traceNumber_26 : decode cX3_traceNumber 26 = .ok (.aload_n 0, 1) := by decide +kernel
theorem dX3_traceNumber_27 : decode cX3_traceNumber 27 = .ok (.getfield 12, 3) := by decide +kernel
theorem dX3_traceNumber_30 : decode cX3_traceNumber 30 = .ok (.iload_n 3, 1) := by decide +kernel
theorem dX3_traceNumber_31 : decode cX3_traceNumber 31 = .ok (.invokevirtual 201, 3) := by decide +kernel
theorem dX3_traceNumber_34 : decode cX3_traceNumber 34 = .ok (.iastore, 1) := by decide +kernel
theorem dX3_traceNumber_35 : decode cX3_traceNumber 35 = .ok (.iinc 3 1, 3) := by decide +kernel
theorem dX3_traceNumber_38 : decode cX3_traceNumber 38 = .ok (.goto (-23), 3) := by decide +kernel
theorem dX3_traceNumber_41 : decode cX3_traceNumber 41 = .ok (.aload_n 0, 1) := by decide +kernel
theorem dX3_traceNumber_42 : decode cX3_traceNumber 42 = .ok (.invokevirtual 248, 3) := by decide +kernel
theorem dX3_traceNumber_45 : decode cX3_traceNumber 45 = .ok (.aload_n 0, 1) := by decide +kernel
theorem dX3_traceNumber_46 : decode cX3_traceNumber 46 = .ok (.getfield 38, 3) := by decide +kernel
theorem dX3_traceNumber_49 : decode cX3_traceNumber 49 = .ok (.iload_n 1, 1) := by decide +kernel
theorem dX3_traceNumber_50 : decode cX3_traceNumber 50 = .ok (.iaload, 1) := by decide +kernel
theorem dX3_traceNumber_51 : decode cX3_traceNumber 51 = .ok (.ireturn, 1) := by decide +kernel
theorem dX3_addAndSubtractHalves_0 : decode cX3_addAndSubtractHalves 0 = .ok (.iconst 4, 1) := by decide +kernel
theorem dX3_addAndSubtractHalves_1 : decode cX3_addAndSubtractHalves 1 = .ok (.istore_n 1, 1) := by decide +kernel
theorem dX3_addAndSubtractHalves_2 : decode cX3_addAndSubtractHalves 2 = .ok (.iload_n 1, 1) := by decide +kernel
theorem dX3_addAndSubtractHalves_3 : decode cX3_addAndSubtractHalves 3 = .ok (.ifCond .le 71, 3) := by decide +kernel
theorem dX3_addAndSubtractHalves_6 : decode cX3_addAndSubtractHalves 6 = .ok (.iconst 0, 1) := by decide +kernel
theorem dX3_addAndSubtractHalves_7 : decode cX3_addAndSubtractHalves 7 = .ok (.istore_n 2, 1) := by decide +kernel
theorem dX3_addAndSubtractHalves_8 : decode cX3_addAndSubtractHalves 8 = .ok (.iload_n 2, 1) := by decide +kernel
theorem dX3_addAndSubtractHalves_9 : decode cX3_addAndSubtractHalves 9 = .ok (.iload_n 1, 1) := by decide +kernel
theorem dX3_addAndSubtractHalves_10 : decode cX3_addAndSubtractHalves 10 = .ok (.iadd, 1) := by decide +kernel
theorem dX3_addAndSubtractHalves_11 : decode cX3_addAndSubtractHalves 11 = .ok (.bipush 8, 2) := by decide +kernel
theorem dX3_addAndSubtractHalves_13 : decode cX3_addAndSubtractHalves 13 = .ok (.if_icmp .ge 54, 3) := by decide +kernel
theorem dX3_addAndSubtractHalves_16 : decode cX3_addAndSubtractHalves 16 = .ok (.iload_n 2, 1) := by decide +kernel
theorem dX3_addAndSubtractHalves_17 : decode cX3_addAndSubtractHalves 17 = .ok (.iload_n 1, 1) := by decide +kernel
theorem dX3_addAndSubtractHalves_18 : decode cX3_addAndSubtractHalves 18 = .ok (.iand, 1) := by decide +kernel
theorem dX3_addAndSubtractHalves_19 : decode cX3_addAndSubtractHalves 19 = .ok (.ifCond .ne 42, 3) := by decide +kernel
theorem dX3_addAndSubtractHalves_22 : decode cX3_addAndSubtractHalves 22 = .ok (.aload_n 0, 1) := by decide +kernel
theorem dX3_addAndSubtractHalves_23 : decode cX3_addAndSubtractHalves 23 = .ok (.getfield 38, 3) := by decide +kernel
theorem dX3_addAndSubtractHalves_26 : decode cX3_addAndSubtractHalves 26 = .ok (.iload_n 2, 1) := by decide +kernel
theorem dX3_addAndSubtractHalves_27 : decode cX3_addAndSubtractHalves 27 = .ok (.iaload, 1) := by decide +kernel
theorem dX3_addAndSubtractHalves_28 : decode cX3_addAndSubtractHalves 28 = .ok (.istore_n 3, 1) := by decide +kernel
theorem dX3_addAndSubtractHalves_29 : decode cX3_addAndSubtractHalves 29 = .ok (.aload_n 0, 1) := by decide +kernel
theorem dX3_addAndSubtractHalves_30 : decode cX3_addAndSubtractHalves 30 = .ok (.getfield 38, 3) := by decide +kernel
theorem dX3_addAndSubtractHalves_33 : decode cX3_addAndSubtractHalves 33 = .ok (.iload_n 2, 1) := by decide +kernel
theorem dX3_addAndSubtractHalves_34 : decode cX3_addAndSubtractHalves 34 = .ok (.iload_n 1, 1) := by decide +kernel
theorem dX3_addAndSubtractHalves_35 : decode cX3_addAndSubtractHalves 35 = .ok (.iadd, 1) := by decide +kernel
theorem dX3_addAndSubtractHalves_36 : decode cX3_addAndSubtractHalves 36 = .ok (.iaload, 1) := by decide +kernel
theorem dX3_addAndSubtractHalves_37 : decode cX3_addAndSubtractHalves 37 = .ok (.istore 4, 2) := by decide +kernel
theorem dX3_addAndSubtractHalves_39 : decode cX3_addAndSubtractHalves 39 = .ok (.aload_n 0, 1) := by decide +kernel
theorem dX3_addAndSubtractHalves_40 : decode cX3_addAndSubtractHalves 40 = .ok (.getfield 38, 3) := by decide +kernel
theorem dX3_addAndSubtractHalves_43 : decode cX3_addAndSubtractHalves 43 = .ok (.iload_n 2, 1) := by decide +kernel
theorem dX3_addAndSubtractHalves_44 : decode cX3_addAndSubtractHalves 44 = .ok (.iload_n 3, 1) := by decide +kernel
theorem dX3_addAndSubtractHalves_45 : decode cX3_addAndSubtractHalves 45 = .ok (.iload 4, 2) := by decide +kernel
theorem dX3_addAndSubtractHalves_47 : decode cX3_addAndSubtractHalves 47 = .ok (.iadd, 1) := by decide +kernel
theorem dX3_addAndSubtractHalves_48 : decode cX3_addAndSubtractHalves 48 = .ok (.iastore, 1) := by decide +kernel
theorem dX3_addAndSubtractHalves_49 : decode cX3_addAndSubtractHalves 49 = .ok (.aload_n 0, 1) := by decide +kernel
theorem dX3_addAndSubtractHalves_50 : decode cX3_addAndSubtractHalves 50 = .ok (.getfield 38, 3) := by decide +kernel
theorem dX3_addAndSubtractHalves_53 : decode cX3_addAndSubtractHalves 53 = .ok (.iload_n 2, 1) := by decide +kernel
theorem dX3_addAndSubtractHalves_54 : decode cX3_addAndSubtractHalves 54 = .ok (.iload_n 1, 1) := by decide +kernel
theorem dX3_addAndSubtractHalves_55 : decode cX3_addAndSubtractHalves 55 = .ok (.iadd, 1) := by decide +kernel
theorem dX3_addAndSubtractHalves_56 : decode cX3_addAndSubtractHalves 56 = .ok (.iload_n 3, 1) := by decide +kernel
theorem dX3_addAndSubtractHalves_57 : decode cX3_addAndSubtractHalves 57 = .ok (.iload 4, 2) := by decide +kernel
theorem dX3_addAndSubtractHalves_59 : decode cX3_addAndSubtractHalves 59 = .ok (.isub, 1) := by decide +kernel
theorem dX3_addAndSubtractHalves_60 : decode cX3_addAndSubtractHalves 60 = .ok (.iastore, 1) := by decide +kernel
theorem dX3_addAndSubtractHalves_61 : decode cX3_addAndSubtractHalves 61 = .ok (.iinc 2 1, 3) := by decide +kernel
theorem dX3_addAndSubtractHalves_64 : decode cX3_addAndSubtractHalves 64 = .ok (.goto (-56), 3) := by decide +kernel
theorem dX3_addAndSubtractHalves_67 : decode cX3_addAndSubtractHalves 67 = .ok (.iload_n 1, 1) := by decide +kernel
theorem dX3_addAndSubtractHalves_68 : decode cX3_addAndSubtractHalves 68 = .ok (.iconst 2, 1) := by decide +kernel
theorem dX3_addAndSubtractHalves_69 : decode cX3_addAndSubtractHalves 69 = .ok (.idiv, 1) := by decide +kernel
theorem dX3_addAndSubtractHalves_70 : decode cX3_addAndSubtractHalves 70 = .ok (.istore_n 1, 1) := by decide +kernel
theorem dX3_addAndSubtractHalves_71 : decode cX3_addAndSubtractHalves 71 = .ok (.goto (-69), 3) := by decide +kernel
theorem dX3_addAndSubtractHalves_74 : decode cX3_addAndSubtractHalves 74 = .ok (.return_, 1) := by decide +kernel
set_option maxRecDepth 20000 in
theorem ggX3_pointNumber_X0_differenceAt : GoodIn wsX3_pointNumber wsX0_differenceAt := goodIn_r _ [5, 6, 7, 8, 9, 3, 10, 11, 12, 13, 14, 15, 16, 17, 18, 19, 20, 21, 22, 23, 24, 25, 26, 27, 28, 29, 30, 40, 41, 42, 43] (by decide +kernel) (by decide +kernel)
set_option maxRecDepth 20000 in
theorem gX3_pointNumber_X0_differenceAt_n185 : GoodIn wsX3_pointNumber (wsX0_differenceAt) := ggX3_pointNumber_X0_differenceAt
set_option maxRecDepth 20000 in
theorem ggX3_pointNumber_X0_jumpAt : GoodIn wsX3_pointNumber wsX0_jumpAt := goodIn_r _ [33, 7, 8, 9, 3, 10, 11, 12, 13, 14, 15, 16, 17, 18, 19, 20, 21, 22, 23, 24, 25, 26, 27, 28, 29, 30, 40, 41, 42, 43] (by decide +kernel) (by decide +kernel)
set_option maxRecDepth 20000 in
theorem gX3_pointNumber_X0_jumpAt_n251 : GoodIn wsX3_pointNumber (wsX0_jumpAt) := ggX3_pointNumber_X0_jumpAt
theorem dX3_pointNumber_0 : decode cX3_pointNumber 0 = .ok (.iload_n 2, 1) := by decide +kernel
theorem dX3_pointNumber_1 : decode cX3_pointNumber 1 = .ok (.lookupswitch 46 #[(0, 27), (1, 37)], 27) := by decide +kernel
theorem dX3_pointNumber_28 : decode cX3_pointNumber 28 = .ok (.aload_n 0, 1) := by decide +kernel
theorem dX3_pointNumber_29 : decode cX3_pointNumber 29 = .ok (.getfield 12, 3) := by decide +kernel
theorem dX3_pointNumber_32 : decode cX3_pointNumber 32 = .ok (.getfield 93, 3) := by decide +kernel
theorem dX3_pointNumber_35 : decode cX3_pointNumber 35 = .ok (.iload_n 1, 1) := by decide +kernel
theorem dX3_pointNumber_36 : decode cX3_pointNumber 36 = .ok (.iaload, 1) := by decide +kernel
theorem dX3_pointNumber_37 : decode cX3_pointNumber 37 = .ok (.ireturn, 1) := by decide +kernel
theorem dX3_pointNumber_38 : decode cX3_pointNumber 38 = .ok (.aload_n 0, 1) := by decide +kernel
theorem dX3_pointNumber_39 : decode cX3_pointNumber 39 = .ok (.getfield 12, 3) := by decide +kernel
theorem dX3_pointNumber_42 : decode cX3_pointNumber 42 = .ok (.iload_n 1, 1) := by decide +kernel
theorem dX3_pointNumber_43 : decode cX3_pointNumber 43 = .ok (.invokevirtual 185, 3) := by decide +kernel
theorem dX3_pointNumber_46 : decode cX3_pointNumber 46 = .ok (.ireturn, 1) := by decide +kernel
theorem dX3_pointNumber_47 : decode cX3_pointNumber 47 = .ok (.aload_n 0, 1) := by decide +kernel
theorem dX3_pointNumber_48 : decode cX3_pointNumber 48 = .ok (.getfield 12, 3) := by decide +kernel
theorem dX3_pointNumber_51 : decode cX3_pointNumber 51 = .ok (.iload_n 1, 1) := by decide +kernel
theorem dX3_pointNumber_52 : decode cX3_pointNumber 52 = .ok (.invokevirtual 251, 3) := by decide +kernel
theorem dX3_pointNumber_55 : decode cX3_pointNumber 55 = .ok (.ireturn, 1) := by decide +kernel
set_option maxRecDepth 20000 in
theorem ggX3_countNumber_X0_drawingWheels : GoodIn wsX3_countNumber wsX0_drawingWheels := goodIn_r _ [6, 7, 74, 75, 76, 77] (by decide +kernel) (by decide +kernel)
set_option maxRecDepth 20000 in
theorem gX3_countNumber_X0_drawingWheels_n144 : GoodIn wsX3_countNumber (wsX0_drawingWheels) := ggX3_countNumber_X0_drawingWheels
set_option maxRecDepth 20000 in
theorem ggX3_countNumber_J6_bitCount_0f7a4 : GoodIn wsX3_countNumber wsJ6_bitCount_0f7a4 := goodIn_r _ [11, 12, 13, 14] (by decide +kernel) (by decide +kernel)
set_option maxRecDepth 20000 in
theorem gX3_countNumber_J6_bitCount_0f7a4 : GoodIn wsX3_countNumber (va_wsS RX3 240 yJ6_bitCount_0f7a4 wsJ6_bitCount_0f7a4) := goodIn_app (goodIn_of _ (by decide +kernel)) ggX3_countNumber_J6_bitCount_0f7a4
set_option maxRecDepth 20000 in
theorem ggX3_countNumber_X3_greatestTrace : GoodIn wsX3_countNumber wsX3_greatestTrace := goodIn_r _ [19, 1, 20, 21, 22, 23, 24, 4, 25, 26, 27, 28, 29, 30, 7, 31, 32, 33, 34, 35, 36, 18, 37, 8, 9, 10, 11, 12, 13, 14, 68, 69, 70, 71, 72, 73, 74, 75, 76, 77] (by decide +kernel) (by decide +kernel)
set_option maxRecDepth 20000 in
theorem gX3_countNumber_X3_greatestTrace : GoodIn wsX3_countNumber (wsV RX3 254 RX3 yX3_greatestTrace wsX3_greatestTrace) := goodIn_app (goodIn_of _ (by decide +kernel)) ggX3_countNumber_X3_greatestTrace
set_option maxRecDepth 20000 in
theorem ggX3_countNumber_X3_leastTrace : GoodIn wsX3_countNumber wsX3_leastTrace := goodIn_r _ [41, 1, 42, 43, 22, 44, 24, 4, 25, 26, 27, 28, 29, 30, 7, 31, 32, 33, 34, 35, 36, 18, 37, 8, 9, 10, 11, 12, 13, 14, 68, 69, 70, 71, 72, 73, 74, 75, 76, 77] (by decide +kernel) (by decide +kernel)
set_option maxRecDepth 20000 in
theorem gX3_countNumber_X3_leastTrace : GoodIn wsX3_countNumber (wsV RX3 257 RX3 yX3_leastTrace wsX3_leastTrace) := goodIn_app (goodIn_of _ (by decide +kernel)) ggX3_countNumber_X3_leastTrace
set_option maxRecDepth 20000 in
theorem ggX3_countNumber_X3_greatestDifference : GoodIn wsX3_countNumber wsX3_greatestDifference := goodIn_r _ [48, 1, 49, 50, 22, 51, 20, 21, 23, 52, 4, 53, 54, 55, 56, 24, 25, 26, 27, 28, 29, 30, 7, 31, 32, 33, 34, 35, 36, 18, 37, 8, 9, 10, 11, 12, 13, 14, 68, 69, 70, 71, 72, 73, 74, 75, 76, 77] (by decide +kernel) (by decide +kernel)
set_option maxRecDepth 20000 in
theorem gX3_countNumber_X3_greatestDifference : GoodIn wsX3_countNumber (wsV RX3 260 RX3 yX3_greatestDifference wsX3_greatestDifference) := goodIn_app (goodIn_of _ (by decide +kernel)) ggX3_countNumber_X3_greatestDifference
set_option maxRecDepth 20000 in
theorem ggX3_countNumber_X3_greatestJump : GoodIn wsX3_countNumber wsX3_greatestJump := goodIn_r _ [60, 1, 49, 50, 22, 51, 20, 21, 23, 61, 4, 62, 63, 56, 24, 25, 26, 27, 28, 29, 30, 7, 31, 32, 33, 34, 35, 36, 18, 37, 8, 9, 10, 11, 12, 13, 14, 68, 69, 70, 71, 72, 73, 74, 75, 76, 77] (by decide +kernel) (by decide +kernel)
set_option maxRecDepth 20000 in
theorem gX3_countNumber_X3_greatestJump : GoodIn wsX3_countNumber (wsV RX3 263 RX3 yX3_greatestJump wsX3_greatestJump) := goodIn_app (goodIn_of _ (by decide +kernel)) ggX3_countNumber_X3_greatestJump
set_option maxRecDepth 20000 in
theorem ggX3_countNumber_X3_overshoot : GoodIn wsX3_countNumber wsX3_overshoot := goodIn_r _ [67, 20, 21, 22, 23, 1, 49, 50, 51, 15, 16, 17, 18, 19, 24, 4, 25, 26, 27, 28, 29, 30, 7, 31, 32, 33, 34, 35, 36, 37, 8, 9, 10, 11, 12, 13, 14, 38, 39, 40, 41, 42, 43, 44, 68, 69, 70, 71, 72, 73, 74, 75, 76, 77] (by decide +kernel) (by decide +kernel)
set_option maxRecDepth 20000 in
theorem gX3_countNumber_X3_overshoot : GoodIn wsX3_countNumber (wsV RX3 266 RX3 yX3_overshoot wsX3_overshoot) := goodIn_app (goodIn_of _ (by decide +kernel)) ggX3_countNumber_X3_overshoot
theorem dX3_countNumber_0 : decode cX3_countNumber 0 = .ok (.iload_n 1, 1) := by decide +kernel
theorem dX3_countNumber_1 : decode cX3_countNumber 1 = .ok (.tableswitch 99 0 7 #[47, 55, 66, 71, 76, 81, 86, 91], 47) := by decide +kernel
theorem dX3_countNumber_48 : decode cX3_countNumber 48 = .ok (.aload_n 0, 1) := by decide +kernel
theorem dX3_countNumber_49 : decode cX3_countNumber 49 = .ok (.getfield 12, 3) := by decide +kernel
theorem dX3_countNumber_52 : decode cX3_countNumber 52 = .ok (.invokevirtual 144, 3) := by decide +kernel
theorem dX3_countNumber_55 : decode cX3_countNumber 55 = .ok (.ireturn, 1) := by decide +kernel
theorem dX3_countNumber_56 : decode cX3_countNumber 56 = .ok (.aload_n 0, 1) := by decide +kernel
theorem dX3_countNumber_57 : decode cX3_countNumber 57 = .ok (.getfield 12, 3) := by decide +kernel
theorem dX3_countNumber_60 : decode cX3_countNumber 60 = .ok (.getfield 69, 3) := by decide +kernel
theorem dX3_countNumber_63 : decode cX3_countNumber 63 = .ok (.invokestatic 240, 3) := by decide +kernel
theorem dX3_countNumber_66 : decode cX3_countNumber 66 = .ok (.ireturn, 1) := by decide +kernel
theorem dX3_countNumber_67 : decode cX3_countNumber 67 = .ok (.aload_n 0, 1) := by decide +kernel
theorem dX3_countNumber_68 : decode cX3_countNumber 68 = .ok (.invokevirtual 254, 3) := by decide +kernel
theorem dX3_countNumber_71 : decode cX3_countNumber 71 = .ok (.ireturn, 1) := by decide +kernel
theorem dX3_countNumber_72 : decode cX3_countNumber 72 = .ok (.aload_n 0, 1) := by decide +kernel
theorem dX3_countNumber_73 : decode cX3_countNumber 73 = .ok (.invokevirtual 257, 3) := by decide +kernel
theorem dX3_countNumber_76 : decode cX3_countNumber 76 = .ok (.ireturn, 1) := by decide +kernel
theorem dX3_countNumber_77 : decode cX3_countNumber 77 = .ok (.aload_n 0, 1) := by decide +kernel
theorem dX3_countNumber_78 : decode cX3_countNumber 78 = .ok (.invokevirtual 260, 3) := by decide +kernel
theorem dX3_countNumber_81 : decode cX3_countNumber 81 = .ok (.ireturn, 1) := by decide +kernel
theorem dX3_countNumber_82 : decode cX3_countNumber 82 = .ok (.aload_n 0, 1) := by decide +kernel
theorem dX3_countNumber_83 : decode cX3_countNumber 83 = .ok (.invokevirtual 263, 3) := by decide +kernel
theorem dX3_countNumber_86 : decode cX3_countNumber 86 = .ok (.ireturn, 1) := by decide +kernel
theorem dX3_countNumber_87 : decode cX3_countNumber 87 = .ok (.aload_n 0, 1) := by decide +kernel
theorem dX3_countNumber_88 : decode cX3_countNumber 88 = .ok (.invokevirtual 266, 3) := by decide +kernel
theorem dX3_countNumber_91 : decode cX3_countNumber 91 = .ok (.ireturn, 1) := by decide +kernel
theorem dX3_countNumber_92 : decode cX3_countNumber 92 = .ok (.aload_n 0, 1) := by decide +kernel
theorem dX3_countNumber_93 : decode cX3_countNumber 93 = .ok (.getfield 12, 3) := by decide +kernel
theorem dX3_countNumber_96 : decode cX3_countNumber 96 = .ok (.getfield 108, 3) := by decide +kernel
theorem dX3_countNumber_99 : decode cX3_countNumber 99 = .ok (.ireturn, 1) := by decide +kernel
theorem dX3_countNumber_100 : decode cX3_countNumber 100 = .ok (.aload_n 0, 1) := by decide +kernel
theorem dX3_countNumber_101 : decode cX3_countNumber 101 = .ok (.getfield 27, 3) := by decide +kernel
theorem dX3_countNumber_104 : decode cX3_countNumber 104 = .ok (.getfield 157, 3) := by decide +kernel
theorem dX3_countNumber_107 : decode cX3_countNumber 107 = .ok (.ireturn, 1) := by decide +kernel
set_option maxRecDepth 20000 in
theorem ggX3_greatestTrace_X0_traceAt : GoodIn wsX3_greatestTrace wsX0_traceAt := goodIn_r _ [9, 10, 11, 12, 7, 13, 14, 15, 16, 17, 18, 19, 20, 21, 22, 23, 24, 25, 26, 27, 28, 29, 36, 37, 38, 39] (by decide +kernel) (by decide +kernel)
set_option maxRecDepth 20000 in
theorem gX3_greatestTrace_X0_traceAt_n96 : GoodIn wsX3_greatestTrace (wsX0_traceAt) := ggX3_greatestTrace_X0_traceAt
theorem dX3_greatestTrace_0 : decode cX3_greatestTrace 0 = .ok (.aload_n 0, 1) := by decide +kernel
theorem dX3_greatestTrace_1 : decode cX3_greatestTrace 1 = .ok (.getfield 12, 3) := by decide +kernel
theorem dX3_greatestTrace_4 : decode cX3_greatestTrace 4 = .ok (.iconst 0, 1) := by decide +kernel
theorem dX3_greatestTrace_5 : decode cX3_greatestTrace 5 = .ok (.invokevirtual 96, 3) := by decide +kernel
theorem dX3_greatestTrace_8 : decode cX3_greatestTrace 8 = .ok (.istore_n 1, 1) := by decide +kernel
theorem dX3_greatestTrace_9 : decode cX3_greatestTrace 9 = .ok (.iconst 1, 1) := by decide +kernel
theorem dX3_greatestTrace_10 : decode cX3_greatestTrace 10 = .ok (.istore_n 2, 1) := by decide +kernel
theorem dX3_greatestTrace_11 : decode cX3_greatestTrace 11 = .ok (.iload_n 2, 1) := by decide +kernel
theorem dX3_greatestTrace_12 : decode cX3_greatestTrace 12 = .ok (.bipush 8, 2) := by decide +kernel
theorem dX3_greatestTrace_14 : decode cX3_greatestTrace 14 = .ok (.if_icmp .ge 22, 3) := by decide +kernel
theorem dX3_greatestTrace_17 : decode cX3_greatestTrace 17 = .ok (.iload_n 1, 1) := by decide +kernel
theorem dX3_greatestTrace_18 : decode cX3_greatestTrace 18 = .ok (.aload_n 0, 1) := by decide +kernel
theorem dX3_greatestTrace_19 : decode cX3_greatestTrace 19 = .ok (.getfield 12, 3) := by decide +kernel
theorem dX3_greatestTrace_22 : decode cX3_greatestTrace 22 = .ok (.iload_n 2, 1) := by decide +kernel
theorem dX3_greatestTrace_23 : decode cX3_greatestTrace 23 = .ok (.invokevirtual 96, 3) := by decide +kernel
theorem dX3_greatestTrace_26 : decode cX3_greatestTrace 26 = .ok (.invokestatic 105, 3) := by decide +kernel
theorem dX3_greatestTrace_29 : decode cX3_greatestTrace 29 = .ok (.istore_n 1, 1) := by decide +kernel
theorem dX3_greatestTrace_30 : decode cX3_greatestTrace 30 = .ok (.iinc 2 1, 3) := by decide +kernel
theorem dX3_greatestTrace_33 : decode cX3_greatestTrace 33 = .ok (.goto (-22), 3) := by decide +kernel
theorem dX3_greatestTrace_36 : decode cX3_greatestTrace 36 = .ok (.iload_n 1, 1) := by decide +kernel
theorem dX3_greatestTrace_37 : decode cX3_greatestTrace 37 = .ok (.ireturn, 1) := by decide +kernel
set_option maxRecDepth 20000 in
theorem ggX3_leastTrace_X0_traceAt : GoodIn wsX3_leastTrace wsX0_traceAt := goodIn_r _ [9, 10, 11, 12, 7, 13, 14, 15, 16, 17, 18, 19, 20, 21, 22, 23, 24, 25, 26, 27, 28, 29, 36, 37, 38, 39] (by decide +kernel) (by decide +kernel)
set_option maxRecDepth 20000 in
theorem gX3_leastTrace_X0_traceAt_n96 : GoodIn wsX3_leastTrace (wsX0_traceAt) := ggX3_leastTrace_X0_traceAt
theorem dX3_leastTrace_0 : decode cX3_leastTrace 0 = .ok (.aload_n 0, 1) := by decide +kernel
theorem dX3_leastTrace_1 : decode cX3_leastTrace 1 = .ok (.getfield 12, 3) := by decide +kernel
theorem dX3_leastTrace_4 : decode cX3_leastTrace 4 = .ok (.iconst 0, 1) := by decide +kernel
theorem dX3_leastTrace_5 : decode cX3_leastTrace 5 = .ok (.invokevirtual 96, 3) := by decide +kernel
theorem dX3_leastTrace_8 : decode cX3_leastTrace 8 = .ok (.istore_n 1, 1) := by decide +kernel
theorem dX3_leastTrace_9 : decode cX3_leastTrace 9 = .ok (.iconst 1, 1) := by decide +kernel
theorem dX3_leastTrace_10 : decode cX3_leastTrace 10 = .ok (.istore_n 2, 1) := by decide +kernel
theorem dX3_leastTrace_11 : decode cX3_leastTrace 11 = .ok (.iload_n 2, 1) := by decide +kernel
theorem dX3_leastTrace_12 : decode cX3_leastTrace 12 = .ok (.bipush 8, 2) := by decide +kernel
theorem dX3_leastTrace_14 : decode cX3_leastTrace 14 = .ok (.if_icmp .ge 22, 3) := by decide +kernel
theorem dX3_leastTrace_17 : decode cX3_leastTrace 17 = .ok (.iload_n 1, 1) := by decide +kernel
theorem dX3_leastTrace_18 : decode cX3_leastTrace 18 = .ok (.aload_n 0, 1) := by decide +kernel
theorem dX3_leastTrace_19 : decode cX3_leastTrace 19 = .ok (.getfield 12, 3) := by decide +kernel
theorem dX3_leastTrace_22 : decode cX3_leastTrace 22 = .ok (.iload_n 2, 1) := by decide +kernel
theorem dX3_leastTrace_23 : decode cX3_leastTrace 23 = .ok (.invokevirtual 96, 3) := by decide +kernel
theorem dX3_leastTrace_26 : decode cX3_leastTrace 26 = .ok (.invokestatic 102, 3) := by decide +kernel
theorem dX3_leastTrace_29 : decode cX3_leastTrace 29 = .ok (.istore_n 1, 1) := by decide +kernel
theorem dX3_leastTrace_30 : decode cX3_leastTrace 30 = .ok (.iinc 2 1, 3) := by decide +kernel
theorem dX3_leastTrace_33 : decode cX3_leastTrace 33 = .ok (.goto (-22), 3) := by decide +kernel
theorem dX3_leastTrace_36 : decode cX3_leastTrace 36 = .ok (.iload_n 1, 1) := by decide +kernel
theorem dX3_leastTrace_37 : decode cX3_leastTrace 37 = .ok (.ireturn, 1) := by decide +kernel
set_option maxRecDepth 20000 in
theorem ggX3_greatestDifference_X0_differenceAt : GoodIn wsX3_greatestDifference wsX0_differenceAt := goodIn_r _ [12, 13, 14, 15, 16, 10, 17, 18, 19, 20, 21, 22, 23, 24, 25, 26, 27, 28, 29, 30, 31, 32, 33, 34, 35, 36, 37, 44, 45, 46, 47] (by decide +kernel) (by decide +kernel)
set_option maxRecDepth 20000 in
theorem gX3_greatestDifference_X0_differenceAt_n185 : GoodIn wsX3_greatestDifference (wsX0_differenceAt) := ggX3_greatestDifference_X0_differenceAt
theorem dX3_greatestDifference_0 : decode cX3_greatestDifference 0 = .ok (.iconst 0, 1) := by decide +kernel
theorem dX3_greatestDifference_1 : decode cX3_greatestDifference 1 = .ok (.istore_n 1, 1) := by decide +kernel
theorem dX3_greatestDifference_2 : decode cX3_greatestDifference 2 = .ok (.iconst 0, 1) := by decide +kernel
theorem dX3_greatestDifference_3 : decode cX3_greatestDifference 3 = .ok (.istore_n 2, 1) := by decide +kernel
theorem dX3_greatestDifference_4 : decode cX3_greatestDifference 4 = .ok (.iload_n 2, 1) := by decide +kernel
theorem dX3_greatestDifference_5 : decode cX3_greatestDifference 5 = .ok (.bipush 8, 2) := by decide +kernel
theorem dX3_greatestDifference_7 : decode cX3_greatestDifference 7 = .ok (.if_icmp .ge 25, 3) := by decide +kernel
theorem dX3_greatestDifference_10 : decode cX3_greatestDifference 10 = .ok (.iload_n 1, 1) := by decide +kernel
theorem dX3_greatestDifference_11 : decode cX3_greatestDifference 11 = .ok (.aload_n 0, 1) := by decide +kernel
theorem dX3_greatestDifference_12 : decode cX3_greatestDifference 12 = .ok (.getfield 12, 3) := by decide +kernel
theorem dX3_greatestDifference_15 : decode cX3_greatestDifference 15 = .ok (.iload_n 2, 1) := by decide +kernel
theorem dX3_greatestDifference_16 : decode cX3_greatestDifference 16 = .ok (.invokevirtual 185, 3) := by decide +kernel
theorem dX3_greatestDifference_19 : decode cX3_greatestDifference 19 = .ok (.invokestatic 83, 3) := by decide +kernel
theorem dX3_greatestDifference_22 : decode cX3_greatestDifference 22 = .ok (.invokestatic 105, 3) := by decide +kernel
theorem dX3_greatestDifference_25 : decode cX3_greatestDifference 25 = .ok (.istore_n 1, 1) := by decide +kernel
theorem dX3_greatestDifference_26 : decode cX3_greatestDifference 26 = .ok (.iinc 2 1, 3) := by decide +kernel
theorem dX3_greatestDifference_29 : decode cX3_greatestDifference 29 = .ok (.goto (-25), 3) := by decide +kernel
theorem dX3_greatestDifference_32 : decode cX3_greatestDifference 32 = .ok (.iload_n 1, 1) := by decide +kernel
theorem dX3_greatestDifference_33 : decode cX3_greatestDifference 33 = .ok (.ireturn, 1) := by decide +kernel
set_option maxRecDepth 20000 in
theorem ggX3_greatestJump_X0_jumpAt : GoodIn wsX3_greatestJump wsX0_jumpAt := goodIn_r _ [12, 13, 14, 15, 10, 16, 17, 18, 19, 20, 21, 22, 23, 24, 25, 26, 27, 28, 29, 30, 31, 32, 33, 34, 35, 36, 43, 44, 45, 46] (by decide +kernel) (by decide +kernel)
set_option maxRecDepth 20000 in
theorem gX3_greatestJump_X0_jumpAt_n251 : GoodIn wsX3_greatestJump (wsX0_jumpAt) := ggX3_greatestJump_X0_jumpAt
theorem dX3_greatestJump_0 : decode cX3_greatestJump 0 = .ok (.iconst 0, 1) := by decide +kernel
theorem dX3_greatestJump_1 : decode cX3_greatestJump 1 = .ok (.istore_n 1, 1) := by decide +kernel
theorem dX3_greatestJump_2 : decode cX3_greatestJump 2 = .ok (.iconst 0, 1) := by decide +kernel
theorem dX3_greatestJump_3 : decode cX3_greatestJump 3 = .ok (.istore_n 2, 1) := by decide +kernel
theorem dX3_greatestJump_4 : decode cX3_greatestJump 4 = .ok (.iload_n 2, 1) := by decide +kernel
theorem dX3_greatestJump_5 : decode cX3_greatestJump 5 = .ok (.bipush 8, 2) := by decide +kernel
theorem dX3_greatestJump_7 : decode cX3_greatestJump 7 = .ok (.if_icmp .ge 25, 3) := by decide +kernel
theorem dX3_greatestJump_10 : decode cX3_greatestJump 10 = .ok (.iload_n 1, 1) := by decide +kernel
theorem dX3_greatestJump_11 : decode cX3_greatestJump 11 = .ok (.aload_n 0, 1) := by decide +kernel
theorem dX3_greatestJump_12 : decode cX3_greatestJump 12 = .ok (.getfield 12, 3) := by decide +kernel
theorem dX3_greatestJump_15 : decode cX3_greatestJump 15 = .ok (.iload_n 2, 1) := by decide +kernel
theorem dX3_greatestJump_16 : decode cX3_greatestJump 16 = .ok (.invokevirtual 251, 3) := by decide +kernel
theorem dX3_greatestJump_19 : decode cX3_greatestJump 19 = .ok (.invokestatic 83, 3) := by decide +kernel
theorem dX3_greatestJump_22 : decode cX3_greatestJump 22 = .ok (.invokestatic 105, 3) := by decide +kernel
theorem dX3_greatestJump_25 : decode cX3_greatestJump 25 = .ok (.istore_n 1, 1) := by decide +kernel
theorem dX3_greatestJump_26 : decode cX3_greatestJump 26 = .ok (.iinc 2 1, 3) := by decide +kernel
theorem dX3_greatestJump_29 : decode cX3_greatestJump 29 = .ok (.goto (-25), 3) := by decide +kernel
theorem dX3_greatestJump_32 : decode cX3_greatestJump 32 = .ok (.iload_n 1, 1) := by decide +kernel
theorem dX3_greatestJump_33 : decode cX3_greatestJump 33 = .ok (.ireturn, 1) := by decide +kernel
set_option maxRecDepth 20000 in
theorem ggX3_overshoot_X3_greatestTrace : GoodIn wsX3_overshoot wsX3_greatestTrace := goodIn_r _ [13, 5, 1, 2, 3, 4, 14, 15, 16, 17, 18, 19, 20, 21, 22, 23, 24, 25, 26, 27, 28, 12, 29, 30, 31, 32, 33, 34, 35, 36, 44, 45, 46, 47, 48, 49, 50, 51, 52, 53] (by decide +kernel) (by decide +kernel)
set_option maxRecDepth 20000 in
theorem gX3_overshoot_X3_greatestTrace : GoodIn wsX3_overshoot (wsV RX3 254 RX3 yX3_greatestTrace wsX3_greatestTrace) := goodIn_app (goodIn_of _ (by decide +kernel)) ggX3_overshoot_X3_greatestTrace
set_option maxRecDepth 20000 in
theorem ggX3_overshoot_X3_leastTrace : GoodIn wsX3_overshoot wsX3_leastTrace := goodIn_r _ [40, 5, 41, 42, 3, 43, 14, 15, 16, 17, 18, 19, 20, 21, 22, 23, 24, 25, 26, 27, 28, 12, 29, 30, 31, 32, 33, 34, 35, 36, 44, 45, 46, 47, 48, 49, 50, 51, 52, 53] (by decide +kernel) (by decide +kernel)
set_option maxRecDepth 20000 in
theorem gX3_overshoot_X3_leastTrace : GoodIn wsX3_overshoot (wsV RX3 257 RX3 yX3_leastTrace wsX3_leastTrace) := goodIn_app (goodIn_of _ (by decide +kernel)) ggX3_overshoot_X3_leastTrace
set_option maxRecDepth 20000 in
theorem ggX3_overshoot_X0_drawnAmplitude : GoodIn wsX3_overshoot wsX0_drawnAmplitude := goodIn_r _ [21, 22, 23, 24, 25, 15, 26, 27, 50, 51, 52, 53] (by decide +kernel) (by decide +kernel)
set_option maxRecDepth 20000 in
theorem gX3_overshoot_X0_drawnAmplitude_n201 : GoodIn wsX3_overshoot (wsX0_drawnAmplitude) := ggX3_overshoot_X0_drawnAmplitude
theorem dX3_overshoot_0 : decode cX3_overshoot 0 = .ok (.aload_n 0, 1) := by decide +kernel
theorem dX3_overshoot_1 : decode cX3_overshoot 1 = .ok (.invokevirtual 254, 3) := by decide +kernel
theorem dX3_overshoot_4 : decode cX3_overshoot 4 = .ok (.aload_n 0, 1) := by decide +kernel
theorem dX3_overshoot_5 : decode cX3_overshoot 5 = .ok (.invokevirtual 257, 3) := by decide +kernel
theorem dX3_overshoot_8 : decode cX3_overshoot 8 = .ok (.ineg, 1) := by decide +kernel
theorem dX3_overshoot_9 : decode cX3_overshoot 9 = .ok (.invokestatic 105, 3) := by decide +kernel
theorem dX3_overshoot_12 : decode cX3_overshoot 12 = .ok (.aload_n 0, 1) := by decide +kernel
theorem dX3_overshoot_13 : decode cX3_overshoot 13 = .ok (.getfield 12, 3) := by decide +kernel
theorem dX3_overshoot_16 : decode cX3_overshoot 16 = .ok (.iconst 0, 1) := by decide +kernel
theorem dX3_overshoot_17 : decode cX3_overshoot 17 = .ok (.invokevirtual 201, 3) := by decide +kernel
theorem dX3_overshoot_20 : decode cX3_overshoot 20 = .ok (.invokestatic 83, 3) := by decide +kernel
theorem dX3_overshoot_23 : decode cX3_overshoot 23 = .ok (.isub, 1) := by decide +kernel
theorem dX3_overshoot_24 : decode cX3_overshoot 24 = .ok (.ireturn, 1) := by decide +kernel
set_option maxRecDepth 20000 in
theorem ggX3_isDifference_X0_differenceAt : GoodIn wsX3_isDifference wsX0_differenceAt := goodIn_r _ [5, 6, 7, 8, 9, 3, 10, 11, 12, 13, 14, 15, 16, 17, 18, 19, 20, 21, 22, 23, 24, 25, 26, 27, 28, 29, 30, 38, 39, 40, 41] (by decide +kernel) (by decide +kernel)
set_option maxRecDepth 20000 in
theorem gX3_isDifference_X0_differenceAt_n185 : GoodIn wsX3_isDifference (wsX0_differenceAt) := ggX3_isDifference_X0_differenceAt
set_option maxRecDepth 20000 in
theorem ggX3_isDifference_X3_wave : GoodIn wsX3_isDifference wsX3_wave := goodIn_r _ [23, 24, 25, 26, 27, 28, 29, 30] (by decide +kernel) (by decide +kernel)
set_option maxRecDepth 20000 in
theorem gX3_isDifference_X3_wave : GoodIn wsX3_isDifference (va_wsS RX3 77 yX3_wave wsX3_wave) := goodIn_app (goodIn_of _ (by decide +kernel)) ggX3_isDifference_X3_wave
theorem dX3_isDifference_0 : decode cX3_isDifference 0 = .ok (.iconst 0, 1) := by decide +kernel
theorem dX3_isDifference_1 : decode cX3_isDifference 1 = .ok (.istore_n 3, 1) := by decide +kernel
theorem dX3_isDifference_2 : decode cX3_isDifference 2 = .ok (.iload_n 3, 1) := by decide +kernel
theorem dX3_isDifference_3 : decode cX3_isDifference 3 = .ok (.bipush 8, 2) := by decide +kernel
theorem dX3_isDifference_5 : decode cX3_isDifference 5 = .ok (.if_icmp .ge 29, 3) := by decide +kernel
theorem dX3_isDifference_8 : decode cX3_isDifference 8 = .ok (.aload_n 0, 1) := by decide +kernel
theorem dX3_isDifference_9 : decode cX3_isDifference 9 = .ok (.getfield 12, 3) := by decide +kernel
theorem dX3_isDifference_12 : decode cX3_isDifference 12 = .ok (.iload_n 3, 1) := by decide +kernel
theorem dX3_isDifference_13 : decode cX3_isDifference 13 = .ok (.invokevirtual 185, 3) := by decide +kernel
theorem dX3_isDifference_16 : decode cX3_isDifference 16 = .ok (.iload_n 1, 1) := by decide +kernel
theorem dX3_isDifference_17 : decode cX3_isDifference 17 = .ok (.iload_n 2, 1) := by decide +kernel
theorem dX3_isDifference_18 : decode cX3_isDifference 18 = .ok (.iload_n 3, 1) := by decide +kernel
theorem dX3_isDifference_19 : decode cX3_isDifference 19 = .ok (.invokestatic 77, 3) := by decide +kernel
theorem dX3_isDifference_22 : decode cX3_isDifference 22 = .ok (.imul, 1) := by decide +kernel
theorem dX3_isDifference_23 : decode cX3_isDifference 23 = .ok (.if_icmp .eq 5, 3) := by decide +kernel
theorem dX3_isDifference_26 : decode cX3_isDifference 26 = .ok (.iconst 0, 1) := by decide +kernel
theorem dX3_isDifference_27 : decode cX3_isDifference 27 = .ok (.ireturn, 1) := by decide +kernel
theorem dX3_isDifference_28 : decode cX3_isDifference 28 = .ok (.iinc 3 1, 3) := by decide +kernel
theorem dX3_isDifference_31 : decode cX3_isDifference 31 = .ok (.goto (-29), 3) := by decide +kernel
theorem dX3_isDifference_34 : decode cX3_isDifference 34 = .ok (.iconst 1, 1) := by decide +kernel
theorem dX3_isDifference_35 : decode cX3_isDifference 35 = .ok (.ireturn, 1) := by decide +kernel
set_option maxRecDepth 20000 in
theorem ggX3_fewestNumber_X0_errorWithout : GoodIn wsX3_fewestNumber wsX0_errorWithout := goodIn_r _ [6, 7, 8, 9, 4, 10, 11, 12, 13, 14, 15, 16, 36, 37, 38, 39] (by decide +kernel) (by decide +kernel)
set_option maxRecDepth 20000 in
theorem gX3_fewestNumber_X0_errorWithout_n269 : GoodIn wsX3_fewestNumber (wsX0_errorWithout) := ggX3_fewestNumber_X0_errorWithout
set_option maxRecDepth 20000 in
theorem ggX3_fewestNumber_X3_fewestByDropping : GoodIn wsX3_fewestNumber wsX3_fewestByDropping := goodIn_r _ [21, 1, 22, 23, 24, 20, 25, 30, 31, 32, 33, 34, 35] (by decide +kernel) (by decide +kernel)
set_option maxRecDepth 20000 in
theorem gX3_fewestNumber_X3_fewestByDropping : GoodIn wsX3_fewestNumber (wsV RX3 272 RX3 yX3_fewestByDropping wsX3_fewestByDropping) := goodIn_app (goodIn_of _ (by decide +kernel)) ggX3_fewestNumber_X3_fewestByDropping
set_option maxRecDepth 20000 in
theorem ggX3_fewestNumber_X3_fewestOfAllSets : GoodIn wsX3_fewestNumber wsX3_fewestOfAllSets := goodIn_r _ [29, 1, 30, 31, 32, 33, 34, 35] (by decide +kernel) (by decide +kernel)
set_option maxRecDepth 20000 in
theorem gX3_fewestNumber_X3_fewestOfAllSets : GoodIn wsX3_fewestNumber (wsV RX3 275 RX3 yX3_fewestOfAllSets wsX3_fewestOfAllSets) := goodIn_app (goodIn_of _ (by decide +kernel)) ggX3_fewestNumber_X3_fewestOfAllSets
theorem dX3_fewestNumber_0 : decode cX3_fewestNumber 0 = .ok (.iconst 0, 1) := by decide +kernel
theorem dX3_fewestNumber_1 : decode cX3_fewestNumber 1 = .ok (.istore_n 3, 1) := by decide +kernel
theorem dX3_fewestNumber_2 : decode cX3_fewestNumber 2 = .ok (.iload_n 3, 1) := by decide +kernel
theorem dX3_fewestNumber_3 : decode cX3_fewestNumber 3 = .ok (.bipush 8, 2) := by decide +kernel
theorem dX3_fewestNumber_5 : decode cX3_fewestNumber 5 = .ok (.if_icmp .ge 23, 3) := by decide +kernel
theorem dX3_fewestNumber_8 : decode cX3_fewestNumber 8 = .ok (.aload_n 0, 1) := by decide +kernel
theorem dX3_fewestNumber_9 : decode cX3_fewestNumber 9 = .ok (.getfield 38, 3) := by decide +kernel
theorem dX3_fewestNumber_12 : decode cX3_fewestNumber 12 = .ok (.iload_n 3, 1) := by decide +kernel
theorem dX3_fewestNumber_13 : decode cX3_fewestNumber 13 = .ok (.aload_n 0, 1) := by decide +kernel
theorem dX3_fewestNumber_14 : decode cX3_fewestNumber 14 = .ok (.getfield 12, 3) := by decide +kernel
theorem dX3_fewestNumber_17 : decode cX3_fewestNumber 17 = .ok (.iload_n 3, 1) := by decide +kernel
theorem dX3_fewestNumber_18 : decode cX3_fewestNumber 18 = .ok (.invokevirtual 269, 3) := by decide +kernel
theorem dX3_fewestNumber_21 : decode cX3_fewestNumber 21 = .ok (.iastore, 1) := by decide +kernel
theorem dX3_fewestNumber_22 : decode cX3_fewestNumber 22 = .ok (.iinc 3 1, 3) := by decide +kernel
theorem dX3_fewestNumber_25 : decode cX3_fewestNumber 25 = .ok (.goto (-23), 3) := by decide +kernel
theorem dX3_fewestNumber_28 : decode cX3_fewestNumber 28 = .ok (.iload_n 2, 1) := by decide +kernel
theorem dX3_fewestNumber_29 : decode cX3_fewestNumber 29 = .ok (.ifCond .ne 11, 3) := by decide +kernel
theorem dX3_fewestNumber_32 : decode cX3_fewestNumber 32 = .ok (.aload_n 0, 1) := by decide +kernel
theorem dX3_fewestNumber_33 : decode cX3_fewestNumber 33 = .ok (.iload_n 1, 1) := by decide +kernel
theorem dX3_fewestNumber_34 : decode cX3_fewestNumber 34 = .ok (.invokevirtual 272, 3) := by decide +kernel
theorem dX3_fewestNumber_37 : decode cX3_fewestNumber 37 = .ok (.goto 8, 3) := by decide +kernel
theorem dX3_fewestNumber_40 : decode cX3_fewestNumber 40 = .ok (.aload_n 0, 1) := by decide +kernel
theorem dX3_fewestNumber_41 : decode cX3_fewestNumber 41 = .ok (.iload_n 1, 1) := by decide +kernel
theorem dX3_fewestNumber_42 : decode cX3_fewestNumber 42 = .ok (.invokevirtual 275, 3) := by decide +kernel
theorem dX3_fewestNumber_45 : decode cX3_fewestNumber 45 = .ok (.ireturn, 1) := by decide +kernel
set_option maxRecDepth 20000 in
theorem ggX3_fewestByDropping_X3_leastInRow : GoodIn wsX3_fewestByDropping wsX3_leastInRow := goodIn_r _ [6, 1, 7, 8, 9, 10, 11, 12] (by decide +kernel) (by decide +kernel)
set_option maxRecDepth 20000 in
theorem gX3_fewestByDropping_X3_leastInRow : GoodIn wsX3_fewestByDropping (wsV RX3 278 RX3 yX3_leastInRow wsX3_leastInRow) := goodIn_app (goodIn_of _ (by decide +kernel)) ggX3_fewestByDropping_X3_leastInRow
theorem dX3_fewestByDropping_0 : decode cX3_fewestByDropping 0 = .ok (.iload_n 1, 1) := by decide +kernel
theorem dX3_fewestByDropping_1 : decode cX3_fewestByDropping 1 = .ok (.istore_n 2, 1) := by decide +kernel
theorem dX3_fewestByDropping_2 : decode cX3_fewestByDropping 2 = .ok (.iconst 0, 1) := by decide +kernel
theorem dX3_fewestByDropping_3 : decode cX3_fewestByDropping 3 = .ok (.istore_n 3, 1) := by decide +kernel
theorem dX3_fewestByDropping_4 : decode cX3_fewestByDropping 4 = .ok (.iconst 0, 1) := by decide +kernel
theorem dX3_fewestByDropping_5 : decode cX3_fewestByDropping 5 = .ok (.istore 4, 2) := by decide +kernel
theorem dX3_fewestByDropping_7 : decode cX3_fewestByDropping 7 = .ok (.iload 4, 2) := by decide +kernel
theorem dX3_fewestByDropping_9 : decode cX3_fewestByDropping 9 = .ok (.bipush 8, 2) := by decide +kernel
theorem dX3_fewestByDropping_11 : decode cX3_fewestByDropping 11 = .ok (.if_icmp .ge 27, 3) := by decide +kernel
theorem dX3_fewestByDropping_14 : decode cX3_fewestByDropping 14 = .ok (.iload_n 3, 1) := by decide +kernel
theorem dX3_fewestByDropping_15 : decode cX3_fewestByDropping 15 = .ok (.aload_n 0, 1) := by decide +kernel
theorem dX3_fewestByDropping_16 : decode cX3_fewestByDropping 16 = .ok (.getfield 38, 3) := by decide +kernel
theorem dX3_fewestByDropping_19 : decode cX3_fewestByDropping 19 = .ok (.iload 4, 2) := by decide +kernel
theorem dX3_fewestByDropping_21 : decode cX3_fewestByDropping 21 = .ok (.iaload, 1) := by decide +kernel
theorem dX3_fewestByDropping_22 : decode cX3_fewestByDropping 22 = .ok (.ifCond .le 7, 3) := by decide +kernel
theorem dX3_fewestByDropping_25 : decode cX3_fewestByDropping 25 = .ok (.iconst 1, 1) := by decide +kernel
theorem dX3_fewestByDropping_26 : decode cX3_fewestByDropping 26 = .ok (.goto 4, 3) := by decide +kernel
theorem dX3_fewestByDropping_29 : decode cX3_fewestByDropping 29 = .ok (.iconst 0, 1) := by decide +kernel
theorem dX3_fewestByDropping_30 : decode cX3_fewestByDropping 30 = .ok (.iadd, 1) := by decide +kernel
theorem dX3_fewestByDropping_31 : decode cX3_fewestByDropping 31 = .ok (.istore_n 3, 1) := by decide +kernel
theorem dX3_fewestByDropping_32 : decode cX3_fewestByDropping 32 = .ok (.iinc 4 1, 3) := by decide +kernel
theorem dX3_fewestByDropping_35 : decode cX3_fewestByDropping 35 = .ok (.goto (-28), 3) := by decide +kernel
theorem dX3_fewestByDropping_38 : decode cX3_fewestByDropping 38 = .ok (.iconst 0, 1) := by decide +kernel
theorem dX3_fewestByDropping_39 : decode cX3_fewestByDropping 39 = .ok (.istore 4, 2) := by decide +kernel
theorem dX3_fewestByDropping_41 : decode cX3_fewestByDropping 41 = .ok (.iload 4, 2) := by decide +kernel
theorem dX3_fewestByDropping_43 : decode cX3_fewestByDropping 43 = .ok (.bipush 8, 2) := by decide +kernel
theorem dX3_fewestByDropping_45 : decode cX3_fewestByDropping 45 = .ok (.if_icmp .ge 55, 3) := by decide +kernel
theorem dX3_fewestByDropping_48 : decode cX3_fewestByDropping 48 = .ok (.aload_n 0, 1) := by decide +kernel
theorem dX3_fewestByDropping_49 : decode cX3_fewestByDropping 49 = .ok (.invokevirtual 278, 3) := by decide +kernel
theorem dX3_fewestByDropping_52 : decode cX3_fewestByDropping 52 = .ok (.istore 5, 2) := by decide +kernel
theorem dX3_fewestByDropping_54 : decode cX3_fewestByDropping 54 = .ok (.iload 5, 2) := by decide +kernel
theorem dX3_fewestByDropping_56 : decode cX3_fewestByDropping 56 = .ok (.iconst (-1), 1) := by decide +kernel
theorem dX3_fewestByDropping_57 : decode cX3_fewestByDropping 57 = .ok (.if_icmp .eq 14, 3) := by decide +kernel
theorem dX3_fewestByDropping_60 : decode cX3_fewestByDropping 60 = .ok (.aload_n 0, 1) := by decide +kernel
theorem dX3_fewestByDropping_61 : decode cX3_fewestByDropping 61 = .ok (.getfield 38, 3) := by decide +kernel
theorem dX3_fewestByDropping_64 : decode cX3_fewestByDropping 64 = .ok (.iload 5, 2) := by decide +kernel
theorem dX3_fewestByDropping_66 : decode cX3_fewestByDropping 66 = .ok (.iaload, 1) := by decide +kernel
theorem dX3_fewestByDropping_67 : decode cX3_fewestByDropping 67 = .ok (.iload_n 2, 1) := by decide +kernel
theorem dX3_fewestByDropping_68 : decode cX3_fewestByDropping 68 = .ok (.if_icmp .le 5, 3) := by decide +kernel
theorem dX3_fewestByDropping_71 : decode cX3_fewestByDropping 71 = .ok (.iload_n 3, 1) := by decide +kernel
theorem dX3_fewestByDropping_72 : decode cX3_fewestByDropping 72 = .ok (.ireturn, 1) := by decide +kernel
theorem dX3_fewestByDropping_73 : decode cX3_fewestByDropping 73 = .ok (.iload_n 2, 1) := by decide +kernel
theorem dX3_fewestByDropping_74 : decode cX3_fewestByDropping 74 = .ok (.aload_n 0, 1) := by decide +kernel
theorem dX3_fewestByDropping_75 : decode cX3_fewestByDropping 75 = .ok (.getfield 38, 3) := by decide +kernel
theorem dX3_fewestByDropping_78 : decode cX3_fewestByDropping 78 = .ok (.iload 5, 2) := by decide +kernel
theorem dX3_fewestByDropping_80 : decode cX3_fewestByDropping 80 = .ok (.iaload, 1) := by decide +kernel
theorem dX3_fewestByDropping_81 : decode cX3_fewestByDropping 81 = .ok (.isub, 1) := by decide +kernel
theorem dX3_fewestByDropping_82 : decode cX3_fewestByDropping 82 = .ok (.istore_n 2, 1) := by decide +kernel
theorem dX3_fewestByDropping_83 : decode cX3_fewestByDropping 83 = .ok (.aload_n 0, 1) := by decide +kernel
theorem dX3_fewestByDropping_84 : decode cX3_fewestByDropping 84 = .ok (.getfield 38, 3) := by decide +kernel
theorem dX3_fewestByDropping_87 : decode cX3_fewestByDropping 87 = .ok (.iload 5, 2) := by decide +kernel
theorem dX3_fewestByDropping_89 : decode cX3_fewestByDropping 89 = .ok (.iconst 0, 1) := by decide +kernel
theorem dX3_fewestByDropping_90 : decode cX3_fewestByDropping 90 = .ok (.iastore, 1) := by decide +kernel
theorem dX3_fewestByDropping_91 : decode cX3_fewestByDropping 91 = .ok (.iinc 3 (-1), 3) := by decide +kernel
theorem dX3_fewestByDropping_94 : decode cX3_fewestByDropping 94 = .ok (.iinc 4 1, 3) := by decide +kernel
theorem dX3_fewestByDropping_97 : decode cX3_fewestByDropping 97 = .ok (.goto (-56), 3) := by decide +kernel
theorem dX3_fewestByDropping_100 : decode cX3_fewestByDropping 100 = .ok (.iload_n 3, 1) := by decide +kernel
theorem dX3_fewestByDropping_101 : decode cX3_fewestByDropping 101 = .ok (.ireturn, 1) := by decide +kernel
theorem dX3_leastInRow_0 : decode cX3_leastInRow 0 = .ok (.iconst (-1), 1) := by decide +kernel
theorem dX3_leastInRow_1 : decode cX3_leastInRow 1 = .ok (.istore_n 1, 1) := by decide +kernel
theorem dX3_leastInRow_2 : decode cX3_leastInRow 2 = .ok (.iconst 0, 1) := by decide +kernel
theorem dX3_leastInRow_3 : decode cX3_leastInRow 3 = .ok (.istore_n 2, 1) := by decide +kernel
theorem dX3_leastInRow_4 : decode cX3_leastInRow 4 = .ok (.iload_n 2, 1) := by decide +kernel
theorem dX3_leastInRow_5 : decode cX3_leastInRow 5 = .ok (.bipush 8, 2) := by decide +kernel
theorem dX3_leastInRow_7 : decode cX3_leastInRow 7 = .ok (.if_icmp .ge 40, 3) := by decide +kernel
theorem dX3_leastInRow_10 : decode cX3_leastInRow 10 = .ok (.aload_n 0, 1) := by decide +kernel
theorem dX3_leastInRow_11 : decode cX3_leastInRow 11 = .ok (.getfield 38, 3) := by decide +kernel
theorem dX3_leastInRow_14 : decode cX3_leastInRow 14 = .ok (.iload_n 2, 1) := by decide +kernel
theorem dX3_leastInRow_15 : decode cX3_leastInRow 15 = .ok (.iaload, 1) := by decide +kernel
theorem dX3_leastInRow_16 : decode cX3_leastInRow 16 = .ok (.ifCond .le 25, 3) := by decide +kernel
theorem dX3_leastInRow_19 : decode cX3_leastInRow 19 = .ok (.iload_n 1, 1) := by decide +kernel
theorem dX3_leastInRow_20 : decode cX3_leastInRow 20 = .ok (.iconst (-1), 1) := by decide +kernel
theorem dX3_leastInRow_21 : decode cX3_leastInRow 21 = .ok (.if_icmp .eq 18, 3) := by decide +kernel
theorem dX3_leastInRow_24 : decode cX3_leastInRow 24 = .ok (.aload_n 0, 1) := by decide +kernel
theorem dX3_leastInRow_25 : decode cX3_leastInRow 25 = .ok (.getfield 38, 3) := by decide +kernel
theorem dX3_leastInRow_28 : decode cX3_leastInRow 28 = .ok (.iload_n 2, 1) := by decide +kernel
theorem dX3_leastInRow_29 : decode cX3_leastInRow 29 = .ok (.iaload, 1) := by decide +kernel
theorem dX3_leastInRow_30 : decode cX3_leastInRow 30 = .ok (.aload_n 0, 1) := by decide +kernel
theorem dX3_leastInRow_31 : decode cX3_leastInRow 31 = .ok (.getfield 38, 3) := by decide +kernel
theorem dX3_leastInRow_34 : decode cX3_leastInRow 34 = .ok (.iload_n 1, 1) := by decide +kernel
theorem dX3_leastInRow_35 : decode cX3_leastInRow 35 = .ok (.iaload, 1) := by decide +kernel
theorem dX3_leastInRow_36 : decode cX3_leastInRow 36 = .ok (.if_icmp .ge 5, 3) := by decide +kernel
theorem dX3_leastInRow_39 : decode cX3_leastInRow 39 = .ok (.iload_n 2, 1) := by decide +kernel
theorem dX3_leastInRow_40 : decode cX3_leastInRow 40 = .ok (.istore_n 1, 1) := by decide +kernel
theorem dX3_leastInRow_41 : decode cX3_leastInRow 41 = .ok (.iinc 2 1, 3) := by decide +kernel
theorem dX3_leastInRow_44 : decode cX3_leastInRow 44 = .ok (.goto (-40), 3) := by decide +kernel
theorem dX3_leastInRow_47 : decode cX3_leastInRow 47 = .ok (.iload_n 1, 1) := by decide +kernel
theorem dX3_leastInRow_48 : decode cX3_leastInRow 48 = .ok (.ireturn, 1) := by decide +kernel
theorem dX3_fewestOfAllSets_0 : decode cX3_fewestOfAllSets 0 = .ok (.bipush 8, 2) := by decide +kernel
theorem dX3_fewestOfAllSets_2 : decode cX3_fewestOfAllSets 2 = .ok (.istore_n 2, 1) := by decide +kernel
theorem dX3_fewestOfAllSets_3 : decode cX3_fewestOfAllSets 3 = .ok (.iconst 0, 1) := by decide +kernel
theorem dX3_fewestOfAllSets_4 : decode cX3_fewestOfAllSets 4 = .ok (.istore_n 3, 1) := by decide +kernel
theorem dX3_fewestOfAllSets_5 : decode cX3_fewestOfAllSets 5 = .ok (.iload_n 3, 1) := by decide +kernel
theorem dX3_fewestOfAllSets_6 : decode cX3_fewestOfAllSets 6 = .ok (.sipush 256, 3) := by decide +kernel
theorem dX3_fewestOfAllSets_9 : decode cX3_fewestOfAllSets 9 = .ok (.if_icmp .ge 83, 3) := by decide +kernel
theorem dX3_fewestOfAllSets_12 : decode cX3_fewestOfAllSets 12 = .ok (.iconst 0, 1) := by decide +kernel
theorem dX3_fewestOfAllSets_13 : decode cX3_fewestOfAllSets 13 = .ok (.istore 4, 2) := by decide +kernel
theorem dX3_fewestOfAllSets_15 : decode cX3_fewestOfAllSets 15 = .ok (.iconst 0, 1) := by decide +kernel
theorem dX3_fewestOfAllSets_16 : decode cX3_fewestOfAllSets 16 = .ok (.istore 5, 2) := by decide +kernel
theorem dX3_fewestOfAllSets_18 : decode cX3_fewestOfAllSets 18 = .ok (.iconst 0, 1) := by decide +kernel
theorem dX3_fewestOfAllSets_19 : decode cX3_fewestOfAllSets 19 = .ok (.istore 6, 2) := by decide +kernel
theorem dX3_fewestOfAllSets_21 : decode cX3_fewestOfAllSets 21 = .ok (.iload 6, 2) := by decide +kernel
theorem dX3_fewestOfAllSets_23 : decode cX3_fewestOfAllSets 23 = .ok (.bipush 8, 2) := by decide +kernel
theorem dX3_fewestOfAllSets_25 : decode cX3_fewestOfAllSets 25 = .ok (.if_icmp .ge 46, 3) := by decide +kernel
theorem dX3_fewestOfAllSets_28 : decode cX3_fewestOfAllSets 28 = .ok (.iload_n 3, 1) := by decide +kernel
theorem dX3_fewestOfAllSets_29 : decode cX3_fewestOfAllSets 29 = .ok (.iload 6, 2) := by decide +kernel
theorem dX3_fewestOfAllSets_31 : decode cX3_fewestOfAllSets 31 = .ok (.ishr, 1) := by decide +kernel
theorem dX3_fewestOfAllSets_32 : decode cX3_fewestOfAllSets 32 = .ok (.iconst 1, 1) := by decide +kernel
theorem dX3_fewestOfAllSets_33 : decode cX3_fewestOfAllSets 33 = .ok (.iand, 1) := by decide +kernel
theorem dX3_fewestOfAllSets_34 : decode cX3_fewestOfAllSets 34 = .ok (.ifCond .ne 18, 3) := by decide +kernel
theorem dX3_fewestOfAllSets_37 : decode cX3_fewestOfAllSets 37 = .ok (.iload 5, 2) := by decide +kernel
theorem dX3_fewestOfAllSets_39 : decode cX3_fewestOfAllSets 39 = .ok (.aload_n 0, 1) := by decide +kernel
theorem dX3_fewestOfAllSets_40 : decode cX3_fewestOfAllSets 40 = .ok (.getfield 38, 3) := by decide +kernel
theorem dX3_fewestOfAllSets_43 : decode cX3_fewestOfAllSets 43 = .ok (.iload 6, 2) := by decide +kernel
theorem dX3_fewestOfAllSets_45 : decode cX3_fewestOfAllSets 45 = .ok (.iaload, 1) := by decide +kernel
theorem dX3_fewestOfAllSets_46 : decode cX3_fewestOfAllSets 46 = .ok (.iadd, 1) := by decide +kernel
theorem dX3_fewestOfAllSets_47 : decode cX3_fewestOfAllSets 47 = .ok (.istore 5, 2) := by decide +kernel
theorem dX3_fewestOfAllSets_49 : decode cX3_fewestOfAllSets 49 = .ok (.goto 16, 3) := by decide +kernel
theorem dX3_fewestOfAllSets_52 : decode cX3_fewestOfAllSets 52 = .ok (.aload_n 0, 1) := by decide +kernel
theorem dX3_fewestOfAllSets_53 : decode cX3_fewestOfAllSets 53 = .ok (.getfield 38, 3) := by decide +kernel
theorem dX3_fewestOfAllSets_56 : decode cX3_fewestOfAllSets 56 = .ok (.iload 6, 2) := by decide +kernel
theorem dX3_fewestOfAllSets_58 : decode cX3_fewestOfAllSets 58 = .ok (.iaload, 1) := by decide +kernel
theorem dX3_fewestOfAllSets_59 : decode cX3_fewestOfAllSets 59 = .ok (.ifCond .le 6, 3) := by decide +kernel
theorem dX3_fewestOfAllSets_62 : decode cX3_fewestOfAllSets 62 = .ok (.iinc 4 1, 3) := by decide +kernel
theorem dX3_fewestOfAllSets_65 : decode cX3_fewestOfAllSets 65 = .ok (.iinc 6 1, 3) := by decide +kernel
theorem dX3_fewestOfAllSets_68 : decode cX3_fewestOfAllSets 68 = .ok (.goto (-47), 3) := by decide +kernel
theorem dX3_fewestOfAllSets_71 : decode cX3_fewestOfAllSets 71 = .ok (.iload 5, 2) := by decide +kernel
theorem dX3_fewestOfAllSets_73 : decode cX3_fewestOfAllSets 73 = .ok (.iload_n 1, 1) := by decide +kernel
theorem dX3_fewestOfAllSets_74 : decode cX3_fewestOfAllSets 74 = .ok (.if_icmp .gt 12, 3) := by decide +kernel
theorem dX3_fewestOfAllSets_77 : decode cX3_fewestOfAllSets 77 = .ok (.iload 4, 2) := by decide +kernel
theorem dX3_fewestOfAllSets_79 : decode cX3_fewestOfAllSets 79 = .ok (.iload_n 2, 1) := by decide +kernel
theorem dX3_fewestOfAllSets_80 : decode cX3_fewestOfAllSets 80 = .ok (.if_icmp .ge 6, 3) := by decide +kernel
theorem dX3_fewestOfAllSets_83 : decode cX3_fewestOfAllSets 83 = .ok (.iload 4, 2) := by decide +kernel
theorem dX3_fewestOfAllSets_85 : decode cX3_fewestOfAllSets 85 = .ok (.istore_n 2, 1) := by decide +kernel
theorem dX3_fewestOfAllSets_86 : decode cX3_fewestOfAllSets 86 = .ok (.iinc 3 1, 3) := by decide +kernel
theorem dX3_fewestOfAllSets_89 : decode cX3_fewestOfAllSets 89 = .ok (.goto (-84), 3) := by decide +kernel
theorem dX3_fewestOfAllSets_92 : decode cX3_fewestOfAllSets 92 = .ok (.iload_n 2, 1) := by decide +kernel
theorem dX3_fewestOfAllSets_93 : decode cX3_fewestOfAllSets 93 = .ok (.ireturn, 1) := by decide +kernel
set_option maxRecDepth 20000 in
theorem ggX3_differencesIfTurned_X0_traceAt : GoodIn wsX3_differencesIfTurned wsX0_traceAt := goodIn_r _ [9, 10, 11, 12, 7, 13, 14, 15, 16, 17, 18, 19, 20, 21, 22, 23, 24, 25, 26, 27, 28, 29, 36, 37, 38, 39] (by decide +kernel) (by decide +kernel)
set_option maxRecDepth 20000 in
theorem gX3_differencesIfTurned_X0_traceAt_n96 : GoodIn wsX3_differencesIfTurned (wsX0_traceAt) := ggX3_differencesIfTurned_X0_traceAt
theorem dX3_differencesIfTurned_0 : decode cX3_differencesIfTurned 0 = .ok (.iconst 0, 1) := by decide +kernel
theorem dX3_differencesIfTurned_1 : decode cX3_differencesIfTurned 1 = .ok (.istore_n 2, 1) := by decide +kernel
theorem dX3_differencesIfTurned_2 : decode cX3_differencesIfTurned 2 = .ok (.iconst 0, 1) := by decide +kernel
theorem dX3_differencesIfTurned_3 : decode cX3_differencesIfTurned 3 = .ok (.istore_n 3, 1) := by decide +kernel
theorem dX3_differencesIfTurned_4 : decode cX3_differencesIfTurned 4 = .ok (.iload_n 3, 1) := by decide +kernel
theorem dX3_differencesIfTurned_5 : decode cX3_differencesIfTurned 5 = .ok (.bipush 8, 2) := by decide +kernel
theorem dX3_differencesIfTurned_7 : decode cX3_differencesIfTurned 7 = .ok (.if_icmp .ge 35, 3) := by decide +kernel
theorem dX3_differencesIfTurned_10 : decode cX3_differencesIfTurned 10 = .ok (.iload_n 2, 1) := by decide +kernel
theorem dX3_differencesIfTurned_11 : decode cX3_differencesIfTurned 11 = .ok (.aload_n 0, 1) := by decide +kernel
theorem dX3_differencesIfTurned_12 : decode cX3_differencesIfTurned 12 = .ok (.getfield 12, 3) := by decide +kernel
theorem dX3_differencesIfTurned_15 : decode cX3_differencesIfTurned 15 = .ok (.getfield 93, 3) := by decide +kernel
theorem dX3_differencesIfTurned_18 : decode cX3_differencesIfTurned 18 = .ok (.iload_n 3, 1) := by decide +kernel
theorem dX3_differencesIfTurned_19 : decode cX3_differencesIfTurned 19 = .ok (.iaload, 1) := by decide +kernel
theorem dX3_differencesIfTurned_20 : decode cX3_differencesIfTurned 20 = .ok (.aload_n 0, 1) := by decide +kernel
theorem dX3_differencesIfTurned_21 : decode cX3_differencesIfTurned 21 = .ok (.getfield 12, 3) := by decide +kernel
theorem dX3_differencesIfTurned_24 : decode cX3_differencesIfTurned 24 = .ok (.iload_n 3, 1) := by decide +kernel
theorem dX3_differencesIfTurned_25 : decode cX3_differencesIfTurned 25 = .ok (.iload_n 1, 1) := by decide +kernel
theorem dX3_differencesIfTurned_26 : decode cX3_differencesIfTurned 26 = .ok (.ixor, 1) := by decide +kernel
theorem dX3_differencesIfTurned_27 : decode cX3_differencesIfTurned 27 = .ok (.invokevirtual 96, 3) := by decide +kernel
theorem dX3_differencesIfTurned_30 : decode cX3_differencesIfTurned 30 = .ok (.isub, 1) := by decide +kernel
theorem dX3_differencesIfTurned_31 : decode cX3_differencesIfTurned 31 = .ok (.invokestatic 83, 3) := by decide +kernel
theorem dX3_differencesIfTurned_34 : decode cX3_differencesIfTurned 34 = .ok (.iadd, 1) := by decide +kernel
theorem dX3_differencesIfTurned_35 : decode cX3_differencesIfTurned 35 = .ok (.istore_n 2, 1) := by decide +kernel
theorem dX3_differencesIfTurned_36 : decode cX3_differencesIfTurned 36 = .ok (.iinc 3 1, 3) := by decide +kernel
theorem dX3_differencesIfTurned_39 : decode cX3_differencesIfTurned 39 = .ok (.goto (-35), 3) := by decide +kernel
theorem dX3_differencesIfTurned_42 : decode cX3_differencesIfTurned 42 = .ok (.iload_n 2, 1) := by decide +kernel
theorem dX3_differencesIfTurned_43 : decode cX3_differencesIfTurned 43 = .ok (.ireturn, 1) := by decide +kernel
theorem dX3_hashed_0 : decode cX3_hashed 0 = .ok (.ldc2_w 281, 3) := by decide +kernel
theorem dX3_hashed_3 : decode cX3_hashed 3 = .ok (.lload_n 0, 1) := by decide +kernel
theorem dX3_hashed_4 : decode cX3_hashed 4 = .ok (.lmul, 1) := by decide +kernel
theorem dX3_hashed_5 : decode cX3_hashed 5 = .ok (.lload_n 2, 1) := by decide +kernel
theorem dX3_hashed_6 : decode cX3_hashed 6 = .ok (.ladd, 1) := by decide +kernel
theorem dX3_hashed_7 : decode cX3_hashed 7 = .ok (.lreturn, 1) := by decide +kernel
set_option maxRecDepth 20000 in
theorem ggX3_hashedWheels_X3_wheelNumber : GoodIn wsX3_hashedWheels wsX3_wheelNumber := goodIn_r _ [5, 6, 7, 8, 9, 10, 11, 12, 13, 14, 15, 16, 4, 17, 18, 19, 20, 21, 22, 23, 24, 25, 26, 27, 28, 29, 30, 31, 32, 37, 38, 39, 40, 41, 42, 43, 44, 45, 46] (by decide +kernel) (by decide +kernel)
set_option maxRecDepth 20000 in
theorem gX3_hashedWheels_X3_wheelNumber : GoodIn wsX3_hashedWheels (wsV RX3 167 RX3 yX3_wheelNumber wsX3_wheelNumber) := goodIn_app (goodIn_of _ (by decide +kernel)) ggX3_hashedWheels_X3_wheelNumber
set_option maxRecDepth 20000 in
theorem ggX3_hashedWheels_X3_hashed : GoodIn wsX3_hashedWheels wsX3_hashed := goodIn_r _ [35, 36] (by decide +kernel) (by decide +kernel)
set_option maxRecDepth 20000 in
theorem gX3_hashedWheels_X3_hashed : GoodIn wsX3_hashedWheels (va_wsS RX3 206 yX3_hashed wsX3_hashed) := goodIn_app (goodIn_of _ (by decide +kernel)) ggX3_hashedWheels_X3_hashed
theorem dX3_hashedWheels_0 : decode cX3_hashedWheels 0 = .ok (.lload_n 1, 1) := by decide +kernel
theorem dX3_hashedWheels_1 : decode cX3_hashedWheels 1 = .ok (.lstore_n 3, 1) := by decide +kernel
theorem dX3_hashedWheels_2 : decode cX3_hashedWheels 2 = .ok (.iconst 0, 1) := by decide +kernel
theorem dX3_hashedWheels_3 : decode cX3_hashedWheels 3 = .ok (.istore 5, 2) := by decide +kernel
theorem dX3_hashedWheels_5 : decode cX3_hashedWheels 5 = .ok (.iload 5, 2) := by decide +kernel
theorem dX3_hashedWheels_7 : decode cX3_hashedWheels 7 = .ok (.bipush 8, 2) := by decide +kernel
theorem dX3_hashedWheels_9 : decode cX3_hashedWheels 9 = .ok (.if_icmp .ge 38, 3) := by decide +kernel
theorem dX3_hashedWheels_12 : decode cX3_hashedWheels 12 = .ok (.iconst 0, 1) := by decide +kernel
theorem dX3_hashedWheels_13 : decode cX3_hashedWheels 13 = .ok (.istore 6, 2) := by decide +kernel
theorem dX3_hashedWheels_15 : decode cX3_hashedWheels 15 = .ok (.iload 6, 2) := by decide +kernel
theorem dX3_hashedWheels_17 : decode cX3_hashedWheels 17 = .ok (.iconst 3, 1) := by decide +kernel
theorem dX3_hashedWheels_18 : decode cX3_hashedWheels 18 = .ok (.if_icmp .gt 23, 3) := by decide +kernel
theorem dX3_hashedWheels_21 : decode cX3_hashedWheels 21 = .ok (.lload_n 3, 1) := by decide +kernel
theorem dX3_hashedWheels_22 : decode cX3_hashedWheels 22 = .ok (.aload_n 0, 1) := by decide +kernel
theorem dX3_hashedWheels_23 : decode cX3_hashedWheels 23 = .ok (.iload 5, 2) := by decide +kernel
theorem dX3_hashedWheels_25 : decode cX3_hashedWheels 25 = .ok (.iload 6, 2) := by decide +kernel
theorem dX3_hashedWheels_27 : decode cX3_hashedWheels 27 = .ok (.invokevirtual 167, 3) := by decide +kernel
theorem dX3_hashedWheels_30 : decode cX3_hashedWheels 30 = .ok (.i2l, 1) := by decide +kernel
theorem dX3_hashedWheels_31 : decode cX3_hashedWheels 31 = .ok (.invokestatic 206, 3) := by decide +kernel
theorem dX3_hashedWheels_34 : decode cX3_hashedWheels 34 = .ok (.lstore_n 3, 1) := by decide +kernel
theorem dX3_hashedWheels_35 : decode cX3_hashedWheels 35 = .ok (.iinc 6 1, 3) := by decide +kernel
theorem dX3_hashedWheels_38 : decode cX3_hashedWheels 38 = .ok (.goto (-23), 3) := by decide +kernel
theorem dX3_hashedWheels_41 : decode cX3_hashedWheels 41 = .ok (.iinc 5 1, 3) := by decide +kernel
theorem dX3_hashedWheels_44 : decode cX3_hashedWheels 44 = .ok (.goto (-39), 3) := by decide +kernel
theorem dX3_hashedWheels_47 : decode cX3_hashedWheels 47 = .ok (.lload_n 3, 1) := by decide +kernel
theorem dX3_hashedWheels_48 : decode cX3_hashedWheels 48 = .ok (.lreturn, 1) := by decide +kernel
set_option maxRecDepth 20000 in
theorem ggX3_hashedPoints_X3_traceNumber : GoodIn wsX3_hashedPoints wsX3_traceNumber := goodIn_r _ [5, 6, 7, 8, 9, 10, 11, 12, 13, 14, 15, 16, 17, 18, 19, 20, 21, 22, 4, 23, 24, 25, 26, 27, 28, 29, 30, 31, 32, 33, 34, 51, 52, 53, 54, 55, 56, 57, 58, 59, 60] (by decide +kernel) (by decide +kernel)
set_option maxRecDepth 20000 in
theorem gX3_hashedPoints_X3_traceNumber : GoodIn wsX3_hashedPoints (wsV RX3 172 RX3 yX3_traceNumber wsX3_traceNumber) := goodIn_app (goodIn_of _ (by decide +kernel)) ggX3_hashedPoints_X3_traceNumber
set_option maxRecDepth 20000 in
theorem ggX3_hashedPoints_X3_hashed : GoodIn wsX3_hashedPoints wsX3_hashed := goodIn_r _ [37, 38] (by decide +kernel) (by decide +kernel)
set_option maxRecDepth 20000 in
theorem gX3_hashedPoints_X3_hashed : GoodIn wsX3_hashedPoints (va_wsS RX3 206 yX3_hashed wsX3_hashed) := goodIn_app (goodIn_of _ (by decide +kernel)) ggX3_hashedPoints_X3_hashed
set_option maxRecDepth 20000 in
theorem ggX3_hashedPoints_X3_pointNumber : GoodIn wsX3_hashedPoints wsX3_pointNumber := goodIn_r _ [42, 6, 43, 9, 44, 45, 46, 47, 8, 10, 11, 12, 13, 14, 15, 16, 17, 18, 19, 20, 21, 22, 4, 23, 24, 25, 26, 27, 28, 29, 30, 48, 49, 50, 51, 52, 53, 54, 55, 56, 57, 58, 59, 60] (by decide +kernel) (by decide +kernel)
set_option maxRecDepth 20000 in
theorem gX3_hashedPoints_X3_pointNumber : GoodIn wsX3_hashedPoints (wsV RX3 177 RX3 yX3_pointNumber wsX3_pointNumber) := goodIn_app (goodIn_of _ (by decide +kernel)) ggX3_hashedPoints_X3_pointNumber
theorem dX3_hashedPoints_0 : decode cX3_hashedPoints 0 = .ok (.lload_n 1, 1) := by decide +kernel
theorem dX3_hashedPoints_1 : decode cX3_hashedPoints 1 = .ok (.lstore_n 3, 1) := by decide +kernel
theorem dX3_hashedPoints_2 : decode cX3_hashedPoints 2 = .ok (.iconst 0, 1) := by decide +kernel
theorem dX3_hashedPoints_3 : decode cX3_hashedPoints 3 = .ok (.istore 5, 2) := by decide +kernel
theorem dX3_hashedPoints_5 : decode cX3_hashedPoints 5 = .ok (.iload 5, 2) := by decide +kernel
theorem dX3_hashedPoints_7 : decode cX3_hashedPoints 7 = .ok (.bipush 8, 2) := by decide +kernel
theorem dX3_hashedPoints_9 : decode cX3_hashedPoints 9 = .ok (.if_icmp .ge 64, 3) := by decide +kernel
theorem dX3_hashedPoints_12 : decode cX3_hashedPoints 12 = .ok (.lload_n 3, 1) := by decide +kernel
theorem dX3_hashedPoints_13 : decode cX3_hashedPoints 13 = .ok (.aload_n 0, 1) := by decide +kernel
theorem dX3_hashedPoints_14 : decode cX3_hashedPoints 14 = .ok (.iload 5, 2) := by decide +kernel
theorem dX3_hashedPoints_16 : decode cX3_hashedPoints 16 = .ok (.iconst 0, 1) := by decide +kernel
theorem dX3_hashedPoints_17 : decode cX3_hashedPoints 17 = .ok (.invokevirtual 172, 3) := by decide +kernel
theorem dX3_hashedPoints_20 : decode cX3_hashedPoints 20 = .ok (.i2l, 1) := by decide +kernel
theorem dX3_hashedPoints_21 : decode cX3_hashedPoints 21 = .ok (.invokestatic 206, 3) := by decide +kernel
theorem dX3_hashedPoints_24 : decode cX3_hashedPoints 24 = .ok (.lstore_n 3, 1) := by decide +kernel
theorem dX3_hashedPoints_25 : decode cX3_hashedPoints 25 = .ok (.lload_n 3, 1) := by decide +kernel
theorem dX3_hashedPoints_26 : decode cX3_hashedPoints 26 = .ok (.aload_n 0, 1) := by decide +kernel
theorem dX3_hashedPoints_27 : decode cX3_hashedPoints 27 = .ok (.iload 5, 2) := by decide +kernel
theorem dX3_hashedPoints_29 : decode cX3_hashedPoints 29 = .ok (.iconst 1, 1) := by decide +kernel
theorem dX3_hashedPoints_30 : decode cX3_hashedPoints 30 = .ok (.invokevirtual 172, 3) := by decide +kernel
theorem dX3_hashedPoints_33 : decode cX3_hashedPoints 33 = .ok (.i2l, 1) := by decide +kernel
theorem dX3_hashedPoints_34 : decode cX3_hashedPoints 34 = .ok (.invokestatic 206, 3) := by decide +kernel
theorem dX3_hashedPoints_37 : decode cX3_hashedPoints 37 = .ok (.lstore_n 3, 1) := by decide +kernel
theorem dX3_hashedPoints_38 : decode cX3_hashedPoints 38 = .ok (.iconst 0, 1) := by decide +kernel
theorem dX3_hashedPoints_39 : decode cX3_hashedPoints 39 = .ok (.istore 6, 2) := by decide +kernel
theorem dX3_hashedPoints_41 : decode cX3_hashedPoints 41 = .ok (.iload 6, 2) := by decide +kernel
theorem dX3_hashedPoints_43 : decode cX3_hashedPoints 43 = .ok (.iconst 2, 1) := by decide +kernel
theorem dX3_hashedPoints_44 : decode cX3_hashedPoints 44 = .ok (.if_icmp .gt 23, 3) := by decide +kernel
theorem dX3_hashedPoints_47 : decode cX3_hashedPoints 47 = .ok (.lload_n 3, 1) := by decide +kernel
theorem dX3_hashedPoints_48 : decode cX3_hashedPoints 48 = .ok (.aload_n 0, 1) := by decide +kernel
theorem dX3_hashedPoints_49 : decode cX3_hashedPoints 49 = .ok (.iload 5, 2) := by decide +kernel
theorem dX3_hashedPoints_51 : decode cX3_hashedPoints 51 = .ok (.iload 6, 2) := by decide +kernel
theorem dX3_hashedPoints_53 : decode cX3_hashedPoints 53 = .ok (.invokevirtual 177, 3) := by decide +kernel
theorem dX3_hashedPoints_56 : decode cX3_hashedPoints 56 = .ok (.i2l, 1) := by decide +kernel
theorem dX3_hashedPoints_57 : decode cX3_hashedPoints 57 = .ok (.invokestatic 206, 3) := by decide +kernel
theorem dX3_hashedPoints_60 : decode cX3_hashedPoints 60 = .ok (.lstore_n 3, 1) := by decide +kernel
theorem dX3_hashedPoints_61 : decode cX3_hashedPoints 61 = .ok (.iinc 6 1, 3) := by decide +kernel
theorem dX3_hashedPoints_64 : decode cX3_hashedPoints 64 = .ok (.goto (-23), 3) := by decide +kernel
theorem dX3_hashedPoints_67 : decode cX3_hashedPoints 67 = .ok (.iinc 5 1, 3) := by decide +kernel
theorem dX3_hashedPoints_70 : decode cX3_hashedPoints 70 = .ok (.goto (-65), 3) := by decide +kernel
theorem dX3_hashedPoints_73 : decode cX3_hashedPoints 73 = .ok (.lload_n 3, 1) := by decide +kernel
theorem dX3_hashedPoints_74 : decode cX3_hashedPoints 74 = .ok (.lreturn, 1) := by decide +kernel
set_option maxRecDepth 20000 in
theorem ggX3_hashedFewest_X3_fewestNumber : GoodIn wsX3_hashedFewest wsX3_fewestNumber := goodIn_r _ [5, 6, 7, 8, 9, 10, 11, 12, 13, 14, 15, 16, 17, 18, 19, 20, 21, 22, 23, 24, 4, 25, 26, 27, 28, 29, 30, 31, 32, 33, 38, 39, 40, 41, 42, 43, 44, 45, 46, 47] (by decide +kernel) (by decide +kernel)
set_option maxRecDepth 20000 in
theorem gX3_hashedFewest_X3_fewestNumber : GoodIn wsX3_hashedFewest (wsV RX3 195 RX3 yX3_fewestNumber wsX3_fewestNumber) := goodIn_app (goodIn_of _ (by decide +kernel)) ggX3_hashedFewest_X3_fewestNumber
set_option maxRecDepth 20000 in
theorem ggX3_hashedFewest_X3_hashed : GoodIn wsX3_hashedFewest wsX3_hashed := goodIn_r _ [36, 37] (by decide +kernel) (by decide +kernel)
set_option maxRecDepth 20000 in
theorem gX3_hashedFewest_X3_hashed : GoodIn wsX3_hashedFewest (va_wsS RX3 206 yX3_hashed wsX3_hashed) := goodIn_app (goodIn_of _ (by decide +kernel)) ggX3_hashedFewest_X3_hashed
theorem dX3_hashedFewest_0 : decode cX3_hashedFewest 0 = .ok (.lload_n 1, 1) := by decide +kernel
theorem dX3_hashedFewest_1 : decode cX3_hashedFewest 1 = .ok (.aload_n 0, 1) := by decide +kernel
theorem dX3_hashedFewest_2 : decode cX3_hashedFewest 2 = .ok (.iload_n 3, 1) := by decide +kernel
theorem dX3_hashedFewest_3 : decode cX3_hashedFewest 3 = .ok (.iconst 0, 1) := by decide +kernel
theorem dX3_hashedFewest_4 : decode cX3_hashedFewest 4 = .ok (.invokevirtual 195, 3) := by decide +kernel
theorem dX3_hashedFewest_7 : decode cX3_hashedFewest 7 = .ok (.i2l, 1) := by decide +kernel
theorem dX3_hashedFewest_8 : decode cX3_hashedFewest 8 = .ok (.invokestatic 206, 3) := by decide +kernel
theorem dX3_hashedFewest_11 : decode cX3_hashedFewest 11 = .ok (.lstore 4, 2) := by decide +kernel
theorem dX3_hashedFewest_13 : decode cX3_hashedFewest 13 = .ok (.lload 4, 2) := by decide +kernel
theorem dX3_hashedFewest_15 : decode cX3_hashedFewest 15 = .ok (.aload_n 0, 1) := by decide +kernel
theorem dX3_hashedFewest_16 : decode cX3_hashedFewest 16 = .ok (.iload_n 3, 1) := by decide +kernel
theorem dX3_hashedFewest_17 : decode cX3_hashedFewest 17 = .ok (.iconst 1, 1) := by decide +kernel
theorem dX3_hashedFewest_18 : decode cX3_hashedFewest 18 = .ok (.invokevirtual 195, 3) := by decide +kernel
theorem dX3_hashedFewest_21 : decode cX3_hashedFewest 21 = .ok (.i2l, 1) := by decide +kernel
theorem dX3_hashedFewest_22 : decode cX3_hashedFewest 22 = .ok (.invokestatic 206, 3) := by decide +kernel
theorem dX3_hashedFewest_25 : decode cX3_hashedFewest 25 = .ok (.lreturn, 1) := by decide +kernel
theorem dX3_bitsOfShare_0 : decode cX3_bitsOfShare 0 = .ok (.dload_n 0, 1) := by decide +kernel
theorem dX3_bitsOfShare_1 : decode cX3_bitsOfShare 1 = .ok (.dconst 0, 1) := by decide +kernel
theorem dX3_bitsOfShare_2 : decode cX3_bitsOfShare 2 = .ok (.dcmp .g, 1) := by decide +kernel
theorem dX3_bitsOfShare_3 : decode cX3_bitsOfShare 3 = .ok (.ifCond .gt 5, 3) := by decide +kernel
theorem dX3_bitsOfShare_6 : decode cX3_bitsOfShare 6 = .ok (.lconst 0, 1) := by decide +kernel
theorem dX3_bitsOfShare_7 : decode cX3_bitsOfShare 7 = .ok (.lreturn, 1) := by decide +kernel
theorem dX3_bitsOfShare_8 : decode cX3_bitsOfShare 8 = .ok (.dload_n 0, 1) := by decide +kernel
theorem dX3_bitsOfShare_9 : decode cX3_bitsOfShare 9 = .ok (.dstore_n 2, 1) := by decide +kernel
theorem dX3_bitsOfShare_10 : decode cX3_bitsOfShare 10 = .ok (.ldc2_w 283, 3) := by decide +kernel
theorem dX3_bitsOfShare_13 : decode cX3_bitsOfShare 13 = .ok (.lstore 4, 2) := by decide +kernel
theorem dX3_bitsOfShare_15 : decode cX3_bitsOfShare 15 = .ok (.iconst 0, 1) := by decide +kernel
theorem dX3_bitsOfShare_16 : decode cX3_bitsOfShare 16 = .ok (.istore 6, 2) := by decide +kernel
theorem dX3_bitsOfShare_18 : decode cX3_bitsOfShare 18 = .ok (.iload 6, 2) := by decide +kernel
theorem dX3_bitsOfShare_20 : decode cX3_bitsOfShare 20 = .ok (.bipush 8, 2) := by decide +kernel
theorem dX3_bitsOfShare_22 : decode cX3_bitsOfShare 22 = .ok (.if_icmp .ge 27, 3) := by decide +kernel
theorem dX3_bitsOfShare_25 : decode cX3_bitsOfShare 25 = .ok (.dload_n 2, 1) := by decide +kernel
theorem dX3_bitsOfShare_26 : decode cX3_bitsOfShare 26 = .ok (.dconst 1, 1) := by decide +kernel
theorem dX3_bitsOfShare_27 : decode cX3_bitsOfShare 27 = .ok (.dcmp .g, 1) := by decide +kernel
theorem dX3_bitsOfShare_28 : decode cX3_bitsOfShare 28 = .ok (.ifCond .ge 21, 3) := by decide +kernel
theorem dX3_bitsOfShare_31 : decode cX3_bitsOfShare 31 = .ok (.dload_n 2, 1) := by decide +kernel
theorem dX3_bitsOfShare_32 : decode cX3_bitsOfShare 32 = .ok (.ldc2_w 285, 3) := by decide +kernel
theorem dX3_bitsOfShare_35 : decode cX3_bitsOfShare 35 = .ok (.dmul, 1) := by decide +kernel
theorem dX3_bitsOfShare_36 : decode cX3_bitsOfShare 36 = .ok (.dstore_n 2, 1) := by decide +kernel
theorem dX3_bitsOfShare_37 : decode cX3_bitsOfShare 37 = .ok (.lload 4, 2) := by decide +kernel
theorem dX3_bitsOfShare_39 : decode cX3_bitsOfShare 39 = .ok (.lconst 1, 1) := by decide +kernel
theorem dX3_bitsOfShare_40 : decode cX3_bitsOfShare 40 = .ok (.lsub, 1) := by decide +kernel
theorem dX3_bitsOfShare_41 : decode cX3_bitsOfShare 41 = .ok (.lstore 4, 2) := by decide +kernel
theorem dX3_bitsOfShare_43 : decode cX3_bitsOfShare 43 = .ok (.iinc 6 1, 3) := by decide +kernel
theorem dX3_bitsOfShare_46 : decode cX3_bitsOfShare 46 = .ok (.goto (-28), 3) := by decide +kernel
theorem dX3_bitsOfShare_49 : decode cX3_bitsOfShare 49 = .ok (.dload_n 2, 1) := by decide +kernel
theorem dX3_bitsOfShare_50 : decode cX3_bitsOfShare 50 = .ok (.ldc2_w 287, 3) := by decide +kernel
theorem dX3_bitsOfShare_53 : decode cX3_bitsOfShare 53 = .ok (.dmul, 1) := by decide +kernel
theorem dX3_bitsOfShare_54 : decode cX3_bitsOfShare 54 = .ok (.d2l, 1) := by decide +kernel
theorem dX3_bitsOfShare_55 : decode cX3_bitsOfShare 55 = .ok (.lstore 6, 2) := by decide +kernel
theorem dX3_bitsOfShare_57 : decode cX3_bitsOfShare 57 = .ok (.lload 4, 2) := by decide +kernel
theorem dX3_bitsOfShare_59 : decode cX3_bitsOfShare 59 = .ok (.bipush 52, 2) := by decide +kernel
theorem dX3_bitsOfShare_61 : decode cX3_bitsOfShare 61 = .ok (.lshl, 1) := by decide +kernel
theorem dX3_bitsOfShare_62 : decode cX3_bitsOfShare 62 = .ok (.lload 6, 2) := by decide +kernel
theorem dX3_bitsOfShare_64 : decode cX3_bitsOfShare 64 = .ok (.ldc2_w 289, 3) := by decide +kernel
theorem dX3_bitsOfShare_67 : decode cX3_bitsOfShare 67 = .ok (.lsub, 1) := by decide +kernel
theorem dX3_bitsOfShare_68 : decode cX3_bitsOfShare 68 = .ok (.ladd, 1) := by decide +kernel
theorem dX3_bitsOfShare_69 : decode cX3_bitsOfShare 69 = .ok (.lreturn, 1) := by decide +kernel
end
section
theorem dX4_init_0 : decode cX4_init 0 = .ok (.aload_n 0, 1) := by decide +kernel
theorem dX4_init_1 : decode cX4_init 1 = .ok (.invokespecial 1, 3) := by decide +kernel
theorem dX4_init_4 : decode cX4_init 4 = .ok (.aload_n 0, 1) := by decide +kernel
theorem dX4_init_5 : decode cX4_init 5 = .ok (.bipush 25, 2) := by decide +kernel
theorem dX4_init_7 : decode cX4_init 7 = .ok (.newarray .int, 2) := by decide +kernel
theorem dX4_init_9 : decode cX4_init 9 = .ok (.putfield 7, 3) := by decide +kernel
theorem dX4_init_12 : decode cX4_init 12 = .ok (.aload_n 0, 1) := by decide +kernel
theorem dX4_init_13 : decode cX4_init 13 = .ok (.sipush 150, 3) := by decide +kernel
theorem dX4_init_16 : decode cX4_init 16 = .ok (.newarray .int, 2) := by decide +kernel
theorem dX4_init_18 : decode cX4_init 18 = .ok (.putfield 13, 3) := by decide +kernel
theorem dX4_init_21 : decode cX4_init 21 = .ok (.aload_n 0, 1) := by decide +kernel
theorem dX4_init_22 : decode cX4_init 22 = .ok (.bipush 50, 2) := by decide +kernel
theorem dX4_init_24 : decode cX4_init 24 = .ok (.newarray .int, 2) := by decide +kernel
theorem dX4_init_26 : decode cX4_init 26 = .ok (.putfield 16, 3) := by decide +kernel
theorem dX4_init_29 : decode cX4_init 29 = .ok (.aload_n 0, 1) := by decide +kernel
theorem dX4_init_30 : decode cX4_init 30 = .ok (.iconst 2, 1) := by decide +kernel
theorem dX4_init_31 : decode cX4_init 31 = .ok (.newarray .boolean, 2) := by decide +kernel
theorem dX4_init_33 : decode cX4_init 33 = .ok (.putfield 19, 3) := by decide +kernel
theorem dX4_init_36 : decode cX4_init 36 = .ok (.aload_n 0, 1) := by decide +kernel
theorem dX4_init_37 : decode cX4_init 37 = .ok (.bipush 60, 2) := by decide +kernel
theorem dX4_init_39 : decode cX4_init 39 = .ok (.newarray .int, 2) := by decide +kernel
theorem dX4_init_41 : decode cX4_init 41 = .ok (.putfield 23, 3) := by decide +kernel
theorem dX4_init_44 : decode cX4_init 44 = .ok (.aload_n 0, 1) := by decide +kernel
theorem dX4_init_45 : decode cX4_init 45 = .ok (.bipush 8, 2) := by decide +kernel
theorem dX4_init_47 : decode cX4_init 47 = .ok (.newarray .boolean, 2) := by decide +kernel
theorem dX4_init_49 : decode cX4_init 49 = .ok (.putfield 26, 3) := by decide +kernel
theorem dX4_init_52 : decode cX4_init 52 = .ok (.aload_n 0, 1) := by decide +kernel
theorem dX4_init_53 : decode cX4_init 53 = .ok (.getfield 7, 3) := by decide +kernel
theorem dX4_init_56 : decode cX4_init 56 = .ok (.bipush 24, 2) := by decide +kernel
theorem dX4_init_58 : decode cX4_init 58 = .ok (.iconst 0, 1) := by decide +kernel
theorem dX4_init_59 : decode cX4_init 59 = .ok (.iastore, 1) := by decide +kernel
theorem dX4_init_60 : decode cX4_init 60 = .ok (.return_, 1) := by decide +kernel
theorem dX4_thrown_0 : decode cX4_thrown 0 = .ok (.aload_n 0, 1) := by decide +kernel
theorem dX4_thrown_1 : decode cX4_thrown 1 = .ok (.getfield 29, 3) := by decide +kernel
theorem dX4_thrown_4 : decode cX4_thrown 4 = .ok (.ireturn, 1) := by decide +kernel
theorem dX4_in_0 : decode cX4_in 0 = .ok (.iload_n 0, 1) := by decide +kernel
theorem dX4_in_1 : decode cX4_in 1 = .ok (.iload_n 1, 1) := by decide +kernel
theorem dX4_in_2 : decode cX4_in 2 = .ok (.if_icmp .lt 12, 3) := by decide +kernel
theorem dX4_in_5 : decode cX4_in 5 = .ok (.iload_n 0, 1) := by decide +kernel
theorem dX4_in_6 : decode cX4_in 6 = .ok (.iload_n 2, 1) := by decide +kernel
theorem dX4_in_7 : decode cX4_in 7 = .ok (.if_icmp .gt 7, 3) := by decide +kernel
theorem dX4_in_10 : decode cX4_in 10 = .ok (.iconst 1, 1) := by decide +kernel
theorem dX4_in_11 : decode cX4_in 11 = .ok (.goto 4, 3) := by decide +kernel
theorem dX4_in_14 : decode cX4_in 14 = .ok (.iconst 0, 1) := by decide +kernel
theorem dX4_in_15 : decode cX4_in 15 = .ok (.ireturn, 1) := by decide +kernel
set_option maxRecDepth 20000 in
theorem ggX4_isOne_X4_in : GoodIn wsX4_isOne wsX4_in := goodIn_r _ [4] (by decide +kernel) (by decide +kernel)
set_option maxRecDepth 20000 in
theorem gX4_isOne_X4_in : GoodIn wsX4_isOne (va_wsS RX4 33 yX4_in wsX4_in) := goodIn_app (goodIn_of _ (by decide +kernel)) ggX4_isOne_X4_in
theorem dX4_isOne_0 : decode cX4_isOne 0 = .ok (.iload_n 0, 1) := by decide +kernel
theorem dX4_isOne_1 : decode cX4_isOne 1 = .ok (.iconst 0, 1) := by decide +kernel
theorem dX4_isOne_2 : decode cX4_isOne 2 = .ok (.bipush 7, 2) := by decide +kernel
theorem dX4_isOne_4 : decode cX4_isOne 4 = .ok (.invokestatic 33, 3) := by decide +kernel
theorem dX4_isOne_7 : decode cX4_isOne 7 = .ok (.ireturn, 1) := by decide +kernel
theorem dX4_amount_0 : decode cX4_amount 0 = .ok (.iload_n 0, 1) := by decide +kernel
theorem dX4_amount_1 : decode cX4_amount 1 = .ok (.ifCond .ge 8, 3) := by decide +kernel
theorem dX4_amount_4 : decode cX4_amount 4 = .ok (.iload_n 0, 1) := by decide +kernel
theorem dX4_amount_5 : decode cX4_amount 5 = .ok (.ineg, 1) := by decide +kernel
theorem dX4_amount_6 : decode cX4_amount 6 = .ok (.goto 4, 3) := by decide +kernel
theorem dX4_amount_9 : decode cX4_amount 9 = .ok (.iload_n 0, 1) := by decide +kernel
theorem dX4_amount_10 : decode cX4_amount 10 = .ok (.ireturn, 1) := by decide +kernel
theorem dX4_wave_0 : decode cX4_wave 0 = .ok (.iload_n 0, 1) := by decide +kernel
theorem dX4_wave_1 : decode cX4_wave 1 = .ok (.iload_n 1, 1) := by decide +kernel
theorem dX4_wave_2 : decode cX4_wave 2 = .ok (.iand, 1) := by decide +kernel
theorem dX4_wave_3 : decode cX4_wave 3 = .ok (.istore_n 2, 1) := by decide +kernel
theorem dX4_wave_4 : decode cX4_wave 4 = .ok (.iload_n 2, 1) := by decide +kernel
theorem dX4_wave_5 : decode cX4_wave 5 = .ok (.iload_n 2, 1) := by decide +kernel
theorem dX4_wave_6 : decode cX4_wave 6 = .ok (.iconst 1, 1) := by decide +kernel
theorem dX4_wave_7 : decode cX4_wave 7 = .ok (.ishr, 1) := by decide +kernel
theorem dX4_wave_8 : decode cX4_wave 8 = .ok (.ixor, 1) := by decide +kernel
theorem dX4_wave_9 : decode cX4_wave 9 = .ok (.iload_n 2, 1) := by decide +kernel
theorem dX4_wave_10 : decode cX4_wave 10 = .ok (.iconst 2, 1) := by decide +kernel
theorem dX4_wave_11 : decode cX4_wave 11 = .ok (.ishr, 1) := by decide +kernel
theorem dX4_wave_12 : decode cX4_wave 12 = .ok (.ixor, 1) := by decide +kernel
theorem dX4_wave_13 : decode cX4_wave 13 = .ok (.iconst 1, 1) := by decide +kernel
theorem dX4_wave_14 : decode cX4_wave 14 = .ok (.iand, 1) := by decide +kernel
theorem dX4_wave_15 : decode cX4_wave 15 = .ok (.ifCond .ne 7, 3) := by decide +kernel
theorem dX4_wave_18 : decode cX4_wave 18 = .ok (.iconst 1, 1) := by decide +kernel
theorem dX4_wave_19 : decode cX4_wave 19 = .ok (.goto 4, 3) := by decide +kernel
theorem dX4_wave_22 : decode cX4_wave 22 = .ok (.iconst (-1), 1) := by decide +kernel
theorem dX4_wave_23 : decode cX4_wave 23 = .ok (.ireturn, 1) := by decide +kernel
theorem dX4_used_0 : decode cX4_used 0 = .ok (.aload_n 0, 1) := by decide +kernel
theorem dX4_used_1 : decode cX4_used 1 = .ok (.getfield 7, 3) := by decide +kernel
theorem dX4_used_4 : decode cX4_used 4 = .ok (.bipush 8, 2) := by decide +kernel
theorem dX4_used_6 : decode cX4_used 6 = .ok (.iload_n 1, 1) := by decide +kernel
theorem dX4_used_7 : decode cX4_used 7 = .ok (.iadd, 1) := by decide +kernel
theorem dX4_used_8 : decode cX4_used 8 = .ok (.iaload, 1) := by decide +kernel
theorem dX4_used_9 : decode cX4_used 9 = .ok (.iconst 1, 1) := by decide +kernel
theorem dX4_used_10 : decode cX4_used 10 = .ok (.if_icmp .ne 7, 3) := by decide +kernel
theorem dX4_used_13 : decode cX4_used 13 = .ok (.iconst 0, 1) := by decide +kernel
theorem dX4_used_14 : decode cX4_used 14 = .ok (.goto 9, 3) := by decide +kernel
theorem dX4_used_17 : decode cX4_used 17 = .ok (.aload_n 0, 1) := by decide +kernel
theorem dX4_used_18 : decode cX4_used 18 = .ok (.getfield 7, 3) := by decide +kernel
theorem dX4_used_21 : decode cX4_used 21 = .ok (.iload_n 1, 1) := by decide +kernel
theorem dX4_used_22 : decode cX4_used 22 = .ok (.iaload, 1) := by decide +kernel
theorem dX4_used_23 : decode cX4_used 23 = .ok (.ireturn, 1) := by decide +kernel
set_option maxRecDepth 20000 in
theorem ggX4_traceAt_X4_used : GoodIn wsX4_traceAt wsX4_used := goodIn_r _ [5, 6, 10, 11, 12, 13, 14, 15, 16, 17, 18, 19, 20, 21] (by decide +kernel) (by decide +kernel)
set_option maxRecDepth 20000 in
theorem gX4_traceAt_X4_used : GoodIn wsX4_traceAt (wsV RX4 37 RX4 yX4_used wsX4_used) := goodIn_app (goodIn_of _ (by decide +kernel)) ggX4_traceAt_X4_used
set_option maxRecDepth 20000 in
theorem ggX4_traceAt_X4_wave : GoodIn wsX4_traceAt wsX4_wave := goodIn_r _ [9] (by decide +kernel) (by decide +kernel)
set_option maxRecDepth 20000 in
theorem gX4_traceAt_X4_wave : GoodIn wsX4_traceAt (va_wsS RX4 41 yX4_wave wsX4_wave) := goodIn_app (goodIn_of _ (by decide +kernel)) ggX4_traceAt_X4_wave
theorem dX4_traceAt_0 : decode cX4_traceAt 0 = .ok (.iconst 0, 1) := by decide +kernel
theorem dX4_traceAt_1 : decode cX4_traceAt 1 = .ok (.istore_n 2, 1) := by decide +kernel
theorem dX4_traceAt_2 : decode cX4_traceAt 2 = .ok (.iconst 0, 1) := by decide +kernel
theorem dX4_traceAt_3 : decode cX4_traceAt 3 = .ok (.istore_n 3, 1) := by decide +kernel
theorem dX4_traceAt_4 : decode cX4_traceAt 4 = .ok (.iload_n 3, 1) := by decide +kernel
theorem dX4_traceAt_5 : decode cX4_traceAt 5 = .ok (.bipush 8, 2) := by decide +kernel
theorem dX4_traceAt_7 : decode cX4_traceAt 7 = .ok (.if_icmp .ge 23, 3) := by decide +kernel
theorem dX4_traceAt_10 : decode cX4_traceAt 10 = .ok (.iload_n 2, 1) := by decide +kernel
theorem dX4_traceAt_11 : decode cX4_traceAt 11 = .ok (.aload_n 0, 1) := by decide +kernel
theorem dX4_traceAt_12 : decode cX4_traceAt 12 = .ok (.iload_n 3, 1) := by decide +kernel
theorem dX4_traceAt_13 : decode cX4_traceAt 13 = .ok (.invokevirtual 37, 3) := by decide +kernel
theorem dX4_traceAt_16 : decode cX4_traceAt 16 = .ok (.iload_n 3, 1) := by decide +kernel
theorem dX4_traceAt_17 : decode cX4_traceAt 17 = .ok (.iload_n 1, 1) := by decide +kernel
theorem dX4_traceAt_18 : decode cX4_traceAt 18 = .ok (.invokestatic 41, 3) := by decide +kernel
theorem dX4_traceAt_21 : decode cX4_traceAt 21 = .ok (.imul, 1) := by decide +kernel
theorem dX4_traceAt_22 : decode cX4_traceAt 22 = .ok (.iadd, 1) := by decide +kernel
theorem dX4_traceAt_23 : decode cX4_traceAt 23 = .ok (.istore_n 2, 1) := by decide +kernel
theorem dX4_traceAt_24 : decode cX4_traceAt 24 = .ok (.iinc 3 1, 3) := by decide +kernel
theorem dX4_traceAt_27 : decode cX4_traceAt 27 = .ok (.goto (-23), 3) := by decide +kernel
theorem dX4_traceAt_30 : decode cX4_traceAt 30 = .ok (.iload_n 2, 1) := by decide +kernel
theorem dX4_traceAt_31 : decode cX4_traceAt 31 = .ok (.ireturn, 1) := by decide +kernel
set_option maxRecDepth 20000 in
theorem ggX4_difference_X4_traceAt : GoodIn wsX4_difference wsX4_traceAt := goodIn_r _ [6, 7, 8, 9, 5, 10, 1, 11, 12, 13, 14, 15, 16, 17, 18, 19, 20, 21, 22, 23, 24, 25] (by decide +kernel) (by decide +kernel)
set_option maxRecDepth 20000 in
theorem gX4_difference_X4_traceAt : GoodIn wsX4_difference (wsV RX4 45 RX4 yX4_traceAt wsX4_traceAt) := goodIn_app (goodIn_of _ (by decide +kernel)) ggX4_difference_X4_traceAt
theorem dX4_difference_0 : decode cX4_difference 0 = .ok (.aload_n 0, 1) := by decide +kernel
theorem dX4_difference_1 : decode cX4_difference 1 = .ok (.getfield 7, 3) := by decide +kernel
theorem dX4_difference_4 : decode cX4_difference 4 = .ok (.bipush 16, 2) := by decide +kernel
theorem dX4_difference_6 : decode cX4_difference 6 = .ok (.iload_n 1, 1) := by decide +kernel
theorem dX4_difference_7 : decode cX4_difference 7 = .ok (.iadd, 1) := by decide +kernel
theorem dX4_difference_8 : decode cX4_difference 8 = .ok (.iaload, 1) := by decide +kernel
theorem dX4_difference_9 : decode cX4_difference 9 = .ok (.aload_n 0, 1) := by decide +kernel
theorem dX4_difference_10 : decode cX4_difference 10 = .ok (.iload_n 1, 1) := by decide +kernel
theorem dX4_difference_11 : decode cX4_difference 11 = .ok (.invokevirtual 45, 3) := by decide +kernel
theorem dX4_difference_14 : decode cX4_difference 14 = .ok (.isub, 1) := by decide +kernel
theorem dX4_difference_15 : decode cX4_difference 15 = .ok (.ireturn, 1) := by decide +kernel
set_option maxRecDepth 20000 in
theorem ggX4_jump_X4_traceAt : GoodIn wsX4_jump wsX4_traceAt := goodIn_r _ [5, 6, 7, 8, 4, 9, 10, 11, 12, 13, 14, 15, 16, 17, 18, 19, 20, 21, 22, 23, 24, 25] (by decide +kernel) (by decide +kernel)
set_option maxRecDepth 20000 in
theorem gX4_jump_X4_traceAt : GoodIn wsX4_jump (wsV RX4 45 RX4 yX4_traceAt wsX4_traceAt) := goodIn_app (goodIn_of _ (by decide +kernel)) ggX4_jump_X4_traceAt
theorem dX4_jump_0 : decode cX4_jump 0 = .ok (.aload_n 0, 1) := by decide +kernel
theorem dX4_jump_1 : decode cX4_jump 1 = .ok (.iload_n 1, 1) := by decide +kernel
theorem dX4_jump_2 : decode cX4_jump 2 = .ok (.iconst 1, 1) := by decide +kernel
theorem dX4_jump_3 : decode cX4_jump 3 = .ok (.iadd, 1) := by decide +kernel
theorem dX4_jump_4 : decode cX4_jump 4 = .ok (.bipush 8, 2) := by decide +kernel
theorem dX4_jump_6 : decode cX4_jump 6 = .ok (.irem, 1) := by decide +kernel
theorem dX4_jump_7 : decode cX4_jump 7 = .ok (.invokevirtual 45, 3) := by decide +kernel
theorem dX4_jump_10 : decode cX4_jump 10 = .ok (.aload_n 0, 1) := by decide +kernel
theorem dX4_jump_11 : decode cX4_jump 11 = .ok (.iload_n 1, 1) := by decide +kernel
theorem dX4_jump_12 : decode cX4_jump 12 = .ok (.invokevirtual 45, 3) := by decide +kernel
theorem dX4_jump_15 : decode cX4_jump 15 = .ok (.isub, 1) := by decide +kernel
theorem dX4_jump_16 : decode cX4_jump 16 = .ok (.ireturn, 1) := by decide +kernel
set_option maxRecDepth 20000 in
theorem ggX4_ofPattern_X4_wave : GoodIn wsX4_ofPattern wsX4_wave := goodIn_r _ [5] (by decide +kernel) (by decide +kernel)
set_option maxRecDepth 20000 in
theorem gX4_ofPattern_X4_wave : GoodIn wsX4_ofPattern (va_wsS RX4 41 yX4_wave wsX4_wave) := goodIn_app (goodIn_of _ (by decide +kernel)) ggX4_ofPattern_X4_wave
theorem dX4_ofPattern_0 : decode cX4_ofPattern 0 = .ok (.iconst 0, 1) := by decide +kernel
theorem dX4_ofPattern_1 : decode cX4_ofPattern 1 = .ok (.istore_n 2, 1) := by decide +kernel
theorem dX4_ofPattern_2 : decode cX4_ofPattern 2 = .ok (.iconst 0, 1) := by decide +kernel
theorem dX4_ofPattern_3 : decode cX4_ofPattern 3 = .ok (.istore_n 3, 1) := by decide +kernel
theorem dX4_ofPattern_4 : decode cX4_ofPattern 4 = .ok (.iload_n 3, 1) := by decide +kernel
theorem dX4_ofPattern_5 : decode cX4_ofPattern 5 = .ok (.bipush 8, 2) := by decide +kernel
theorem dX4_ofPattern_7 : decode cX4_ofPattern 7 = .ok (.if_icmp .ge 27, 3) := by decide +kernel
theorem dX4_ofPattern_10 : decode cX4_ofPattern 10 = .ok (.iload_n 2, 1) := by decide +kernel
theorem dX4_ofPattern_11 : decode cX4_ofPattern 11 = .ok (.aload_n 0, 1) := by decide +kernel
theorem dX4_ofPattern_12 : decode cX4_ofPattern 12 = .ok (.getfield 7, 3) := by decide +kernel
theorem dX4_ofPattern_15 : decode cX4_ofPattern 15 = .ok (.bipush 16, 2) := by decide +kernel
theorem dX4_ofPattern_17 : decode cX4_ofPattern 17 = .ok (.iload_n 3, 1) := by decide +kernel
theorem dX4_ofPattern_18 : decode cX4_ofPattern 18 = .ok (.iadd, 1) := by decide +kernel
theorem dX4_ofPattern_19 : decode cX4_ofPattern 19 = .ok (.iaload, 1) := by decide +kernel
theorem dX4_ofPattern_20 : decode cX4_ofPattern 20 = .ok (.iload_n 1, 1) := by decide +kernel
theorem dX4_ofPattern_21 : decode cX4_ofPattern 21 = .ok (.iload_n 3, 1) := by decide +kernel
theorem dX4_ofPattern_22 : decode cX4_ofPattern 22 = .ok (.invokestatic 41, 3) := by decide +kernel
theorem dX4_ofPattern_25 : decode cX4_ofPattern 25 = .ok (.imul, 1) := by decide +kernel
theorem dX4_ofPattern_26 : decode cX4_ofPattern 26 = .ok (.iadd, 1) := by decide +kernel
theorem dX4_ofPattern_27 : decode cX4_ofPattern 27 = .ok (.istore_n 2, 1) := by decide +kernel
theorem dX4_ofPattern_28 : decode cX4_ofPattern 28 = .ok (.iinc 3 1, 3) := by decide +kernel
theorem dX4_ofPattern_31 : decode cX4_ofPattern 31 = .ok (.goto (-27), 3) := by decide +kernel
theorem dX4_ofPattern_34 : decode cX4_ofPattern 34 = .ok (.iload_n 2, 1) := by decide +kernel
theorem dX4_ofPattern_35 : decode cX4_ofPattern 35 = .ok (.iconst 3, 1) := by decide +kernel
theorem dX4_ofPattern_36 : decode cX4_ofPattern 36 = .ok (.ishr, 1) := by decide +kernel
theorem dX4_ofPattern_37 : decode cX4_ofPattern 37 = .ok (.ireturn, 1) := by decide +kernel
theorem dX4_turning_0 : decode cX4_turning 0 = .ok (.iconst 0, 1) := by decide +kernel
theorem dX4_turning_1 : decode cX4_turning 1 = .ok (.istore_n 1, 1) := by decide +kernel
theorem dX4_turning_2 : decode cX4_turning 2 = .ok (.iconst 0, 1) := by decide +kernel
theorem dX4_turning_3 : decode cX4_turning 3 = .ok (.istore_n 2, 1) := by decide +kernel
theorem dX4_turning_4 : decode cX4_turning 4 = .ok (.iload_n 2, 1) := by decide +kernel
theorem dX4_turning_5 : decode cX4_turning 5 = .ok (.bipush 8, 2) := by decide +kernel
theorem dX4_turning_7 : decode cX4_turning 7 = .ok (.if_icmp .ge 26, 3) := by decide +kernel
theorem dX4_turning_10 : decode cX4_turning 10 = .ok (.iload_n 1, 1) := by decide +kernel
theorem dX4_turning_11 : decode cX4_turning 11 = .ok (.aload_n 0, 1) := by decide +kernel
theorem dX4_turning_12 : decode cX4_turning 12 = .ok (.getfield 7, 3) := by decide +kernel
theorem dX4_turning_15 : decode cX4_turning 15 = .ok (.iload_n 2, 1) := by decide +kernel
theorem dX4_turning_16 : decode cX4_turning 16 = .ok (.iaload, 1) := by decide +kernel
theorem dX4_turning_17 : decode cX4_turning 17 = .ok (.ifCond .eq 7, 3) := by decide +kernel
theorem dX4_turning_20 : decode cX4_turning 20 = .ok (.iconst 1, 1) := by decide +kernel
theorem dX4_turning_21 : decode cX4_turning 21 = .ok (.goto 4, 3) := by decide +kernel
theorem dX4_turning_24 : decode cX4_turning 24 = .ok (.iconst 0, 1) := by decide +kernel
theorem dX4_turning_25 : decode cX4_turning 25 = .ok (.iadd, 1) := by decide +kernel
theorem dX4_turning_26 : decode cX4_turning 26 = .ok (.istore_n 1, 1) := by decide +kernel
theorem dX4_turning_27 : decode cX4_turning 27 = .ok (.iinc 2 1, 3) := by decide +kernel
theorem dX4_turning_30 : decode cX4_turning 30 = .ok (.goto (-26), 3) := by decide +kernel
theorem dX4_turning_33 : decode cX4_turning 33 = .ok (.iload_n 1, 1) := by decide +kernel
theorem dX4_turning_34 : decode cX4_turning 34 = .ok (.ireturn, 1) := by decide +kernel
theorem dX4_record_0 : decode cX4_record 0 = .ok (.aload_n 0, 1) := by decide +kernel
theorem dX4_record_1 : decode cX4_record 1 = .ok (.getfield 48, 3) := by decide +kernel
theorem dX4_record_4 : decode cX4_record 4 = .ok (.bipush 6, 2) := by decide +kernel
theorem dX4_record_6 : decode cX4_record 6 = .ok (.if_icmp .ne 42, 3) := by decide +kernel
theorem dX4_record_9 : decode cX4_record 9 = .ok (.iconst 0, 1) := by decide +kernel
theorem dX4_record_10 : decode cX4_record 10 = .ok (.istore_n 1, 1) := by decide +kernel
theorem dX4_record_11 : decode cX4_record 11 = .ok (.iload_n 1, 1) := by decide +kernel
theorem dX4_record_12 : decode cX4_record 12 = .ok (.bipush 125, 2) := by decide +kernel
theorem dX4_record_14 : decode cX4_record 14 = .ok (.if_icmp .ge 24, 3) := by decide +kernel
theorem dX4_record_17 : decode cX4_record 17 = .ok (.aload_n 0, 1) := by decide +kernel
theorem dX4_record_18 : decode cX4_record 18 = .ok (.getfield 13, 3) := by decide +kernel
theorem dX4_record_21 : decode cX4_record 21 = .ok (.iload_n 1, 1) := by decide +kernel
theorem dX4_record_22 : decode cX4_record 22 = .ok (.aload_n 0, 1) := by decide +kernel
theorem dX4_record_23 : decode cX4_record 23 = .ok (.getfield 13, 3) := by decide +kernel
theorem dX4_record_26 : decode cX4_record 26 = .ok (.bipush 25, 2) := by decide +kernel
theorem dX4_record_28 : decode cX4_record 28 = .ok (.iload_n 1, 1) := by decide +kernel
theorem dX4_record_29 : decode cX4_record 29 = .ok (.iadd, 1) := by decide +kernel
theorem dX4_record_30 : decode cX4_record 30 = .ok (.iaload, 1) := by decide +kernel
theorem dX4_record_31 : decode cX4_record 31 = .ok (.iastore, 1) := by decide +kernel
theorem dX4_record_32 : decode cX4_record 32 = .ok (.iinc 1 1, 3) := by decide +kernel
theorem dX4_record_35 : decode cX4_record 35 = .ok (.goto (-24), 3) := by decide +kernel
theorem dX4_record_38 : decode cX4_record 38 = .ok (.aload_n 0, 1) := by decide +kernel
theorem dX4_record_39 : decode cX4_record 39 = .ok (.dup, 1) := by decide +kernel
theorem dX4_record_40 : decode cX4_record 40 = .ok (.getfield 48, 3) := by decide +kernel
theorem dX4_record_43 : decode cX4_record 43 = .ok (.iconst 1, 1) := by decide +kernel
theorem dX4_record_44 : decode cX4_record 44 = .ok (.isub, 1) := by decide +kernel
theorem dX4_record_45 : decode cX4_record 45 = .ok (.putfield 48, 3) := by decide +kernel
theorem dX4_record_48 : decode cX4_record 48 = .ok (.iconst 0, 1) := by decide +kernel
theorem dX4_record_49 : decode cX4_record 49 = .ok (.istore_n 1, 1) := by decide +kernel
theorem dX4_record_50 : decode cX4_record 50 = .ok (.iload_n 1, 1) := by decide +kernel
theorem dX4_record_51 : decode cX4_record 51 = .ok (.bipush 25, 2) := by decide +kernel
theorem dX4_record_53 : decode cX4_record 53 = .ok (.if_icmp .ge 29, 3) := by decide +kernel
theorem dX4_record_56 : decode cX4_record 56 = .ok (.aload_n 0, 1) := by decide +kernel
theorem dX4_record_57 : decode cX4_record 57 = .ok (.getfield 13, 3) := by decide +kernel
theorem dX4_record_60 : decode cX4_record 60 = .ok (.bipush 25, 2) := by decide +kernel
theorem dX4_record_62 : decode cX4_record 62 = .ok (.aload_n 0, 1) := by decide +kernel
theorem dX4_record_63 : decode cX4_record 63 = .ok (.getfield 48, 3) := by decide +kernel
theorem dX4_record_66 : decode cX4_record 66 = .ok (.imul, 1) := by decide +kernel
theorem dX4_record_67 : decode cX4_record 67 = .ok (.iload_n 1, 1) := by decide +kernel
theorem dX4_record_68 : decode cX4_record 68 = .ok (.iadd, 1) := by decide +kernel
theorem dX4_record_69 : decode cX4_record 69 = .ok (.aload_n 0, 1) := by decide +kernel
theorem dX4_record_70 : decode cX4_record 70 = .ok (.getfield 7, 3) := by decide +kernel
theorem dX4_record_73 : decode cX4_record 73 = .ok (.iload_n 1, 1) := by decide +kernel
theorem dX4_record_74 : decode cX4_record 74 = .ok (.iaload, 1) := by decide +kernel
theorem dX4_record_75 : decode cX4_record 75 = .ok (.iastore, 1) := by decide +kernel
theorem dX4_record_76 : decode cX4_record 76 = .ok (.iinc 1 1, 3) := by decide +kernel
theorem dX4_record_79 : decode cX4_record 79 = .ok (.goto (-29), 3) := by decide +kernel
theorem dX4_record_82 : decode cX4_record 82 = .ok (.aload_n 0, 1) := by decide +kernel
theorem dX4_record_83 : decode cX4_record 83 = .ok (.dup, 1) := by decide +kernel
theorem dX4_record_84 : decode cX4_record 84 = .ok (.getfield 48, 3) := by decide +kernel
theorem dX4_record_87 : decode cX4_record 87 = .ok (.iconst 1, 1) := by decide +kernel
theorem dX4_record_88 : decode cX4_record 88 = .ok (.iadd, 1) := by decide +kernel
theorem dX4_record_89 : decode cX4_record 89 = .ok (.putfield 48, 3) := by decide +kernel
theorem dX4_record_92 : decode cX4_record 92 = .ok (.return_, 1) := by decide +kernel
theorem dX4_undo_0 : decode cX4_undo 0 = .ok (.aload_n 0, 1) := by decide +kernel
theorem dX4_undo_1 : decode cX4_undo 1 = .ok (.aload_n 0, 1) := by decide +kernel
theorem dX4_undo_2 : decode cX4_undo 2 = .ok (.getfield 48, 3) := by decide +kernel
theorem dX4_undo_5 : decode cX4_undo 5 = .ok (.ifCond .ne 7, 3) := by decide +kernel
theorem dX4_undo_8 : decode cX4_undo 8 = .ok (.iconst 1, 1) := by decide +kernel
theorem dX4_undo_9 : decode cX4_undo 9 = .ok (.goto 4, 3) := by decide +kernel
theorem dX4_undo_12 : decode cX4_undo 12 = .ok (.iconst 0, 1) := by decide +kernel
theorem dX4_undo_13 : decode cX4_undo 13 = .ok (.putfield 29, 3) := by decide +kernel
theorem dX4_undo_16 : decode cX4_undo 16 = .ok (.aload_n 0, 1) := by decide +kernel
theorem dX4_undo_17 : decode cX4_undo 17 = .ok (.getfield 29, 3) := by decide +kernel
theorem dX4_undo_20 : decode cX4_undo 20 = .ok (.ifCond .le 5, 3) := by decide +kernel
theorem dX4_undo_23 : decode cX4_undo 23 = .ok (.iconst 0, 1) := by decide +kernel
theorem dX4_undo_24 : decode cX4_undo 24 = .ok (.ireturn, 1) := by decide +kernel
theorem dX4_undo_25 : decode cX4_undo 25 = .ok (.aload_n 0, 1) := by decide +kernel
theorem dX4_undo_26 : decode cX4_undo 26 = .ok (.dup, 1) := by decide +kernel
theorem dX4_undo_27 : decode cX4_undo 27 = .ok (.getfield 48, 3) := by decide +kernel
theorem dX4_undo_30 : decode cX4_undo 30 = .ok (.iconst 1, 1) := by decide +kernel
theorem dX4_undo_31 : decode cX4_undo 31 = .ok (.isub, 1) := by decide +kernel
theorem dX4_undo_32 : decode cX4_undo 32 = .ok (.putfield 48, 3) := by decide +kernel
theorem dX4_undo_35 : decode cX4_undo 35 = .ok (.iconst 0, 1) := by decide +kernel
theorem dX4_undo_36 : decode cX4_undo 36 = .ok (.istore_n 1, 1) := by decide +kernel
theorem dX4_undo_37 : decode cX4_undo 37 = .ok (.iload_n 1, 1) := by decide +kernel
theorem dX4_undo_38 : decode cX4_undo 38 = .ok (.bipush 25, 2) := by decide +kernel
theorem dX4_undo_40 : decode cX4_undo 40 = .ok (.if_icmp .ge 29, 3) := by decide +kernel
theorem dX4_undo_43 : decode cX4_undo 43 = .ok (.aload_n 0, 1) := by decide +kernel
theorem dX4_undo_44 : decode cX4_undo 44 = .ok (.getfield 7, 3) := by decide +kernel
theorem dX4_undo_47 : decode cX4_undo 47 = .ok (.iload_n 1, 1) := by decide +kernel
theorem dX4_undo_48 : decode cX4_undo 48 = .ok (.aload_n 0, 1) := by decide +kernel
theorem dX4_undo_49 : decode cX4_undo 49 = .ok (.getfield 13, 3) := by decide +kernel
theorem dX4_undo_52 : decode cX4_undo 52 = .ok (.bipush 25, 2) := by decide +kernel
theorem dX4_undo_54 : decode cX4_undo 54 = .ok (.aload_n 0, 1) := by decide +kernel
theorem dX4_undo_55 : decode cX4_undo 55 = .ok (.getfield 48, 3) := by decide +kernel
theorem dX4_undo_58 : decode cX4_undo 58 = .ok (.imul, 1) := by decide +kernel
theorem dX4_undo_59 : decode cX4_undo 59 = .ok (.iload_n 1, 1) := by decide +kernel
theorem dX4_undo_60 : decode cX4_undo 60 = .ok (.iadd, 1) := by decide +kernel
theorem dX4_undo_61 : decode cX4_undo 61 = .ok (.iaload, 1) := by decide +kernel
theorem dX4_undo_62 : decode cX4_undo 62 = .ok (.iastore, 1) := by decide +kernel
theorem dX4_undo_63 : decode cX4_undo 63 = .ok (.iinc 1 1, 3) := by decide +kernel
theorem dX4_undo_66 : decode cX4_undo 66 = .ok (.goto (-29), 3) := by decide +kernel
theorem dX4_undo_69 : decode cX4_undo 69 = .ok (.aload_n 0, 1) := by decide +kernel
theorem dX4_undo_70 : decode cX4_undo 70 = .ok (.getfield 48, 3) := by decide +kernel
theorem dX4_undo_73 : decode cX4_undo 73 = .ok (.ireturn, 1) := by decide +kernel
set_option maxRecDepth 20000 in
theorem ggX4_keep_X4_in : GoodIn wsX4_keep wsX4_in := goodIn_r _ [8] (by decide +kernel) (by decide +kernel)
set_option maxRecDepth 20000 in
theorem gX4_keep_X4_in : GoodIn wsX4_keep (va_wsS RX4 33 yX4_in wsX4_in) := goodIn_app (goodIn_of _ (by decide +kernel)) ggX4_keep_X4_in
set_option maxRecDepth 20000 in
theorem ggX4_keep_X4_turning : GoodIn wsX4_keep wsX4_turning := goodIn_r _ [12, 3, 13, 14, 15, 16, 17, 18, 19, 20, 21, 22, 23, 24] (by decide +kernel) (by decide +kernel)
set_option maxRecDepth 20000 in
theorem gX4_keep_X4_turning : GoodIn wsX4_keep (wsV RX4 51 RX4 yX4_turning wsX4_turning) := goodIn_app (goodIn_of _ (by decide +kernel)) ggX4_keep_X4_turning
theorem dX4_keep_0 : decode cX4_keep 0 = .ok (.aload_n 0, 1) := by decide +kernel
theorem dX4_keep_1 : decode cX4_keep 1 = .ok (.iload_n 1, 1) := by decide +kernel
theorem dX4_keep_2 : decode cX4_keep 2 = .ok (.iconst 0, 1) := by decide +kernel
theorem dX4_keep_3 : decode cX4_keep 3 = .ok (.iconst 1, 1) := by decide +kernel
theorem dX4_keep_4 : decode cX4_keep 4 = .ok (.invokestatic 33, 3) := by decide +kernel
theorem dX4_keep_7 : decode cX4_keep 7 = .ok (.ifCond .eq 7, 3) := by decide +kernel
theorem dX4_keep_10 : decode cX4_keep 10 = .ok (.iconst 0, 1) := by decide +kernel
theorem dX4_keep_11 : decode cX4_keep 11 = .ok (.goto 4, 3) := by decide +kernel
theorem dX4_keep_14 : decode cX4_keep 14 = .ok (.iconst 1, 1) := by decide +kernel
theorem dX4_keep_15 : decode cX4_keep 15 = .ok (.putfield 29, 3) := by decide +kernel
theorem dX4_keep_18 : decode cX4_keep 18 = .ok (.aload_n 0, 1) := by decide +kernel
theorem dX4_keep_19 : decode cX4_keep 19 = .ok (.getfield 29, 3) := by decide +kernel
theorem dX4_keep_22 : decode cX4_keep 22 = .ok (.ifCond .le 5, 3) := by decide +kernel
theorem dX4_keep_25 : decode cX4_keep 25 = .ok (.iconst 0, 1) := by decide +kernel
theorem dX4_keep_26 : decode cX4_keep 26 = .ok (.ireturn, 1) := by decide +kernel
theorem dX4_keep_27 : decode cX4_keep 27 = .ok (.iconst 0, 1) := by decide +kernel
theorem dX4_keep_28 : decode cX4_keep 28 = .ok (.istore_n 2, 1) := by decide +kernel
theorem dX4_keep_29 : decode cX4_keep 29 = .ok (.iload_n 2, 1) := by decide +kernel
theorem dX4_keep_30 : decode cX4_keep 30 = .ok (.bipush 25, 2) := by decide +kernel
theorem dX4_keep_32 : decode cX4_keep 32 = .ok (.if_icmp .ge 26, 3) := by decide +kernel
theorem dX4_keep_35 : decode cX4_keep 35 = .ok (.aload_n 0, 1) := by decide +kernel
theorem dX4_keep_36 : decode cX4_keep 36 = .ok (.getfield 16, 3) := by decide +kernel
theorem dX4_keep_39 : decode cX4_keep 39 = .ok (.bipush 25, 2) := by decide +kernel
theorem dX4_keep_41 : decode cX4_keep 41 = .ok (.iload_n 1, 1) := by decide +kernel
theorem dX4_keep_42 : decode cX4_keep 42 = .ok (.imul, 1) := by decide +kernel
theorem dX4_keep_43 : decode cX4_keep 43 = .ok (.iload_n 2, 1) := by decide +kernel
theorem dX4_keep_44 : decode cX4_keep 44 = .ok (.iadd, 1) := by decide +kernel
theorem dX4_keep_45 : decode cX4_keep 45 = .ok (.aload_n 0, 1) := by decide +kernel
theorem dX4_keep_46 : decode cX4_keep 46 = .ok (.getfield 7, 3) := by decide +kernel
theorem dX4_keep_49 : decode cX4_keep 49 = .ok (.iload_n 2, 1) := by decide +kernel
theorem dX4_keep_50 : decode cX4_keep 50 = .ok (.iaload, 1) := by decide +kernel
theorem dX4_keep_51 : decode cX4_keep 51 = .ok (.iastore, 1) := by decide +kernel
theorem dX4_keep_52 : decode cX4_keep 52 = .ok (.iinc 2 1, 3) := by decide +kernel
theorem dX4_keep_55 : decode cX4_keep 55 = .ok (.goto (-26), 3) := by decide +kernel
theorem dX4_keep_58 : decode cX4_keep 58 = .ok (.aload_n 0, 1) := by decide +kernel
theorem dX4_keep_59 : decode cX4_keep 59 = .ok (.getfield 19, 3) := by decide +kernel
theorem dX4_keep_62 : decode cX4_keep 62 = .ok (.iload_n 1, 1) := by decide +kernel
theorem dX4_keep_63 : decode cX4_keep 63 = .ok (.iconst 1, 1) := by decide +kernel
theorem dX4_keep_64 : decode cX4_keep 64 = .ok (.bastore, 1) := by decide +kernel
theorem dX4_keep_65 : decode cX4_keep 65 = .ok (.aload_n 0, 1) := by decide +kernel
theorem dX4_keep_66 : decode cX4_keep 66 = .ok (.invokevirtual 51, 3) := by decide +kernel
theorem dX4_keep_69 : decode cX4_keep 69 = .ok (.ireturn, 1) := by decide +kernel
set_option maxRecDepth 20000 in
theorem ggX4_goBack_X4_in : GoodIn wsX4_goBack wsX4_in := goodIn_r _ [8] (by decide +kernel) (by decide +kernel)
set_option maxRecDepth 20000 in
theorem gX4_goBack_X4_in : GoodIn wsX4_goBack (va_wsS RX4 33 yX4_in wsX4_in) := goodIn_app (goodIn_of _ (by decide +kernel)) ggX4_goBack_X4_in
set_option maxRecDepth 20000 in
theorem ggX4_goBack_X4_record : GoodIn wsX4_goBack wsX4_record := goodIn_r _ [12, 13, 14, 3, 19, 20, 21, 22, 23, 24, 25, 26, 27, 28, 29, 30] (by decide +kernel) (by decide +kernel)
set_option maxRecDepth 20000 in
theorem gX4_goBack_X4_record : GoodIn wsX4_goBack (wsV RX4 55 RX4 yX4_record wsX4_record) := goodIn_app (goodIn_of _ (by decide +kernel)) ggX4_goBack_X4_record
set_option maxRecDepth 20000 in
theorem ggX4_goBack_X4_turning : GoodIn wsX4_goBack wsX4_turning := goodIn_r _ [18, 3, 19, 20, 21, 22, 23, 24, 25, 26, 27, 28, 29, 30] (by decide +kernel) (by decide +kernel)
set_option maxRecDepth 20000 in
theorem gX4_goBack_X4_turning : GoodIn wsX4_goBack (wsV RX4 51 RX4 yX4_turning wsX4_turning) := goodIn_app (goodIn_of _ (by decide +kernel)) ggX4_goBack_X4_turning
theorem dX4_goBack_0 : decode cX4_goBack 0 = .ok (.aload_n 0, 1) := by decide +kernel
theorem dX4_goBack_1 : decode cX4_goBack 1 = .ok (.iload_n 1, 1) := by decide +kernel
theorem dX4_goBack_2 : decode cX4_goBack 2 = .ok (.iconst 0, 1) := by decide +kernel
theorem dX4_goBack_3 : decode cX4_goBack 3 = .ok (.iconst 1, 1) := by decide +kernel
theorem dX4_goBack_4 : decode cX4_goBack 4 = .ok (.invokestatic 33, 3) := by decide +kernel
theorem dX4_goBack_7 : decode cX4_goBack 7 = .ok (.ifCond .ne 7, 3) := by decide +kernel
theorem dX4_goBack_10 : decode cX4_goBack 10 = .ok (.iconst 1, 1) := by decide +kernel
theorem dX4_goBack_11 : decode cX4_goBack 11 = .ok (.goto 17, 3) := by decide +kernel
theorem dX4_goBack_14 : decode cX4_goBack 14 = .ok (.aload_n 0, 1) := by decide +kernel
theorem dX4_goBack_15 : decode cX4_goBack 15 = .ok (.getfield 19, 3) := by decide +kernel
theorem dX4_goBack_18 : decode cX4_goBack 18 = .ok (.iload_n 1, 1) := by decide +kernel
theorem dX4_goBack_19 : decode cX4_goBack 19 = .ok (.baload, 1) := by decide +kernel
theorem dX4_goBack_20 : decode cX4_goBack 20 = .ok (.ifCond .eq 7, 3) := by decide +kernel
theorem dX4_goBack_23 : decode cX4_goBack 23 = .ok (.iconst 0, 1) := by decide +kernel
theorem dX4_goBack_24 : decode cX4_goBack 24 = .ok (.goto 4, 3) := by decide +kernel
theorem dX4_goBack_27 : decode cX4_goBack 27 = .ok (.iconst 2, 1) := by decide +kernel
theorem dX4_goBack_28 : decode cX4_goBack 28 = .ok (.putfield 29, 3) := by decide +kernel
theorem dX4_goBack_31 : decode cX4_goBack 31 = .ok (.aload_n 0, 1) := by decide +kernel
theorem dX4_goBack_32 : decode cX4_goBack 32 = .ok (.getfield 29, 3) := by decide +kernel
theorem dX4_goBack_35 : decode cX4_goBack 35 = .ok (.ifCond .le 5, 3) := by decide +kernel
theorem dX4_goBack_38 : decode cX4_goBack 38 = .ok (.iconst 0, 1) := by decide +kernel
theorem dX4_goBack_39 : decode cX4_goBack 39 = .ok (.ireturn, 1) := by decide +kernel
theorem dX4_goBack_40 : decode cX4_goBack 40 = .ok (.aload_n 0, 1) := by decide +kernel
theorem dX4_goBack_41 : decode cX4_goBack 41 = .ok (.invokevirtual 55, 3) := by decide +kernel
theorem dX4_goBack_44 : decode cX4_goBack 44 = .ok (.iconst 0, 1) := by decide +kernel
theorem dX4_goBack_45 : decode cX4_goBack 45 = .ok (.istore_n 2, 1) := by decide +kernel
theorem dX4_goBack_46 : decode cX4_goBack 46 = .ok (.iload_n 2, 1) := by decide +kernel
theorem dX4_goBack_47 : decode cX4_goBack 47 = .ok (.bipush 25, 2) := by decide +kernel
theorem dX4_goBack_49 : decode cX4_goBack 49 = .ok (.if_icmp .ge 26, 3) := by decide +kernel
theorem dX4_goBack_52 : decode cX4_goBack 52 = .ok (.aload_n 0, 1) := by decide +kernel
theorem dX4_goBack_53 : decode cX4_goBack 53 = .ok (.getfield 7, 3) := by decide +kernel
theorem dX4_goBack_56 : decode cX4_goBack 56 = .ok (.iload_n 2, 1) := by decide +kernel
theorem dX4_goBack_57 : decode cX4_goBack 57 = .ok (.aload_n 0, 1) := by decide +kernel
theorem dX4_goBack_58 : decode cX4_goBack 58 = .ok (.getfield 16, 3) := by decide +kernel
theorem dX4_goBack_61 : decode cX4_goBack 61 = .ok (.bipush 25, 2) := by decide +kernel
theorem dX4_goBack_63 : decode cX4_goBack 63 = .ok (.iload_n 1, 1) := by decide +kernel
theorem dX4_goBack_64 : decode cX4_goBack 64 = .ok (.imul, 1) := by decide +kernel
theorem dX4_goBack_65 : decode cX4_goBack 65 = .ok (.iload_n 2, 1) := by decide +kernel
theorem dX4_goBack_66 : decode cX4_goBack 66 = .ok (.iadd, 1) := by decide +kernel
theorem dX4_goBack_67 : decode cX4_goBack 67 = .ok (.iaload, 1) := by decide +kernel
theorem dX4_goBack_68 : decode cX4_goBack 68 = .ok (.iastore, 1) := by decide +kernel
theorem dX4_goBack_69 : decode cX4_goBack 69 = .ok (.iinc 2 1, 3) := by decide +kernel
theorem dX4_goBack_72 : decode cX4_goBack 72 = .ok (.goto (-26), 3) := by decide +kernel
theorem dX4_goBack_75 : decode cX4_goBack 75 = .ok (.aload_n 0, 1) := by decide +kernel
theorem dX4_goBack_76 : decode cX4_goBack 76 = .ok (.invokevirtual 51, 3) := by decide +kernel
theorem dX4_goBack_79 : decode cX4_goBack 79 = .ok (.ireturn, 1) := by decide +kernel
set_option maxRecDepth 20000 in
theorem ggX4_change_X4_record : GoodIn wsX4_change wsX4_record := goodIn_r _ [6, 7, 8, 1, 9, 10, 11, 12, 13, 14, 15, 16, 17, 18, 19, 20] (by decide +kernel) (by decide +kernel)
set_option maxRecDepth 20000 in
theorem gX4_change_X4_record : GoodIn wsX4_change (wsV RX4 55 RX4 yX4_record wsX4_record) := goodIn_app (goodIn_of _ (by decide +kernel)) ggX4_change_X4_record
theorem dX4_change_0 : decode cX4_change 0 = .ok (.aload_n 0, 1) := by decide +kernel
theorem dX4_change_1 : decode cX4_change 1 = .ok (.invokevirtual 55, 3) := by decide +kernel
theorem dX4_change_4 : decode cX4_change 4 = .ok (.aload_n 0, 1) := by decide +kernel
theorem dX4_change_5 : decode cX4_change 5 = .ok (.getfield 7, 3) := by decide +kernel
theorem dX4_change_8 : decode cX4_change 8 = .ok (.iload_n 1, 1) := by decide +kernel
theorem dX4_change_9 : decode cX4_change 9 = .ok (.iaload, 1) := by decide +kernel
theorem dX4_change_10 : decode cX4_change 10 = .ok (.istore_n 3, 1) := by decide +kernel
theorem dX4_change_11 : decode cX4_change 11 = .ok (.aload_n 0, 1) := by decide +kernel
theorem dX4_change_12 : decode cX4_change 12 = .ok (.getfield 7, 3) := by decide +kernel
theorem dX4_change_15 : decode cX4_change 15 = .ok (.iload_n 1, 1) := by decide +kernel
theorem dX4_change_16 : decode cX4_change 16 = .ok (.iload_n 2, 1) := by decide +kernel
theorem dX4_change_17 : decode cX4_change 17 = .ok (.iastore, 1) := by decide +kernel
theorem dX4_change_18 : decode cX4_change 18 = .ok (.iload_n 3, 1) := by decide +kernel
theorem dX4_change_19 : decode cX4_change 19 = .ok (.ireturn, 1) := by decide +kernel
set_option maxRecDepth 20000 in
theorem ggX4_set_X4_isOne : GoodIn wsX4_set wsX4_isOne := goodIn_r _ [5, 6, 7, 4, 8] (by decide +kernel) (by decide +kernel)
set_option maxRecDepth 20000 in
theorem gX4_set_X4_isOne : GoodIn wsX4_set (va_wsS RX4 58 yX4_isOne wsX4_isOne) := goodIn_app (goodIn_of _ (by decide +kernel)) ggX4_set_X4_isOne
set_option maxRecDepth 20000 in
theorem ggX4_set_X4_in : GoodIn wsX4_set wsX4_in := goodIn_r _ [8] (by decide +kernel) (by decide +kernel)
set_option maxRecDepth 20000 in
theorem gX4_set_X4_in : GoodIn wsX4_set (va_wsS RX4 33 yX4_in wsX4_in) := goodIn_app (goodIn_of _ (by decide +kernel)) ggX4_set_X4_in
set_option maxRecDepth 20000 in
theorem ggX4_set_X4_change : GoodIn wsX4_set wsX4_change := goodIn_r _ [12, 13, 14, 15, 16, 4, 17, 18, 19, 20, 21, 22, 23, 24, 25, 26, 27, 28, 29, 30, 31] (by decide +kernel) (by decide +kernel)
set_option maxRecDepth 20000 in
theorem gX4_set_X4_change : GoodIn wsX4_set (wsV RX4 62 RX4 yX4_change wsX4_change) := goodIn_app (goodIn_of _ (by decide +kernel)) ggX4_set_X4_change
theorem dX4_set_0 : decode cX4_set 0 = .ok (.aload_n 0, 1) := by decide +kernel
theorem dX4_set_1 : decode cX4_set 1 = .ok (.iload_n 1, 1) := by decide +kernel
theorem dX4_set_2 : decode cX4_set 2 = .ok (.invokestatic 58, 3) := by decide +kernel
theorem dX4_set_5 : decode cX4_set 5 = .ok (.ifCond .ne 7, 3) := by decide +kernel
theorem dX4_set_8 : decode cX4_set 8 = .ok (.iconst 1, 1) := by decide +kernel
theorem dX4_set_9 : decode cX4_set 9 = .ok (.goto 19, 3) := by decide +kernel
theorem dX4_set_12 : decode cX4_set 12 = .ok (.iload_n 2, 1) := by decide +kernel
theorem dX4_set_13 : decode cX4_set 13 = .ok (.bipush (-99), 2) := by decide +kernel
theorem dX4_set_15 : decode cX4_set 15 = .ok (.bipush 99, 2) := by decide +kernel
theorem dX4_set_17 : decode cX4_set 17 = .ok (.invokestatic 33, 3) := by decide +kernel
theorem dX4_set_20 : decode cX4_set 20 = .ok (.ifCond .eq 7, 3) := by decide +kernel
theorem dX4_set_23 : decode cX4_set 23 = .ok (.iconst 0, 1) := by decide +kernel
theorem dX4_set_24 : decode cX4_set 24 = .ok (.goto 4, 3) := by decide +kernel
theorem dX4_set_27 : decode cX4_set 27 = .ok (.iconst 2, 1) := by decide +kernel
theorem dX4_set_28 : decode cX4_set 28 = .ok (.putfield 29, 3) := by decide +kernel
theorem dX4_set_31 : decode cX4_set 31 = .ok (.aload_n 0, 1) := by decide +kernel
theorem dX4_set_32 : decode cX4_set 32 = .ok (.getfield 29, 3) := by decide +kernel
theorem dX4_set_35 : decode cX4_set 35 = .ok (.ifCond .le 7, 3) := by decide +kernel
theorem dX4_set_38 : decode cX4_set 38 = .ok (.iconst 0, 1) := by decide +kernel
theorem dX4_set_39 : decode cX4_set 39 = .ok (.goto 9, 3) := by decide +kernel
theorem dX4_set_42 : decode cX4_set 42 = .ok (.aload_n 0, 1) := by decide +kernel
theorem dX4_set_43 : decode cX4_set 43 = .ok (.iload_n 1, 1) := by decide +kernel
theorem dX4_set_44 : decode cX4_set 44 = .ok (.iload_n 2, 1) := by decide +kernel
theorem dX4_set_45 : decode cX4_set 45 = .ok (.invokevirtual 62, 3) := by decide +kernel
theorem dX4_set_48 : decode cX4_set 48 = .ok (.ireturn, 1) := by decide +kernel
set_option maxRecDepth 20000 in
theorem ggX4_lose_X4_isOne : GoodIn wsX4_lose wsX4_isOne := goodIn_r _ [6, 7, 8, 5, 9] (by decide +kernel) (by decide +kernel)
set_option maxRecDepth 20000 in
theorem gX4_lose_X4_isOne : GoodIn wsX4_lose (va_wsS RX4 58 yX4_isOne wsX4_isOne) := goodIn_app (goodIn_of _ (by decide +kernel)) ggX4_lose_X4_isOne
set_option maxRecDepth 20000 in
theorem ggX4_lose_X4_change : GoodIn wsX4_lose wsX4_change := goodIn_r _ [13, 2, 14, 15, 16, 5, 17, 18, 19, 20, 21, 22, 23, 24, 25, 26, 27, 28, 29, 30, 31] (by decide +kernel) (by decide +kernel)
set_option maxRecDepth 20000 in
theorem gX4_lose_X4_change : GoodIn wsX4_lose (wsV RX4 62 RX4 yX4_change wsX4_change) := goodIn_app (goodIn_of _ (by decide +kernel)) ggX4_lose_X4_change
theorem dX4_lose_0 : decode cX4_lose 0 = .ok (.aload_n 0, 1) := by decide +kernel
theorem dX4_lose_1 : decode cX4_lose 1 = .ok (.iload_n 1, 1) := by decide +kernel
theorem dX4_lose_2 : decode cX4_lose 2 = .ok (.invokestatic 58, 3) := by decide +kernel
theorem dX4_lose_5 : decode cX4_lose 5 = .ok (.ifCond .eq 7, 3) := by decide +kernel
theorem dX4_lose_8 : decode cX4_lose 8 = .ok (.iconst 0, 1) := by decide +kernel
theorem dX4_lose_9 : decode cX4_lose 9 = .ok (.goto 4, 3) := by decide +kernel
theorem dX4_lose_12 : decode cX4_lose 12 = .ok (.iconst 1, 1) := by decide +kernel
theorem dX4_lose_13 : decode cX4_lose 13 = .ok (.putfield 29, 3) := by decide +kernel
theorem dX4_lose_16 : decode cX4_lose 16 = .ok (.aload_n 0, 1) := by decide +kernel
theorem dX4_lose_17 : decode cX4_lose 17 = .ok (.getfield 29, 3) := by decide +kernel
theorem dX4_lose_20 : decode cX4_lose 20 = .ok (.ifCond .le 5, 3) := by decide +kernel
theorem dX4_lose_23 : decode cX4_lose 23 = .ok (.iconst 0, 1) := by decide +kernel
theorem dX4_lose_24 : decode cX4_lose 24 = .ok (.ireturn, 1) := by decide +kernel
theorem dX4_lose_25 : decode cX4_lose 25 = .ok (.aload_n 0, 1) := by decide +kernel
theorem dX4_lose_26 : decode cX4_lose 26 = .ok (.bipush 8, 2) := by decide +kernel
theorem dX4_lose_28 : decode cX4_lose 28 = .ok (.iload_n 1, 1) := by decide +kernel
theorem dX4_lose_29 : decode cX4_lose 29 = .ok (.iadd, 1) := by decide +kernel
theorem dX4_lose_30 : decode cX4_lose 30 = .ok (.iconst 1, 1) := by decide +kernel
theorem dX4_lose_31 : decode cX4_lose 31 = .ok (.aload_n 0, 1) := by decide +kernel
theorem dX4_lose_32 : decode cX4_lose 32 = .ok (.getfield 7, 3) := by decide +kernel
theorem dX4_lose_35 : decode cX4_lose 35 = .ok (.bipush 8, 2) := by decide +kernel
theorem dX4_lose_37 : decode cX4_lose 37 = .ok (.iload_n 1, 1) := by decide +kernel
theorem dX4_lose_38 : decode cX4_lose 38 = .ok (.iadd, 1) := by decide +kernel
theorem dX4_lose_39 : decode cX4_lose 39 = .ok (.iaload, 1) := by decide +kernel
theorem dX4_lose_40 : decode cX4_lose 40 = .ok (.isub, 1) := by decide +kernel
theorem dX4_lose_41 : decode cX4_lose 41 = .ok (.invokevirtual 62, 3) := by decide +kernel
theorem dX4_lose_44 : decode cX4_lose 44 = .ok (.pop, 1) := by decide +kernel
theorem dX4_lose_45 : decode cX4_lose 45 = .ok (.aload_n 0, 1) := by decide +kernel
theorem dX4_lose_46 : decode cX4_lose 46 = .ok (.getfield 7, 3) := by decide +kernel
theorem dX4_lose_49 : decode cX4_lose 49 = .ok (.bipush 8, 2) := by decide +kernel
theorem dX4_lose_51 : decode cX4_lose 51 = .ok (.iload_n 1, 1) := by decide +kernel
theorem dX4_lose_52 : decode cX4_lose 52 = .ok (.iadd, 1) := by decide +kernel
theorem dX4_lose_53 : decode cX4_lose 53 = .ok (.iaload, 1) := by decide +kernel
theorem dX4_lose_54 : decode cX4_lose 54 = .ok (.ireturn, 1) := by decide +kernel
set_option maxRecDepth 20000 in
theorem ggX4_turn_X4_isOne : GoodIn wsX4_turn wsX4_isOne := goodIn_r _ [6, 7, 8, 5, 9] (by decide +kernel) (by decide +kernel)
set_option maxRecDepth 20000 in
theorem gX4_turn_X4_isOne : GoodIn wsX4_turn (va_wsS RX4 58 yX4_isOne wsX4_isOne) := goodIn_app (goodIn_of _ (by decide +kernel)) ggX4_turn_X4_isOne
set_option maxRecDepth 20000 in
theorem ggX4_turn_X4_record : GoodIn wsX4_turn wsX4_record := goodIn_r _ [13, 14, 15, 2, 19, 20, 21, 22, 23, 24, 25, 26, 27, 28, 29, 30] (by decide +kernel) (by decide +kernel)
set_option maxRecDepth 20000 in
theorem gX4_turn_X4_record : GoodIn wsX4_turn (wsV RX4 55 RX4 yX4_record wsX4_record) := goodIn_app (goodIn_of _ (by decide +kernel)) ggX4_turn_X4_record
set_option maxRecDepth 20000 in
theorem ggX4_turn_X4_wave : GoodIn wsX4_turn wsX4_wave := goodIn_r _ [18] (by decide +kernel) (by decide +kernel)
set_option maxRecDepth 20000 in
theorem gX4_turn_X4_wave : GoodIn wsX4_turn (va_wsS RX4 41 yX4_wave wsX4_wave) := goodIn_app (goodIn_of _ (by decide +kernel)) ggX4_turn_X4_wave
theorem dX4_turn_0 : decode cX4_turn 0 = .ok (.aload_n 0, 1) := by decide +kernel
theorem dX4_turn_1 : decode cX4_turn 1 = .ok (.iload_n 1, 1) := by decide +kernel
theorem dX4_turn_2 : decode cX4_turn 2 = .ok (.invokestatic 58, 3) := by decide +kernel
theorem dX4_turn_5 : decode cX4_turn 5 = .ok (.ifCond .eq 7, 3) := by decide +kernel
theorem dX4_turn_8 : decode cX4_turn 8 = .ok (.iconst 0, 1) := by decide +kernel
theorem dX4_turn_9 : decode cX4_turn 9 = .ok (.goto 4, 3) := by decide +kernel
theorem dX4_turn_12 : decode cX4_turn 12 = .ok (.iconst 1, 1) := by decide +kernel
theorem dX4_turn_13 : decode cX4_turn 13 = .ok (.putfield 29, 3) := by decide +kernel
theorem dX4_turn_16 : decode cX4_turn 16 = .ok (.aload_n 0, 1) := by decide +kernel
theorem dX4_turn_17 : decode cX4_turn 17 = .ok (.getfield 29, 3) := by decide +kernel
theorem dX4_turn_20 : decode cX4_turn 20 = .ok (.ifCond .le 5, 3) := by decide +kernel
theorem dX4_turn_23 : decode cX4_turn 23 = .ok (.iconst 0, 1) := by decide +kernel
theorem dX4_turn_24 : decode cX4_turn 24 = .ok (.ireturn, 1) := by decide +kernel
theorem dX4_turn_25 : decode cX4_turn 25 = .ok (.aload_n 0, 1) := by decide +kernel
theorem dX4_turn_26 : decode cX4_turn 26 = .ok (.invokevirtual 55, 3) := by decide +kernel
theorem dX4_turn_29 : decode cX4_turn 29 = .ok (.iconst 0, 1) := by decide +kernel
theorem dX4_turn_30 : decode cX4_turn 30 = .ok (.istore_n 2, 1) := by decide +kernel
theorem dX4_turn_31 : decode cX4_turn 31 = .ok (.iconst 0, 1) := by decide +kernel
theorem dX4_turn_32 : decode cX4_turn 32 = .ok (.istore_n 3, 1) := by decide +kernel
theorem dX4_turn_33 : decode cX4_turn 33 = .ok (.iload_n 3, 1) := by decide +kernel
theorem dX4_turn_34 : decode cX4_turn 34 = .ok (.bipush 8, 2) := by decide +kernel
theorem dX4_turn_36 : decode cX4_turn 36 = .ok (.if_icmp .ge 48, 3) := by decide +kernel
theorem dX4_turn_39 : decode cX4_turn 39 = .ok (.iload_n 2, 1) := by decide +kernel
theorem dX4_turn_40 : decode cX4_turn 40 = .ok (.aload_n 0, 1) := by decide +kernel
theorem dX4_turn_41 : decode cX4_turn 41 = .ok (.getfield 7, 3) := by decide +kernel
theorem dX4_turn_44 : decode cX4_turn 44 = .ok (.iload_n 3, 1) := by decide +kernel
theorem dX4_turn_45 : decode cX4_turn 45 = .ok (.iaload, 1) := by decide +kernel
theorem dX4_turn_46 : decode cX4_turn 46 = .ok (.ifCond .eq 15, 3) := by decide +kernel
theorem dX4_turn_49 : decode cX4_turn 49 = .ok (.iload_n 3, 1) := by decide +kernel
theorem dX4_turn_50 : decode cX4_turn 50 = .ok (.iload_n 1, 1) := by decide +kernel
theorem dX4_turn_51 : decode cX4_turn 51 = .ok (.invokestatic 41, 3) := by decide +kernel
theorem dX4_turn_54 : decode cX4_turn 54 = .ok (.ifCond .ge 7, 3) := by decide +kernel
theorem dX4_turn_57 : decode cX4_turn 57 = .ok (.iconst 1, 1) := by decide +kernel
theorem dX4_turn_58 : decode cX4_turn 58 = .ok (.goto 4, 3) := by decide +kernel
theorem dX4_turn_61 : decode cX4_turn 61 = .ok (.iconst 0, 1) := by decide +kernel
theorem dX4_turn_62 : decode cX4_turn 62 = .ok (.iadd, 1) := by decide +kernel
theorem dX4_turn_63 : decode cX4_turn 63 = .ok (.istore_n 2, 1) := by decide +kernel
theorem dX4_turn_64 : decode cX4_turn 64 = .ok (.aload_n 0, 1) := by decide +kernel
theorem dX4_turn_65 : decode cX4_turn 65 = .ok (.getfield 7, 3) := by decide +kernel
theorem dX4_turn_68 : decode cX4_turn 68 = .ok (.iload_n 3, 1) := by decide +kernel
theorem dX4_turn_69 : decode cX4_turn 69 = .ok (.dup2, 1) := by decide +kernel
theorem dX4_turn_70 : decode cX4_turn 70 = .ok (.iaload, 1) := by decide +kernel
theorem dX4_turn_71 : decode cX4_turn 71 = .ok (.iload_n 3, 1) := by decide +kernel
theorem dX4_turn_72 : decode cX4_turn 72 = .ok (.iload_n 1, 1) := by decide +kernel
theorem dX4_turn_73 : decode cX4_turn 73 = .ok (.invokestatic 41, 3) := by decide +kernel
theorem dX4_turn_76 : decode cX4_turn 76 = .ok (.imul, 1) := by decide +kernel
theorem dX4_turn_77 : decode cX4_turn 77 = .ok (.iastore, 1) := by decide +kernel
theorem dX4_turn_78 : decode cX4_turn 78 = .ok (.iinc 3 1, 3) := by decide +kernel
theorem dX4_turn_81 : decode cX4_turn 81 = .ok (.goto (-48), 3) := by decide +kernel
theorem dX4_turn_84 : decode cX4_turn 84 = .ok (.iload_n 2, 1) := by decide +kernel
theorem dX4_turn_85 : decode cX4_turn 85 = .ok (.ireturn, 1) := by decide +kernel
set_option maxRecDepth 20000 in
theorem ggX4_drop_X4_in : GoodIn wsX4_drop wsX4_in := goodIn_r _ [6] (by decide +kernel) (by decide +kernel)
set_option maxRecDepth 20000 in
theorem gX4_drop_X4_in : GoodIn wsX4_drop (va_wsS RX4 33 yX4_in wsX4_in) := goodIn_app (goodIn_of _ (by decide +kernel)) ggX4_drop_X4_in
set_option maxRecDepth 20000 in
theorem ggX4_drop_X4_record : GoodIn wsX4_drop wsX4_record := goodIn_r _ [10, 11, 12, 2, 20, 21, 22, 23, 24, 25, 26, 27, 28, 29, 30, 31] (by decide +kernel) (by decide +kernel)
set_option maxRecDepth 20000 in
theorem gX4_drop_X4_record : GoodIn wsX4_drop (wsV RX4 55 RX4 yX4_record wsX4_record) := goodIn_app (goodIn_of _ (by decide +kernel)) ggX4_drop_X4_record
set_option maxRecDepth 20000 in
theorem ggX4_drop_X4_turning : GoodIn wsX4_drop wsX4_turning := goodIn_r _ [16, 2, 20, 21, 22, 23, 24, 25, 26, 27, 28, 29, 30, 31] (by decide +kernel) (by decide +kernel)
set_option maxRecDepth 20000 in
theorem gX4_drop_X4_turning : GoodIn wsX4_drop (wsV RX4 51 RX4 yX4_turning wsX4_turning) := goodIn_app (goodIn_of _ (by decide +kernel)) ggX4_drop_X4_turning
set_option maxRecDepth 20000 in
theorem ggX4_drop_X4_amount : GoodIn wsX4_drop wsX4_amount := goodIn_r _ [19] (by decide +kernel) (by decide +kernel)
set_option maxRecDepth 20000 in
theorem gX4_drop_X4_amount : GoodIn wsX4_drop (va_wsS RX4 65 yX4_amount wsX4_amount) := goodIn_app (goodIn_of _ (by decide +kernel)) ggX4_drop_X4_amount
theorem dX4_drop_0 : decode cX4_drop 0 = .ok (.aload_n 0, 1) := by decide +kernel
theorem dX4_drop_1 : decode cX4_drop 1 = .ok (.iload_n 1, 1) := by decide +kernel
theorem dX4_drop_2 : decode cX4_drop 2 = .ok (.iconst 1, 1) := by decide +kernel
theorem dX4_drop_3 : decode cX4_drop 3 = .ok (.bipush 99, 2) := by decide +kernel
theorem dX4_drop_5 : decode cX4_drop 5 = .ok (.invokestatic 33, 3) := by decide +kernel
theorem dX4_drop_8 : decode cX4_drop 8 = .ok (.ifCond .eq 7, 3) := by decide +kernel
theorem dX4_drop_11 : decode cX4_drop 11 = .ok (.iconst 0, 1) := by decide +kernel
theorem dX4_drop_12 : decode cX4_drop 12 = .ok (.goto 4, 3) := by decide +kernel
theorem dX4_drop_15 : decode cX4_drop 15 = .ok (.iconst 1, 1) := by decide +kernel
theorem dX4_drop_16 : decode cX4_drop 16 = .ok (.putfield 29, 3) := by decide +kernel
theorem dX4_drop_19 : decode cX4_drop 19 = .ok (.aload_n 0, 1) := by decide +kernel
theorem dX4_drop_20 : decode cX4_drop 20 = .ok (.getfield 29, 3) := by decide +kernel
theorem dX4_drop_23 : decode cX4_drop 23 = .ok (.ifCond .le 5, 3) := by decide +kernel
theorem dX4_drop_26 : decode cX4_drop 26 = .ok (.iconst 0, 1) := by decide +kernel
theorem dX4_drop_27 : decode cX4_drop 27 = .ok (.ireturn, 1) := by decide +kernel
theorem dX4_drop_28 : decode cX4_drop 28 = .ok (.aload_n 0, 1) := by decide +kernel
theorem dX4_drop_29 : decode cX4_drop 29 = .ok (.invokevirtual 55, 3) := by decide +kernel
theorem dX4_drop_32 : decode cX4_drop 32 = .ok (.aload_n 0, 1) := by decide +kernel
theorem dX4_drop_33 : decode cX4_drop 33 = .ok (.invokevirtual 51, 3) := by decide +kernel
theorem dX4_drop_36 : decode cX4_drop 36 = .ok (.istore_n 2, 1) := by decide +kernel
theorem dX4_drop_37 : decode cX4_drop 37 = .ok (.iconst 0, 1) := by decide +kernel
theorem dX4_drop_38 : decode cX4_drop 38 = .ok (.istore_n 3, 1) := by decide +kernel
theorem dX4_drop_39 : decode cX4_drop 39 = .ok (.iload_n 3, 1) := by decide +kernel
theorem dX4_drop_40 : decode cX4_drop 40 = .ok (.bipush 8, 2) := by decide +kernel
theorem dX4_drop_42 : decode cX4_drop 42 = .ok (.if_icmp .ge 38, 3) := by decide +kernel
theorem dX4_drop_45 : decode cX4_drop 45 = .ok (.aload_n 0, 1) := by decide +kernel
theorem dX4_drop_46 : decode cX4_drop 46 = .ok (.getfield 7, 3) := by decide +kernel
theorem dX4_drop_49 : decode cX4_drop 49 = .ok (.iload_n 3, 1) := by decide +kernel
theorem dX4_drop_50 : decode cX4_drop 50 = .ok (.aload_n 0, 1) := by decide +kernel
theorem dX4_drop_51 : decode cX4_drop 51 = .ok (.getfield 7, 3) := by decide +kernel
theorem dX4_drop_54 : decode cX4_drop 54 = .ok (.iload_n 3, 1) := by decide +kernel
theorem dX4_drop_55 : decode cX4_drop 55 = .ok (.iaload, 1) := by decide +kernel
theorem dX4_drop_56 : decode cX4_drop 56 = .ok (.invokestatic 65, 3) := by decide +kernel
theorem dX4_drop_59 : decode cX4_drop 59 = .ok (.iload_n 1, 1) := by decide +kernel
theorem dX4_drop_60 : decode cX4_drop 60 = .ok (.if_icmp .ge 7, 3) := by decide +kernel
theorem dX4_drop_63 : decode cX4_drop 63 = .ok (.iconst 0, 1) := by decide +kernel
theorem dX4_drop_64 : decode cX4_drop 64 = .ok (.goto 9, 3) := by decide +kernel
theorem dX4_drop_67 : decode cX4_drop 67 = .ok (.aload_n 0, 1) := by decide +kernel
theorem dX4_drop_68 : decode cX4_drop 68 = .ok (.getfield 7, 3) := by decide +kernel
theorem dX4_drop_71 : decode cX4_drop 71 = .ok (.iload_n 3, 1) := by decide +kernel
theorem dX4_drop_72 : decode cX4_drop 72 = .ok (.iaload, 1) := by decide +kernel
theorem dX4_drop_73 : decode cX4_drop 73 = .ok (.iastore, 1) := by decide +kernel
theorem dX4_drop_74 : decode cX4_drop 74 = .ok (.iinc 3 1, 3) := by decide +kernel
theorem dX4_drop_77 : decode cX4_drop 77 = .ok (.goto (-38), 3) := by decide +kernel
theorem dX4_drop_80 : decode cX4_drop 80 = .ok (.iload_n 2, 1) := by decide +kernel
theorem dX4_drop_81 : decode cX4_drop 81 = .ok (.aload_n 0, 1) := by decide +kernel
theorem dX4_drop_82 : decode cX4_drop 82 = .ok (.invokevirtual 51, 3) := by decide +kernel
theorem dX4_drop_85 : decode cX4_drop 85 = .ok (.isub, 1) := by decide +kernel
theorem dX4_drop_86 : decode cX4_drop 86 = .ok (.ireturn, 1) := by decide +kernel
set_option maxRecDepth 20000 in
theorem ggX4_point_X4_isOne : GoodIn wsX4_point wsX4_isOne := goodIn_r _ [5, 6, 7, 4, 8] (by decide +kernel) (by decide +kernel)
set_option maxRecDepth 20000 in
theorem gX4_point_X4_isOne : GoodIn wsX4_point (va_wsS RX4 58 yX4_isOne wsX4_isOne) := goodIn_app (goodIn_of _ (by decide +kernel)) ggX4_point_X4_isOne
set_option maxRecDepth 20000 in
theorem ggX4_point_X4_in : GoodIn wsX4_point wsX4_in := goodIn_r _ [8] (by decide +kernel) (by decide +kernel)
set_option maxRecDepth 20000 in
theorem gX4_point_X4_in : GoodIn wsX4_point (va_wsS RX4 33 yX4_in wsX4_in) := goodIn_app (goodIn_of _ (by decide +kernel)) ggX4_point_X4_in
set_option maxRecDepth 20000 in
theorem ggX4_point_X4_change : GoodIn wsX4_point wsX4_change := goodIn_r _ [12, 13, 14, 15, 16, 4, 17, 18, 19, 20, 21, 22, 23, 24, 25, 26, 27, 28, 29, 30, 31] (by decide +kernel) (by decide +kernel)
set_option maxRecDepth 20000 in
theorem gX4_point_X4_change : GoodIn wsX4_point (wsV RX4 62 RX4 yX4_change wsX4_change) := goodIn_app (goodIn_of _ (by decide +kernel)) ggX4_point_X4_change
theorem dX4_point_0 : decode cX4_point 0 = .ok (.aload_n 0, 1) := by decide +kernel
theorem dX4_point_1 : decode cX4_point 1 = .ok (.iload_n 1, 1) := by decide +kernel
theorem dX4_point_2 : decode cX4_point 2 = .ok (.invokestatic 58, 3) := by decide +kernel
theorem dX4_point_5 : decode cX4_point 5 = .ok (.ifCond .ne 7, 3) := by decide +kernel
theorem dX4_point_8 : decode cX4_point 8 = .ok (.iconst 1, 1) := by decide +kernel
theorem dX4_point_9 : decode cX4_point 9 = .ok (.goto 21, 3) := by decide +kernel
theorem dX4_point_12 : decode cX4_point 12 = .ok (.iload_n 2, 1) := by decide +kernel
theorem dX4_point_13 : decode cX4_point 13 = .ok (.sipush (-9999), 3) := by decide +kernel
theorem dX4_point_16 : decode cX4_point 16 = .ok (.sipush 9999, 3) := by decide +kernel
theorem dX4_point_19 : decode cX4_point 19 = .ok (.invokestatic 33, 3) := by decide +kernel
theorem dX4_point_22 : decode cX4_point 22 = .ok (.ifCond .eq 7, 3) := by decide +kernel
theorem dX4_point_25 : decode cX4_point 25 = .ok (.iconst 0, 1) := by decide +kernel
theorem dX4_point_26 : decode cX4_point 26 = .ok (.goto 4, 3) := by decide +kernel
theorem dX4_point_29 : decode cX4_point 29 = .ok (.iconst 2, 1) := by decide +kernel
theorem dX4_point_30 : decode cX4_point 30 = .ok (.putfield 29, 3) := by decide +kernel
theorem dX4_point_33 : decode cX4_point 33 = .ok (.aload_n 0, 1) := by decide +kernel
theorem dX4_point_34 : decode cX4_point 34 = .ok (.getfield 29, 3) := by decide +kernel
theorem dX4_point_37 : decode cX4_point 37 = .ok (.ifCond .le 7, 3) := by decide +kernel
theorem dX4_point_40 : decode cX4_point 40 = .ok (.iconst 0, 1) := by decide +kernel
theorem dX4_point_41 : decode cX4_point 41 = .ok (.goto 12, 3) := by decide +kernel
theorem dX4_point_44 : decode cX4_point 44 = .ok (.aload_n 0, 1) := by decide +kernel
theorem dX4_point_45 : decode cX4_point 45 = .ok (.bipush 16, 2) := by decide +kernel
theorem dX4_point_47 : decode cX4_point 47 = .ok (.iload_n 1, 1) := by decide +kernel
theorem dX4_point_48 : decode cX4_point 48 = .ok (.iadd, 1) := by decide +kernel
theorem dX4_point_49 : decode cX4_point 49 = .ok (.iload_n 2, 1) := by decide +kernel
theorem dX4_point_50 : decode cX4_point 50 = .ok (.invokevirtual 62, 3) := by decide +kernel
theorem dX4_point_53 : decode cX4_point 53 = .ok (.ireturn, 1) := by decide +kernel
set_option maxRecDepth 20000 in
theorem ggX4_copy_X4_record : GoodIn wsX4_copy wsX4_record := goodIn_r _ [7, 8, 9, 2, 25, 26, 27, 28, 29, 30, 31, 32, 33, 34, 35, 36] (by decide +kernel) (by decide +kernel)
set_option maxRecDepth 20000 in
theorem gX4_copy_X4_record : GoodIn wsX4_copy (wsV RX4 55 RX4 yX4_record wsX4_record) := goodIn_app (goodIn_of _ (by decide +kernel)) ggX4_copy_X4_record
set_option maxRecDepth 20000 in
theorem ggX4_copy_X4_difference : GoodIn wsX4_copy wsX4_difference := goodIn_r _ [13, 2, 14, 15, 16, 6, 17, 18, 19, 20, 21, 22, 23, 24, 25, 26, 27, 28, 29, 30, 31, 32, 33, 34, 35, 36] (by decide +kernel) (by decide +kernel)
set_option maxRecDepth 20000 in
theorem gX4_copy_X4_difference : GoodIn wsX4_copy (wsV RX4 68 RX4 yX4_difference wsX4_difference) := goodIn_app (goodIn_of _ (by decide +kernel)) ggX4_copy_X4_difference
set_option maxRecDepth 20000 in
theorem ggX4_copy_X4_traceAt : GoodIn wsX4_copy wsX4_traceAt := goodIn_r _ [17, 18, 19, 20, 6, 21, 2, 22, 23, 24, 25, 26, 27, 28, 29, 30, 31, 32, 33, 34, 35, 36] (by decide +kernel) (by decide +kernel)
set_option maxRecDepth 20000 in
theorem gX4_copy_X4_traceAt : GoodIn wsX4_copy (wsV RX4 45 RX4 yX4_traceAt wsX4_traceAt) := goodIn_app (goodIn_of _ (by decide +kernel)) ggX4_copy_X4_traceAt
theorem dX4_copy_0 : decode cX4_copy 0 = .ok (.aload_n 0, 1) := by decide +kernel
theorem dX4_copy_1 : decode cX4_copy 1 = .ok (.iconst 0, 1) := by decide +kernel
theorem dX4_copy_2 : decode cX4_copy 2 = .ok (.putfield 29, 3) := by decide +kernel
theorem dX4_copy_5 : decode cX4_copy 5 = .ok (.aload_n 0, 1) := by decide +kernel
theorem dX4_copy_6 : decode cX4_copy 6 = .ok (.invokevirtual 55, 3) := by decide +kernel
theorem dX4_copy_9 : decode cX4_copy 9 = .ok (.iconst 0, 1) := by decide +kernel
theorem dX4_copy_10 : decode cX4_copy 10 = .ok (.istore_n 1, 1) := by decide +kernel
theorem dX4_copy_11 : decode cX4_copy 11 = .ok (.iconst 0, 1) := by decide +kernel
theorem dX4_copy_12 : decode cX4_copy 12 = .ok (.istore_n 2, 1) := by decide +kernel
theorem dX4_copy_13 : decode cX4_copy 13 = .ok (.iload_n 2, 1) := by decide +kernel
theorem dX4_copy_14 : decode cX4_copy 14 = .ok (.bipush 8, 2) := by decide +kernel
theorem dX4_copy_16 : decode cX4_copy 16 = .ok (.if_icmp .ge 39, 3) := by decide +kernel
theorem dX4_copy_19 : decode cX4_copy 19 = .ok (.iload_n 1, 1) := by decide +kernel
theorem dX4_copy_20 : decode cX4_copy 20 = .ok (.aload_n 0, 1) := by decide +kernel
theorem dX4_copy_21 : decode cX4_copy 21 = .ok (.iload_n 2, 1) := by decide +kernel
theorem dX4_copy_22 : decode cX4_copy 22 = .ok (.invokevirtual 68, 3) := by decide +kernel
theorem dX4_copy_25 : decode cX4_copy 25 = .ok (.ifCond .eq 7, 3) := by decide +kernel
theorem dX4_copy_28 : decode cX4_copy 28 = .ok (.iconst 1, 1) := by decide +kernel
theorem dX4_copy_29 : decode cX4_copy 29 = .ok (.goto 4, 3) := by decide +kernel
theorem dX4_copy_32 : decode cX4_copy 32 = .ok (.iconst 0, 1) := by decide +kernel
theorem dX4_copy_33 : decode cX4_copy 33 = .ok (.iadd, 1) := by decide +kernel
theorem dX4_copy_34 : decode cX4_copy 34 = .ok (.istore_n 1, 1) := by decide +kernel
theorem dX4_copy_35 : decode cX4_copy 35 = .ok (.aload_n 0, 1) := by decide +kernel
theorem dX4_copy_36 : decode cX4_copy 36 = .ok (.getfield 7, 3) := by decide +kernel
theorem dX4_copy_39 : decode cX4_copy 39 = .ok (.bipush 16, 2) := by decide +kernel
theorem dX4_copy_41 : decode cX4_copy 41 = .ok (.iload_n 2, 1) := by decide +kernel
theorem dX4_copy_42 : decode cX4_copy 42 = .ok (.iadd, 1) := by decide +kernel
theorem dX4_copy_43 : decode cX4_copy 43 = .ok (.aload_n 0, 1) := by decide +kernel
theorem dX4_copy_44 : decode cX4_copy 44 = .ok (.iload_n 2, 1) := by decide +kernel
theorem dX4_copy_45 : decode cX4_copy 45 = .ok (.invokevirtual 45, 3) := by decide +kernel
theorem dX4_copy_48 : decode cX4_copy 48 = .ok (.iastore, 1) := by decide +kernel
theorem dX4_copy_49 : decode cX4_copy 49 = .ok (.iinc 2 1, 3) := by decide +kernel
theorem dX4_copy_52 : decode cX4_copy 52 = .ok (.goto (-39), 3) := by decide +kernel
theorem dX4_copy_55 : decode cX4_copy 55 = .ok (.iload_n 1, 1) := by decide +kernel
theorem dX4_copy_56 : decode cX4_copy 56 = .ok (.ireturn, 1) := by decide +kernel
set_option maxRecDepth 20000 in
theorem ggX4_fit_X4_record : GoodIn wsX4_fit wsX4_record := goodIn_r _ [7, 8, 9, 2, 17, 18, 19, 20, 21, 22, 23, 24, 25, 26, 27, 28] (by decide +kernel) (by decide +kernel)
set_option maxRecDepth 20000 in
theorem gX4_fit_X4_record : GoodIn wsX4_fit (wsV RX4 55 RX4 yX4_record wsX4_record) := goodIn_app (goodIn_of _ (by decide +kernel)) ggX4_fit_X4_record
set_option maxRecDepth 20000 in
theorem ggX4_fit_X4_ofPattern : GoodIn wsX4_fit wsX4_ofPattern := goodIn_r _ [13, 2, 14, 15, 6, 16, 17, 18, 19, 20, 21, 22, 23, 24, 25, 26, 27, 28] (by decide +kernel) (by decide +kernel)
set_option maxRecDepth 20000 in
theorem gX4_fit_X4_ofPattern : GoodIn wsX4_fit (wsV RX4 71 RX4 yX4_ofPattern wsX4_ofPattern) := goodIn_app (goodIn_of _ (by decide +kernel)) ggX4_fit_X4_ofPattern
theorem dX4_fit_0 : decode cX4_fit 0 = .ok (.aload_n 0, 1) := by decide +kernel
theorem dX4_fit_1 : decode cX4_fit 1 = .ok (.iconst 0, 1) := by decide +kernel
theorem dX4_fit_2 : decode cX4_fit 2 = .ok (.putfield 29, 3) := by decide +kernel
theorem dX4_fit_5 : decode cX4_fit 5 = .ok (.aload_n 0, 1) := by decide +kernel
theorem dX4_fit_6 : decode cX4_fit 6 = .ok (.invokevirtual 55, 3) := by decide +kernel
theorem dX4_fit_9 : decode cX4_fit 9 = .ok (.iconst 0, 1) := by decide +kernel
theorem dX4_fit_10 : decode cX4_fit 10 = .ok (.istore_n 1, 1) := by decide +kernel
theorem dX4_fit_11 : decode cX4_fit 11 = .ok (.iconst 0, 1) := by decide +kernel
theorem dX4_fit_12 : decode cX4_fit 12 = .ok (.istore_n 2, 1) := by decide +kernel
theorem dX4_fit_13 : decode cX4_fit 13 = .ok (.iload_n 2, 1) := by decide +kernel
theorem dX4_fit_14 : decode cX4_fit 14 = .ok (.bipush 8, 2) := by decide +kernel
theorem dX4_fit_16 : decode cX4_fit 16 = .ok (.if_icmp .ge 74, 3) := by decide +kernel
theorem dX4_fit_19 : decode cX4_fit 19 = .ok (.aload_n 0, 1) := by decide +kernel
theorem dX4_fit_20 : decode cX4_fit 20 = .ok (.iload_n 2, 1) := by decide +kernel
theorem dX4_fit_21 : decode cX4_fit 21 = .ok (.invokevirtual 71, 3) := by decide +kernel
theorem dX4_fit_24 : decode cX4_fit 24 = .ok (.istore_n 3, 1) := by decide +kernel
theorem dX4_fit_25 : decode cX4_fit 25 = .ok (.iload_n 3, 1) := by decide +kernel
theorem dX4_fit_26 : decode cX4_fit 26 = .ok (.bipush (-99), 2) := by decide +kernel
theorem dX4_fit_28 : decode cX4_fit 28 = .ok (.if_icmp .ge 8, 3) := by decide +kernel
theorem dX4_fit_31 : decode cX4_fit 31 = .ok (.bipush (-99), 2) := by decide +kernel
theorem dX4_fit_33 : decode cX4_fit 33 = .ok (.goto 15, 3) := by decide +kernel
theorem dX4_fit_36 : decode cX4_fit 36 = .ok (.iload_n 3, 1) := by decide +kernel
theorem dX4_fit_37 : decode cX4_fit 37 = .ok (.bipush 99, 2) := by decide +kernel
theorem dX4_fit_39 : decode cX4_fit 39 = .ok (.if_icmp .le 8, 3) := by decide +kernel
theorem dX4_fit_42 : decode cX4_fit 42 = .ok (.bipush 99, 2) := by decide +kernel
theorem dX4_fit_44 : decode cX4_fit 44 = .ok (.goto 4, 3) := by decide +kernel
theorem dX4_fit_47 : decode cX4_fit 47 = .ok (.iload_n 3, 1) := by decide +kernel
theorem dX4_fit_48 : decode cX4_fit 48 = .ok (.istore_n 3, 1) := by decide +kernel
theorem dX4_fit_49 : decode cX4_fit 49 = .ok (.iload_n 1, 1) := by decide +kernel
theorem dX4_fit_50 : decode cX4_fit 50 = .ok (.iload_n 3, 1) := by decide +kernel
theorem dX4_fit_51 : decode cX4_fit 51 = .ok (.aload_n 0, 1) := by decide +kernel
theorem dX4_fit_52 : decode cX4_fit 52 = .ok (.getfield 7, 3) := by decide +kernel
theorem dX4_fit_55 : decode cX4_fit 55 = .ok (.iload_n 2, 1) := by decide +kernel
theorem dX4_fit_56 : decode cX4_fit 56 = .ok (.iaload, 1) := by decide +kernel
theorem dX4_fit_57 : decode cX4_fit 57 = .ok (.if_icmp .ne 7, 3) := by decide +kernel
theorem dX4_fit_60 : decode cX4_fit 60 = .ok (.iconst 0, 1) := by decide +kernel
theorem dX4_fit_61 : decode cX4_fit 61 = .ok (.goto 4, 3) := by decide +kernel
theorem dX4_fit_64 : decode cX4_fit 64 = .ok (.iconst 1, 1) := by decide +kernel
theorem dX4_fit_65 : decode cX4_fit 65 = .ok (.iadd, 1) := by decide +kernel
theorem dX4_fit_66 : decode cX4_fit 66 = .ok (.istore_n 1, 1) := by decide +kernel
theorem dX4_fit_67 : decode cX4_fit 67 = .ok (.aload_n 0, 1) := by decide +kernel
theorem dX4_fit_68 : decode cX4_fit 68 = .ok (.getfield 7, 3) := by decide +kernel
theorem dX4_fit_71 : decode cX4_fit 71 = .ok (.iload_n 2, 1) := by decide +kernel
theorem dX4_fit_72 : decode cX4_fit 72 = .ok (.iload_n 3, 1) := by decide +kernel
theorem dX4_fit_73 : decode cX4_fit 73 = .ok (.iastore, 1) := by decide +kernel
theorem dX4_fit_74 : decode cX4_fit 74 = .ok (.aload_n 0, 1) := by decide +kernel
theorem dX4_fit_75 : decode cX4_fit 75 = .ok (.getfield 7, 3) := by decide +kernel
theorem dX4_fit_78 : decode cX4_fit 78 = .ok (.bipush 8, 2) := by decide +kernel
theorem dX4_fit_80 : decode cX4_fit 80 = .ok (.iload_n 2, 1) := by decide +kernel
theorem dX4_fit_81 : decode cX4_fit 81 = .ok (.iadd, 1) := by decide +kernel
theorem dX4_fit_82 : decode cX4_fit 82 = .ok (.iconst 0, 1) := by decide +kernel
theorem dX4_fit_83 : decode cX4_fit 83 = .ok (.iastore, 1) := by decide +kernel
theorem dX4_fit_84 : decode cX4_fit 84 = .ok (.iinc 2 1, 3) := by decide +kernel
theorem dX4_fit_87 : decode cX4_fit 87 = .ok (.goto (-74), 3) := by decide +kernel
theorem dX4_fit_90 : decode cX4_fit 90 = .ok (.aload_n 0, 1) := by decide +kernel
theorem dX4_fit_91 : decode cX4_fit 91 = .ok (.getfield 7, 3) := by decide +kernel
theorem dX4_fit_94 : decode cX4_fit 94 = .ok (.bipush 24, 2) := by decide +kernel
theorem dX4_fit_96 : decode cX4_fit 96 = .ok (.dup2, 1) := by decide +kernel
theorem dX4_fit_97 : decode cX4_fit 97 = .ok (.iaload, 1) := by decide +kernel
theorem dX4_fit_98 : decode cX4_fit 98 = .ok (.iload_n 1, 1) := by decide +kernel
theorem dX4_fit_99 : decode cX4_fit 99 = .ok (.iadd, 1) := by decide +kernel
theorem dX4_fit_100 : decode cX4_fit 100 = .ok (.iastore, 1) := by decide +kernel
theorem dX4_fit_101 : decode cX4_fit 101 = .ok (.iload_n 1, 1) := by decide +kernel
theorem dX4_fit_102 : decode cX4_fit 102 = .ok (.ireturn, 1) := by decide +kernel
set_option maxRecDepth 20000 in
theorem ggX4_append_X4_in : GoodIn wsX4_append wsX4_in := goodIn_r _ [7] (by decide +kernel) (by decide +kernel)
set_option maxRecDepth 20000 in
theorem gX4_append_X4_in : GoodIn wsX4_append (va_wsS RX4 33 yX4_in wsX4_in) := goodIn_app (goodIn_of _ (by decide +kernel)) ggX4_append_X4_in
theorem dX4_append_0 : decode cX4_append 0 = .ok (.aload_n 0, 1) := by decide +kernel
theorem dX4_append_1 : decode cX4_append 1 = .ok (.iload_n 1, 1) := by decide +kernel
theorem dX4_append_2 : decode cX4_append 2 = .ok (.bipush 33, 2) := by decide +kernel
theorem dX4_append_4 : decode cX4_append 4 = .ok (.bipush 126, 2) := by decide +kernel
theorem dX4_append_6 : decode cX4_append 6 = .ok (.invokestatic 33, 3) := by decide +kernel
theorem dX4_append_9 : decode cX4_append 9 = .ok (.ifCond .ne 7, 3) := by decide +kernel
theorem dX4_append_12 : decode cX4_append 12 = .ok (.iconst 1, 1) := by decide +kernel
theorem dX4_append_13 : decode cX4_append 13 = .ok (.goto 17, 3) := by decide +kernel
theorem dX4_append_16 : decode cX4_append 16 = .ok (.aload_n 0, 1) := by decide +kernel
theorem dX4_append_17 : decode cX4_append 17 = .ok (.getfield 74, 3) := by decide +kernel
theorem dX4_append_20 : decode cX4_append 20 = .ok (.bipush 60, 2) := by decide +kernel
theorem dX4_append_22 : decode cX4_append 22 = .ok (.if_icmp .ne 7, 3) := by decide +kernel
theorem dX4_append_25 : decode cX4_append 25 = .ok (.iconst 2, 1) := by decide +kernel
theorem dX4_append_26 : decode cX4_append 26 = .ok (.goto 4, 3) := by decide +kernel
theorem dX4_append_29 : decode cX4_append 29 = .ok (.iconst 0, 1) := by decide +kernel
theorem dX4_append_30 : decode cX4_append 30 = .ok (.putfield 29, 3) := by decide +kernel
theorem dX4_append_33 : decode cX4_append 33 = .ok (.aload_n 0, 1) := by decide +kernel
theorem dX4_append_34 : decode cX4_append 34 = .ok (.getfield 29, 3) := by decide +kernel
theorem dX4_append_37 : decode cX4_append 37 = .ok (.ifCond .le 5, 3) := by decide +kernel
theorem dX4_append_40 : decode cX4_append 40 = .ok (.iconst 0, 1) := by decide +kernel
theorem dX4_append_41 : decode cX4_append 41 = .ok (.ireturn, 1) := by decide +kernel
theorem dX4_append_42 : decode cX4_append 42 = .ok (.aload_n 0, 1) := by decide +kernel
theorem dX4_append_43 : decode cX4_append 43 = .ok (.getfield 23, 3) := by decide +kernel
theorem dX4_append_46 : decode cX4_append 46 = .ok (.aload_n 0, 1) := by decide +kernel
theorem dX4_append_47 : decode cX4_append 47 = .ok (.getfield 74, 3) := by decide +kernel
theorem dX4_append_50 : decode cX4_append 50 = .ok (.iload_n 1, 1) := by decide +kernel
theorem dX4_append_51 : decode cX4_append 51 = .ok (.iastore, 1) := by decide +kernel
theorem dX4_append_52 : decode cX4_append 52 = .ok (.aload_n 0, 1) := by decide +kernel
theorem dX4_append_53 : decode cX4_append 53 = .ok (.dup, 1) := by decide +kernel
theorem dX4_append_54 : decode cX4_append 54 = .ok (.getfield 74, 3) := by decide +kernel
theorem dX4_append_57 : decode cX4_append 57 = .ok (.iconst 1, 1) := by decide +kernel
theorem dX4_append_58 : decode cX4_append 58 = .ok (.iadd, 1) := by decide +kernel
theorem dX4_append_59 : decode cX4_append 59 = .ok (.putfield 74, 3) := by decide +kernel
theorem dX4_append_62 : decode cX4_append 62 = .ok (.aload_n 0, 1) := by decide +kernel
theorem dX4_append_63 : decode cX4_append 63 = .ok (.getfield 74, 3) := by decide +kernel
theorem dX4_append_66 : decode cX4_append 66 = .ok (.ireturn, 1) := by decide +kernel
theorem dX4_clearBuffer_0 : decode cX4_clearBuffer 0 = .ok (.aload_n 0, 1) := by decide +kernel
theorem dX4_clearBuffer_1 : decode cX4_clearBuffer 1 = .ok (.iconst 0, 1) := by decide +kernel
theorem dX4_clearBuffer_2 : decode cX4_clearBuffer 2 = .ok (.putfield 29, 3) := by decide +kernel
theorem dX4_clearBuffer_5 : decode cX4_clearBuffer 5 = .ok (.aload_n 0, 1) := by decide +kernel
theorem dX4_clearBuffer_6 : decode cX4_clearBuffer 6 = .ok (.getfield 74, 3) := by decide +kernel
theorem dX4_clearBuffer_9 : decode cX4_clearBuffer 9 = .ok (.istore_n 1, 1) := by decide +kernel
theorem dX4_clearBuffer_10 : decode cX4_clearBuffer 10 = .ok (.aload_n 0, 1) := by decide +kernel
theorem dX4_clearBuffer_11 : decode cX4_clearBuffer 11 = .ok (.iconst 0, 1) := by decide +kernel
theorem dX4_clearBuffer_12 : decode cX4_clearBuffer 12 = .ok (.putfield 74, 3) := by decide +kernel
theorem dX4_clearBuffer_15 : decode cX4_clearBuffer 15 = .ok (.iload_n 1, 1) := by decide +kernel
theorem dX4_clearBuffer_16 : decode cX4_clearBuffer 16 = .ok (.ireturn, 1) := by decide +kernel
theorem dX4_at_0 : decode cX4_at 0 = .ok (.iload_n 1, 1) := by decide +kernel
theorem dX4_at_1 : decode cX4_at 1 = .ok (.aload_n 0, 1) := by decide +kernel
theorem dX4_at_2 : decode cX4_at 2 = .ok (.getfield 74, 3) := by decide +kernel
theorem dX4_at_5 : decode cX4_at 5 = .ok (.if_icmp .ge 12, 3) := by decide +kernel
theorem dX4_at_8 : decode cX4_at 8 = .ok (.aload_n 0, 1) := by decide +kernel
theorem dX4_at_9 : decode cX4_at 9 = .ok (.getfield 23, 3) := by decide +kernel
theorem dX4_at_12 : decode cX4_at 12 = .ok (.iload_n 1, 1) := by decide +kernel
theorem dX4_at_13 : decode cX4_at 13 = .ok (.iaload, 1) := by decide +kernel
theorem dX4_at_14 : decode cX4_at 14 = .ok (.goto 4, 3) := by decide +kernel
theorem dX4_at_17 : decode cX4_at 17 = .ok (.iconst 0, 1) := by decide +kernel
theorem dX4_at_18 : decode cX4_at 18 = .ok (.ireturn, 1) := by decide +kernel
set_option maxRecDepth 20000 in
theorem ggX4_readPart_X4_at : GoodIn wsX4_readPart wsX4_at := goodIn_r _ [8, 9, 10, 17, 18, 19, 20, 21, 22, 23, 24, 25, 26, 27, 28] (by decide +kernel) (by decide +kernel)
set_option maxRecDepth 20000 in
theorem gX4_readPart_X4_at : GoodIn wsX4_readPart (wsV RX4 77 RX4 yX4_at wsX4_at) := goodIn_app (goodIn_of _ (by decide +kernel)) ggX4_readPart_X4_at
set_option maxRecDepth 20000 in
theorem ggX4_readPart_X4_isOne : GoodIn wsX4_readPart wsX4_isOne := goodIn_r _ [13, 14, 15, 7, 16] (by decide +kernel) (by decide +kernel)
set_option maxRecDepth 20000 in
theorem gX4_readPart_X4_isOne : GoodIn wsX4_readPart (va_wsS RX4 58 yX4_isOne wsX4_isOne) := goodIn_app (goodIn_of _ (by decide +kernel)) ggX4_readPart_X4_isOne
set_option maxRecDepth 20000 in
theorem ggX4_readPart_X4_in : GoodIn wsX4_readPart wsX4_in := goodIn_r _ [16] (by decide +kernel) (by decide +kernel)
set_option maxRecDepth 20000 in
theorem gX4_readPart_X4_in : GoodIn wsX4_readPart (va_wsS RX4 33 yX4_in wsX4_in) := goodIn_app (goodIn_of _ (by decide +kernel)) ggX4_readPart_X4_in
theorem dX4_readPart_0 : decode cX4_readPart 0 = .ok (.aload_n 0, 1) := by decide +kernel
theorem dX4_readPart_1 : decode cX4_readPart 1 = .ok (.aload_n 0, 1) := by decide +kernel
theorem dX4_readPart_2 : decode cX4_readPart 2 = .ok (.iload_n 1, 1) := by decide +kernel
theorem dX4_readPart_3 : decode cX4_readPart 3 = .ok (.invokevirtual 77, 3) := by decide +kernel
theorem dX4_readPart_6 : decode cX4_readPart 6 = .ok (.bipush 97, 2) := by decide +kernel
theorem dX4_readPart_8 : decode cX4_readPart 8 = .ok (.isub, 1) := by decide +kernel
theorem dX4_readPart_9 : decode cX4_readPart 9 = .ok (.putfield 80, 3) := by decide +kernel
theorem dX4_readPart_12 : decode cX4_readPart 12 = .ok (.aload_n 0, 1) := by decide +kernel
theorem dX4_readPart_13 : decode cX4_readPart 13 = .ok (.aload_n 0, 1) := by decide +kernel
theorem dX4_readPart_14 : decode cX4_readPart 14 = .ok (.iload_n 1, 1) := by decide +kernel
theorem dX4_readPart_15 : decode cX4_readPart 15 = .ok (.iconst 1, 1) := by decide +kernel
theorem dX4_readPart_16 : decode cX4_readPart 16 = .ok (.iadd, 1) := by decide +kernel
theorem dX4_readPart_17 : decode cX4_readPart 17 = .ok (.invokevirtual 77, 3) := by decide +kernel
theorem dX4_readPart_20 : decode cX4_readPart 20 = .ok (.bipush 33, 2) := by decide +kernel
theorem dX4_readPart_22 : decode cX4_readPart 22 = .ok (.if_icmp .ne 7, 3) := by decide +kernel
theorem dX4_readPart_25 : decode cX4_readPart 25 = .ok (.iconst 1, 1) := by decide +kernel
theorem dX4_readPart_26 : decode cX4_readPart 26 = .ok (.goto 4, 3) := by decide +kernel
theorem dX4_readPart_29 : decode cX4_readPart 29 = .ok (.iconst 0, 1) := by decide +kernel
theorem dX4_readPart_30 : decode cX4_readPart 30 = .ok (.putfield 83, 3) := by decide +kernel
theorem dX4_readPart_33 : decode cX4_readPart 33 = .ok (.aload_n 0, 1) := by decide +kernel
theorem dX4_readPart_34 : decode cX4_readPart 34 = .ok (.getfield 80, 3) := by decide +kernel
theorem dX4_readPart_37 : decode cX4_readPart 37 = .ok (.invokestatic 58, 3) := by decide +kernel
theorem dX4_readPart_40 : decode cX4_readPart 40 = .ok (.ifCond .ne 7, 3) := by decide +kernel
theorem dX4_readPart_43 : decode cX4_readPart 43 = .ok (.iconst (-1), 1) := by decide +kernel
theorem dX4_readPart_44 : decode cX4_readPart 44 = .ok (.iload_n 1, 1) := by decide +kernel
theorem dX4_readPart_45 : decode cX4_readPart 45 = .ok (.isub, 1) := by decide +kernel
theorem dX4_readPart_46 : decode cX4_readPart 46 = .ok (.ireturn, 1) := by decide +kernel
theorem dX4_readPart_47 : decode cX4_readPart 47 = .ok (.aload_n 0, 1) := by decide +kernel
theorem dX4_readPart_48 : decode cX4_readPart 48 = .ok (.getfield 83, 3) := by decide +kernel
theorem dX4_readPart_51 : decode cX4_readPart 51 = .ok (.ifCond .eq 7, 3) := by decide +kernel
theorem dX4_readPart_54 : decode cX4_readPart 54 = .ok (.iload_n 1, 1) := by decide +kernel
theorem dX4_readPart_55 : decode cX4_readPart 55 = .ok (.iconst 2, 1) := by decide +kernel
theorem dX4_readPart_56 : decode cX4_readPart 56 = .ok (.iadd, 1) := by decide +kernel
theorem dX4_readPart_57 : decode cX4_readPart 57 = .ok (.ireturn, 1) := by decide +kernel
theorem dX4_readPart_58 : decode cX4_readPart 58 = .ok (.aload_n 0, 1) := by decide +kernel
theorem dX4_readPart_59 : decode cX4_readPart 59 = .ok (.iload_n 1, 1) := by decide +kernel
theorem dX4_readPart_60 : decode cX4_readPart 60 = .ok (.iconst 1, 1) := by decide +kernel
theorem dX4_readPart_61 : decode cX4_readPart 61 = .ok (.iadd, 1) := by decide +kernel
theorem dX4_readPart_62 : decode cX4_readPart 62 = .ok (.invokevirtual 77, 3) := by decide +kernel
theorem dX4_readPart_65 : decode cX4_readPart 65 = .ok (.bipush 61, 2) := by decide +kernel
theorem dX4_readPart_67 : decode cX4_readPart 67 = .ok (.if_icmp .eq 8, 3) := by decide +kernel
theorem dX4_readPart_70 : decode cX4_readPart 70 = .ok (.bipush (-2), 2) := by decide +kernel
theorem dX4_readPart_72 : decode cX4_readPart 72 = .ok (.iload_n 1, 1) := by decide +kernel
theorem dX4_readPart_73 : decode cX4_readPart 73 = .ok (.isub, 1) := by decide +kernel
theorem dX4_readPart_74 : decode cX4_readPart 74 = .ok (.ireturn, 1) := by decide +kernel
theorem dX4_readPart_75 : decode cX4_readPart 75 = .ok (.aload_n 0, 1) := by decide +kernel
theorem dX4_readPart_76 : decode cX4_readPart 76 = .ok (.iload_n 1, 1) := by decide +kernel
theorem dX4_readPart_77 : decode cX4_readPart 77 = .ok (.iconst 2, 1) := by decide +kernel
theorem dX4_readPart_78 : decode cX4_readPart 78 = .ok (.iadd, 1) := by decide +kernel
theorem dX4_readPart_79 : decode cX4_readPart 79 = .ok (.invokevirtual 77, 3) := by decide +kernel
theorem dX4_readPart_82 : decode cX4_readPart 82 = .ok (.bipush 45, 2) := by decide +kernel
theorem dX4_readPart_84 : decode cX4_readPart 84 = .ok (.if_icmp .ne 7, 3) := by decide +kernel
theorem dX4_readPart_87 : decode cX4_readPart 87 = .ok (.iconst 1, 1) := by decide +kernel
theorem dX4_readPart_88 : decode cX4_readPart 88 = .ok (.goto 4, 3) := by decide +kernel
theorem dX4_readPart_91 : decode cX4_readPart 91 = .ok (.iconst 0, 1) := by decide +kernel
theorem dX4_readPart_92 : decode cX4_readPart 92 = .ok (.istore_n 2, 1) := by decide +kernel
theorem dX4_readPart_93 : decode cX4_readPart 93 = .ok (.iload_n 2, 1) := by decide +kernel
theorem dX4_readPart_94 : decode cX4_readPart 94 = .ok (.ifCond .eq 9, 3) := by decide +kernel
theorem dX4_readPart_97 : decode cX4_readPart 97 = .ok (.iload_n 1, 1) := by decide +kernel
theorem dX4_readPart_98 : decode cX4_readPart 98 = .ok (.iconst 3, 1) := by decide +kernel
theorem dX4_readPart_99 : decode cX4_readPart 99 = .ok (.iadd, 1) := by decide +kernel
theorem dX4_readPart_100 : decode cX4_readPart 100 = .ok (.goto 6, 3) := by decide +kernel
theorem dX4_readPart_103 : decode cX4_readPart 103 = .ok (.iload_n 1, 1) := by decide +kernel
theorem dX4_readPart_104 : decode cX4_readPart 104 = .ok (.iconst 2, 1) := by decide +kernel
theorem dX4_readPart_105 : decode cX4_readPart 105 = .ok (.iadd, 1) := by decide +kernel
theorem dX4_readPart_106 : decode cX4_readPart 106 = .ok (.istore_n 3, 1) := by decide +kernel
theorem dX4_readPart_107 : decode cX4_readPart 107 = .ok (.aload_n 0, 1) := by decide +kernel
theorem dX4_readPart_108 : decode cX4_readPart 108 = .ok (.aload_n 0, 1) := by decide +kernel
theorem dX4_readPart_109 : decode cX4_readPart 109 = .ok (.iload_n 3, 1) := by decide +kernel
theorem dX4_readPart_110 : decode cX4_readPart 110 = .ok (.invokevirtual 77, 3) := by decide +kernel
theorem dX4_readPart_113 : decode cX4_readPart 113 = .ok (.bipush 48, 2) := by decide +kernel
theorem dX4_readPart_115 : decode cX4_readPart 115 = .ok (.isub, 1) := by decide +kernel
theorem dX4_readPart_116 : decode cX4_readPart 116 = .ok (.putfield 87, 3) := by decide +kernel
theorem dX4_readPart_119 : decode cX4_readPart 119 = .ok (.aload_n 0, 1) := by decide +kernel
theorem dX4_readPart_120 : decode cX4_readPart 120 = .ok (.getfield 87, 3) := by decide +kernel
theorem dX4_readPart_123 : decode cX4_readPart 123 = .ok (.iload_n 2, 1) := by decide +kernel
theorem dX4_readPart_124 : decode cX4_readPart 124 = .ok (.ifCond .eq 7, 3) := by decide +kernel
theorem dX4_readPart_127 : decode cX4_readPart 127 = .ok (.iconst 1, 1) := by decide +kernel
theorem dX4_readPart_128 : decode cX4_readPart 128 = .ok (.goto 4, 3) := by decide +kernel
theorem dX4_readPart_131 : decode cX4_readPart 131 = .ok (.iconst 0, 1) := by decide +kernel
theorem dX4_readPart_132 : decode cX4_readPart 132 = .ok (.bipush 9, 2) := by decide +kernel
theorem dX4_readPart_134 : decode cX4_readPart 134 = .ok (.invokestatic 33, 3) := by decide +kernel
theorem dX4_readPart_137 : decode cX4_readPart 137 = .ok (.ifCond .ne 7, 3) := by decide +kernel
theorem dX4_readPart_140 : decode cX4_readPart 140 = .ok (.iconst (-1), 1) := by decide +kernel
theorem dX4_readPart_141 : decode cX4_readPart 141 = .ok (.iload_n 3, 1) := by decide +kernel
theorem dX4_readPart_142 : decode cX4_readPart 142 = .ok (.isub, 1) := by decide +kernel
theorem dX4_readPart_143 : decode cX4_readPart 143 = .ok (.ireturn, 1) := by decide +kernel
theorem dX4_readPart_144 : decode cX4_readPart 144 = .ok (.iinc 3 1, 3) := by decide +kernel
theorem dX4_readPart_147 : decode cX4_readPart 147 = .ok (.aload_n 0, 1) := by decide +kernel
theorem dX4_readPart_148 : decode cX4_readPart 148 = .ok (.getfield 87, 3) := by decide +kernel
theorem dX4_readPart_151 : decode cX4_readPart 151 = .ok (.ifCond .le 41, 3) := by decide +kernel
theorem dX4_readPart_154 : decode cX4_readPart 154 = .ok (.aload_n 0, 1) := by decide +kernel
theorem dX4_readPart_155 : decode cX4_readPart 155 = .ok (.iload_n 3, 1) := by decide +kernel
theorem dX4_readPart_156 : decode cX4_readPart 156 = .ok (.invokevirtual 77, 3) := by decide +kernel
theorem dX4_readPart_159 : decode cX4_readPart 159 = .ok (.bipush 48, 2) := by decide +kernel
theorem dX4_readPart_161 : decode cX4_readPart 161 = .ok (.bipush 57, 2) := by decide +kernel
theorem dX4_readPart_163 : decode cX4_readPart 163 = .ok (.invokestatic 33, 3) := by decide +kernel
theorem dX4_readPart_166 : decode cX4_readPart 166 = .ok (.ifCond .eq 26, 3) := by decide +kernel
theorem dX4_readPart_169 : decode cX4_readPart 169 = .ok (.aload_n 0, 1) := by decide +kernel
theorem dX4_readPart_170 : decode cX4_readPart 170 = .ok (.bipush 10, 2) := by decide +kernel
theorem dX4_readPart_172 : decode cX4_readPart 172 = .ok (.aload_n 0, 1) := by decide +kernel
theorem dX4_readPart_173 : decode cX4_readPart 173 = .ok (.getfield 87, 3) := by decide +kernel
theorem dX4_readPart_176 : decode cX4_readPart 176 = .ok (.imul, 1) := by decide +kernel
theorem dX4_readPart_177 : decode cX4_readPart 177 = .ok (.aload_n 0, 1) := by decide +kernel
theorem dX4_readPart_178 : decode cX4_readPart 178 = .ok (.iload_n 3, 1) := by decide +kernel
theorem dX4_readPart_179 : decode cX4_readPart 179 = .ok (.invokevirtual 77, 3) := by decide +kernel
theorem dX4_readPart_182 : decode cX4_readPart 182 = .ok (.iadd, 1) := by decide +kernel
theorem dX4_readPart_183 : decode cX4_readPart 183 = .ok (.bipush 48, 2) := by decide +kernel
theorem dX4_readPart_185 : decode cX4_readPart 185 = .ok (.isub, 1) := by decide +kernel
theorem dX4_readPart_186 : decode cX4_readPart 186 = .ok (.putfield 87, 3) := by decide +kernel
theorem dX4_readPart_189 : decode cX4_readPart 189 = .ok (.iinc 3 1, 3) := by decide +kernel
theorem dX4_readPart_192 : decode cX4_readPart 192 = .ok (.aload_n 0, 1) := by decide +kernel
theorem dX4_readPart_193 : decode cX4_readPart 193 = .ok (.iload_n 2, 1) := by decide +kernel
theorem dX4_readPart_194 : decode cX4_readPart 194 = .ok (.ifCond .eq 11, 3) := by decide +kernel
theorem dX4_readPart_197 : decode cX4_readPart 197 = .ok (.aload_n 0, 1) := by decide +kernel
theorem dX4_readPart_198 : decode cX4_readPart 198 = .ok (.getfield 87, 3) := by decide +kernel
theorem dX4_readPart_201 : decode cX4_readPart 201 = .ok (.ineg, 1) := by decide +kernel
theorem dX4_readPart_202 : decode cX4_readPart 202 = .ok (.goto 7, 3) := by decide +kernel
theorem dX4_readPart_205 : decode cX4_readPart 205 = .ok (.aload_n 0, 1) := by decide +kernel
theorem dX4_readPart_206 : decode cX4_readPart 206 = .ok (.getfield 87, 3) := by decide +kernel
theorem dX4_readPart_209 : decode cX4_readPart 209 = .ok (.putfield 87, 3) := by decide +kernel
theorem dX4_readPart_212 : decode cX4_readPart 212 = .ok (.iload_n 3, 1) := by decide +kernel
theorem dX4_readPart_213 : decode cX4_readPart 213 = .ok (.ireturn, 1) := by decide +kernel
set_option maxRecDepth 20000 in
theorem ggX4_findError_X4_readPart : GoodIn wsX4_findError wsX4_readPart := goodIn_r _ [7, 8, 9, 10, 11, 12, 13, 6, 14, 1, 2, 15, 16, 17, 18, 19, 20, 21, 22, 23, 24, 25, 26, 27, 28, 29, 30, 31, 32] (by decide +kernel) (by decide +kernel)
set_option maxRecDepth 20000 in
theorem gX4_findError_X4_readPart : GoodIn wsX4_findError (wsV RX4 90 RX4 yX4_readPart wsX4_readPart) := goodIn_app (goodIn_of _ (by decide +kernel)) ggX4_findError_X4_readPart
theorem dX4_findError_0 : decode cX4_findError 0 = .ok (.iconst 0, 1) := by decide +kernel
theorem dX4_findError_1 : decode cX4_findError 1 = .ok (.istore_n 1, 1) := by decide +kernel
theorem dX4_findError_2 : decode cX4_findError 2 = .ok (.aload_n 0, 1) := by decide +kernel
theorem dX4_findError_3 : decode cX4_findError 3 = .ok (.iload_n 1, 1) := by decide +kernel
theorem dX4_findError_4 : decode cX4_findError 4 = .ok (.invokevirtual 90, 3) := by decide +kernel
theorem dX4_findError_7 : decode cX4_findError 7 = .ok (.istore_n 1, 1) := by decide +kernel
theorem dX4_findError_8 : decode cX4_findError 8 = .ok (.iload_n 1, 1) := by decide +kernel
theorem dX4_findError_9 : decode cX4_findError 9 = .ok (.ifCond .ge 7, 3) := by decide +kernel
theorem dX4_findError_12 : decode cX4_findError 12 = .ok (.iconst (-1), 1) := by decide +kernel
theorem dX4_findError_13 : decode cX4_findError 13 = .ok (.iload_n 1, 1) := by decide +kernel
theorem dX4_findError_14 : decode cX4_findError 14 = .ok (.isub, 1) := by decide +kernel
theorem dX4_findError_15 : decode cX4_findError 15 = .ok (.ireturn, 1) := by decide +kernel
theorem dX4_findError_16 : decode cX4_findError 16 = .ok (.iload_n 1, 1) := by decide +kernel
theorem dX4_findError_17 : decode cX4_findError 17 = .ok (.aload_n 0, 1) := by decide +kernel
theorem dX4_findError_18 : decode cX4_findError 18 = .ok (.getfield 74, 3) := by decide +kernel
theorem dX4_findError_21 : decode cX4_findError 21 = .ok (.if_icmp .ne 5, 3) := by decide +kernel
theorem dX4_findError_24 : decode cX4_findError 24 = .ok (.iconst (-1), 1) := by decide +kernel
theorem dX4_findError_25 : decode cX4_findError 25 = .ok (.ireturn, 1) := by decide +kernel
theorem dX4_findError_26 : decode cX4_findError 26 = .ok (.aload_n 0, 1) := by decide +kernel
theorem dX4_findError_27 : decode cX4_findError 27 = .ok (.getfield 23, 3) := by decide +kernel
theorem dX4_findError_30 : decode cX4_findError 30 = .ok (.iload_n 1, 1) := by decide +kernel
theorem dX4_findError_31 : decode cX4_findError 31 = .ok (.iaload, 1) := by decide +kernel
theorem dX4_findError_32 : decode cX4_findError 32 = .ok (.bipush 59, 2) := by decide +kernel
theorem dX4_findError_34 : decode cX4_findError 34 = .ok (.if_icmp .eq 5, 3) := by decide +kernel
theorem dX4_findError_37 : decode cX4_findError 37 = .ok (.iload_n 1, 1) := by decide +kernel
theorem dX4_findError_38 : decode cX4_findError 38 = .ok (.ireturn, 1) := by decide +kernel
theorem dX4_findError_39 : decode cX4_findError 39 = .ok (.iinc 1 1, 3) := by decide +kernel
theorem dX4_findError_42 : decode cX4_findError 42 = .ok (.goto (-40), 3) := by decide +kernel
set_option maxRecDepth 20000 in
theorem ggX4_firstError_X4_findError : GoodIn wsX4_firstError wsX4_findError := goodIn_r _ [7, 2, 8, 9, 10, 11, 6, 12, 13, 14, 15, 16, 17, 18, 19, 20, 21, 22, 23, 24, 25, 26, 27, 28, 29, 30, 31, 32, 33, 34, 35, 36, 37] (by decide +kernel) (by decide +kernel)
set_option maxRecDepth 20000 in
theorem gX4_firstError_X4_findError : GoodIn wsX4_firstError (wsV RX4 93 RX4 yX4_findError wsX4_findError) := goodIn_app (goodIn_of _ (by decide +kernel)) ggX4_firstError_X4_findError
theorem dX4_firstError_0 : decode cX4_firstError 0 = .ok (.aload_n 0, 1) := by decide +kernel
theorem dX4_firstError_1 : decode cX4_firstError 1 = .ok (.iconst 0, 1) := by decide +kernel
theorem dX4_firstError_2 : decode cX4_firstError 2 = .ok (.putfield 29, 3) := by decide +kernel
theorem dX4_firstError_5 : decode cX4_firstError 5 = .ok (.aload_n 0, 1) := by decide +kernel
theorem dX4_firstError_6 : decode cX4_firstError 6 = .ok (.invokevirtual 93, 3) := by decide +kernel
theorem dX4_firstError_9 : decode cX4_firstError 9 = .ok (.istore_n 1, 1) := by decide +kernel
theorem dX4_firstError_10 : decode cX4_firstError 10 = .ok (.iload_n 1, 1) := by decide +kernel
theorem dX4_firstError_11 : decode cX4_firstError 11 = .ok (.ifCond .ge 10, 3) := by decide +kernel
theorem dX4_firstError_14 : decode cX4_firstError 14 = .ok (.aload_n 0, 1) := by decide +kernel
theorem dX4_firstError_15 : decode cX4_firstError 15 = .ok (.getfield 74, 3) := by decide +kernel
theorem dX4_firstError_18 : decode cX4_firstError 18 = .ok (.goto 4, 3) := by decide +kernel
theorem dX4_firstError_21 : decode cX4_firstError 21 = .ok (.iload_n 1, 1) := by decide +kernel
theorem dX4_firstError_22 : decode cX4_firstError 22 = .ok (.ireturn, 1) := by decide +kernel
set_option maxRecDepth 20000 in
theorem ggX4_load_X4_findError : GoodIn wsX4_load wsX4_findError := goodIn_r _ [11, 3, 12, 13, 14, 15, 10, 16, 5, 4, 6, 17, 18, 19, 20, 21, 22, 23, 24, 25, 26, 37, 38, 39, 40, 41, 42, 43, 44, 45, 46, 47, 48] (by decide +kernel) (by decide +kernel)
set_option maxRecDepth 20000 in
theorem gX4_load_X4_findError : GoodIn wsX4_load (wsV RX4 93 RX4 yX4_findError wsX4_findError) := goodIn_app (goodIn_of _ (by decide +kernel)) ggX4_load_X4_findError
set_option maxRecDepth 20000 in
theorem ggX4_load_X4_record : GoodIn wsX4_load wsX4_record := goodIn_r _ [30, 31, 32, 2, 37, 38, 39, 40, 41, 42, 43, 44, 45, 46, 47, 48] (by decide +kernel) (by decide +kernel)
set_option maxRecDepth 20000 in
theorem gX4_load_X4_record : GoodIn wsX4_load (wsV RX4 55 RX4 yX4_record wsX4_record) := goodIn_app (goodIn_of _ (by decide +kernel)) ggX4_load_X4_record
set_option maxRecDepth 20000 in
theorem ggX4_load_X4_readPart : GoodIn wsX4_load wsX4_readPart := goodIn_r _ [16, 5, 4, 6, 17, 18, 19, 10, 20, 3, 12, 21, 22, 23, 24, 25, 26, 37, 38, 39, 40, 41, 42, 43, 44, 45, 46, 47, 48] (by decide +kernel) (by decide +kernel)
set_option maxRecDepth 20000 in
theorem gX4_load_X4_readPart : GoodIn wsX4_load (wsV RX4 90 RX4 yX4_readPart wsX4_readPart) := goodIn_app (goodIn_of _ (by decide +kernel)) ggX4_load_X4_readPart
set_option maxRecDepth 20000 in
theorem ggX4_load_X4_turning : GoodIn wsX4_load wsX4_turning := goodIn_r _ [36, 2, 37, 38, 39, 40, 41, 42, 43, 44, 45, 46, 47, 48] (by decide +kernel) (by decide +kernel)
set_option maxRecDepth 20000 in
theorem gX4_load_X4_turning : GoodIn wsX4_load (wsV RX4 51 RX4 yX4_turning wsX4_turning) := goodIn_app (goodIn_of _ (by decide +kernel)) ggX4_load_X4_turning
theorem dX4_load_0 : decode cX4_load 0 = .ok (.aload_n 0, 1) := by decide +kernel
theorem dX4_load_1 : decode cX4_load 1 = .ok (.aload_n 0, 1) := by decide +kernel
theorem dX4_load_2 : decode cX4_load 2 = .ok (.invokevirtual 93, 3) := by decide +kernel
theorem dX4_load_5 : decode cX4_load 5 = .ok (.ifCond .ge 7, 3) := by decide +kernel
theorem dX4_load_8 : decode cX4_load 8 = .ok (.iconst 0, 1) := by decide +kernel
theorem dX4_load_9 : decode cX4_load 9 = .ok (.goto 4, 3) := by decide +kernel
theorem dX4_load_12 : decode cX4_load 12 = .ok (.iconst 1, 1) := by decide +kernel
theorem dX4_load_13 : decode cX4_load 13 = .ok (.putfield 29, 3) := by decide +kernel
theorem dX4_load_16 : decode cX4_load 16 = .ok (.aload_n 0, 1) := by decide +kernel
theorem dX4_load_17 : decode cX4_load 17 = .ok (.getfield 29, 3) := by decide +kernel
theorem dX4_load_20 : decode cX4_load 20 = .ok (.ifCond .le 5, 3) := by decide +kernel
theorem dX4_load_23 : decode cX4_load 23 = .ok (.iconst 0, 1) := by decide +kernel
theorem dX4_load_24 : decode cX4_load 24 = .ok (.ireturn, 1) := by decide +kernel
theorem dX4_load_25 : decode cX4_load 25 = .ok (.aload_n 0, 1) := by decide +kernel
theorem dX4_load_26 : decode cX4_load 26 = .ok (.invokevirtual 55, 3) := by decide +kernel
theorem dX4_load_29 : decode cX4_load 29 = .ok (.iconst 0, 1) := by decide +kernel
theorem dX4_load_30 : decode cX4_load 30 = .ok (.istore_n 1, 1) := by decide +kernel
theorem dX4_load_31 : decode cX4_load 31 = .ok (.iload_n 1, 1) := by decide +kernel
theorem dX4_load_32 : decode cX4_load 32 = .ok (.bipush 16, 2) := by decide +kernel
theorem dX4_load_34 : decode cX4_load 34 = .ok (.if_icmp .ge 16, 3) := by decide +kernel
theorem dX4_load_37 : decode cX4_load 37 = .ok (.aload_n 0, 1) := by decide +kernel
theorem dX4_load_38 : decode cX4_load 38 = .ok (.getfield 7, 3) := by decide +kernel
theorem dX4_load_41 : decode cX4_load 41 = .ok (.iload_n 1, 1) := by decide +kernel
theorem dX4_load_42 : decode cX4_load 42 = .ok (.iconst 0, 1) := by decide +kernel
theorem dX4_load_43 : decode cX4_load 43 = .ok (.iastore, 1) := by decide +kernel
theorem dX4_load_44 : decode cX4_load 44 = .ok (.iinc 1 1, 3) := by decide +kernel
theorem dX4_load_47 : decode cX4_load 47 = .ok (.goto (-16), 3) := by decide +kernel
theorem dX4_load_50 : decode cX4_load 50 = .ok (.iconst 0, 1) := by decide +kernel
theorem dX4_load_51 : decode cX4_load 51 = .ok (.istore_n 1, 1) := by decide +kernel
theorem dX4_load_52 : decode cX4_load 52 = .ok (.iload_n 1, 1) := by decide +kernel
theorem dX4_load_53 : decode cX4_load 53 = .ok (.aload_n 0, 1) := by decide +kernel
theorem dX4_load_54 : decode cX4_load 54 = .ok (.getfield 74, 3) := by decide +kernel
theorem dX4_load_57 : decode cX4_load 57 = .ok (.if_icmp .ge 50, 3) := by decide +kernel
theorem dX4_load_60 : decode cX4_load 60 = .ok (.aload_n 0, 1) := by decide +kernel
theorem dX4_load_61 : decode cX4_load 61 = .ok (.iload_n 1, 1) := by decide +kernel
theorem dX4_load_62 : decode cX4_load 62 = .ok (.invokevirtual 90, 3) := by decide +kernel
theorem dX4_load_65 : decode cX4_load 65 = .ok (.iconst 1, 1) := by decide +kernel
theorem dX4_load_66 : decode cX4_load 66 = .ok (.iadd, 1) := by decide +kernel
theorem dX4_load_67 : decode cX4_load 67 = .ok (.istore_n 1, 1) := by decide +kernel
theorem dX4_load_68 : decode cX4_load 68 = .ok (.aload_n 0, 1) := by decide +kernel
theorem dX4_load_69 : decode cX4_load 69 = .ok (.getfield 83, 3) := by decide +kernel
theorem dX4_load_72 : decode cX4_load 72 = .ok (.ifCond .eq 19, 3) := by decide +kernel
theorem dX4_load_75 : decode cX4_load 75 = .ok (.aload_n 0, 1) := by decide +kernel
theorem dX4_load_76 : decode cX4_load 76 = .ok (.getfield 7, 3) := by decide +kernel
theorem dX4_load_79 : decode cX4_load 79 = .ok (.bipush 8, 2) := by decide +kernel
theorem dX4_load_81 : decode cX4_load 81 = .ok (.aload_n 0, 1) := by decide +kernel
theorem dX4_load_82 : decode cX4_load 82 = .ok (.getfield 80, 3) := by decide +kernel
theorem dX4_load_85 : decode cX4_load 85 = .ok (.iadd, 1) := by decide +kernel
theorem dX4_load_86 : decode cX4_load 86 = .ok (.iconst 1, 1) := by decide +kernel
theorem dX4_load_87 : decode cX4_load 87 = .ok (.iastore, 1) := by decide +kernel
theorem dX4_load_88 : decode cX4_load 88 = .ok (.goto (-36), 3) := by decide +kernel
theorem dX4_load_91 : decode cX4_load 91 = .ok (.aload_n 0, 1) := by decide +kernel
theorem dX4_load_92 : decode cX4_load 92 = .ok (.getfield 7, 3) := by decide +kernel
theorem dX4_load_95 : decode cX4_load 95 = .ok (.aload_n 0, 1) := by decide +kernel
theorem dX4_load_96 : decode cX4_load 96 = .ok (.getfield 80, 3) := by decide +kernel
theorem dX4_load_99 : decode cX4_load 99 = .ok (.aload_n 0, 1) := by decide +kernel
theorem dX4_load_100 : decode cX4_load 100 = .ok (.getfield 87, 3) := by decide +kernel
theorem dX4_load_103 : decode cX4_load 103 = .ok (.iastore, 1) := by decide +kernel
theorem dX4_load_104 : decode cX4_load 104 = .ok (.goto (-52), 3) := by decide +kernel
theorem dX4_load_107 : decode cX4_load 107 = .ok (.aload_n 0, 1) := by decide +kernel
theorem dX4_load_108 : decode cX4_load 108 = .ok (.iconst 0, 1) := by decide +kernel
theorem dX4_load_109 : decode cX4_load 109 = .ok (.putfield 74, 3) := by decide +kernel
theorem dX4_load_112 : decode cX4_load 112 = .ok (.aload_n 0, 1) := by decide +kernel
theorem dX4_load_113 : decode cX4_load 113 = .ok (.invokevirtual 51, 3) := by decide +kernel
theorem dX4_load_116 : decode cX4_load 116 = .ok (.ireturn, 1) := by decide +kernel
set_option maxRecDepth 20000 in
theorem ggX4_changes_X4_wave : GoodIn wsX4_changes wsX4_wave := goodIn_r _ [4] (by decide +kernel) (by decide +kernel)
set_option maxRecDepth 20000 in
theorem gX4_changes_X4_wave : GoodIn wsX4_changes (va_wsS RX4 41 yX4_wave wsX4_wave) := goodIn_app (goodIn_of _ (by decide +kernel)) ggX4_changes_X4_wave
theorem dX4_changes_0 : decode cX4_changes 0 = .ok (.iconst 0, 1) := by decide +kernel
theorem dX4_changes_1 : decode cX4_changes 1 = .ok (.istore_n 1, 1) := by decide +kernel
theorem dX4_changes_2 : decode cX4_changes 2 = .ok (.iconst 1, 1) := by decide +kernel
theorem dX4_changes_3 : decode cX4_changes 3 = .ok (.istore_n 2, 1) := by decide +kernel
theorem dX4_changes_4 : decode cX4_changes 4 = .ok (.iload_n 2, 1) := by decide +kernel
theorem dX4_changes_5 : decode cX4_changes 5 = .ok (.bipush 8, 2) := by decide +kernel
theorem dX4_changes_7 : decode cX4_changes 7 = .ok (.if_icmp .ge 32, 3) := by decide +kernel
theorem dX4_changes_10 : decode cX4_changes 10 = .ok (.iload_n 1, 1) := by decide +kernel
theorem dX4_changes_11 : decode cX4_changes 11 = .ok (.iload_n 0, 1) := by decide +kernel
theorem dX4_changes_12 : decode cX4_changes 12 = .ok (.iload_n 2, 1) := by decide +kernel
theorem dX4_changes_13 : decode cX4_changes 13 = .ok (.invokestatic 41, 3) := by decide +kernel
theorem dX4_changes_16 : decode cX4_changes 16 = .ok (.iload_n 0, 1) := by decide +kernel
theorem dX4_changes_17 : decode cX4_changes 17 = .ok (.iload_n 2, 1) := by decide +kernel
theorem dX4_changes_18 : decode cX4_changes 18 = .ok (.iconst 1, 1) := by decide +kernel
theorem dX4_changes_19 : decode cX4_changes 19 = .ok (.isub, 1) := by decide +kernel
theorem dX4_changes_20 : decode cX4_changes 20 = .ok (.invokestatic 41, 3) := by decide +kernel
theorem dX4_changes_23 : decode cX4_changes 23 = .ok (.if_icmp .ne 7, 3) := by decide +kernel
theorem dX4_changes_26 : decode cX4_changes 26 = .ok (.iconst 0, 1) := by decide +kernel
theorem dX4_changes_27 : decode cX4_changes 27 = .ok (.goto 4, 3) := by decide +kernel
theorem dX4_changes_30 : decode cX4_changes 30 = .ok (.iconst 1, 1) := by decide +kernel
theorem dX4_changes_31 : decode cX4_changes 31 = .ok (.iadd, 1) := by decide +kernel
theorem dX4_changes_32 : decode cX4_changes 32 = .ok (.istore_n 1, 1) := by decide +kernel
theorem dX4_changes_33 : decode cX4_changes 33 = .ok (.iinc 2 1, 3) := by decide +kernel
theorem dX4_changes_36 : decode cX4_changes 36 = .ok (.goto (-32), 3) := by decide +kernel
theorem dX4_changes_39 : decode cX4_changes 39 = .ok (.iload_n 1, 1) := by decide +kernel
theorem dX4_changes_40 : decode cX4_changes 40 = .ok (.ireturn, 1) := by decide +kernel
set_option maxRecDepth 20000 in
theorem ggX4_wheelNow_X4_ofPattern : GoodIn wsX4_wheelNow wsX4_ofPattern := goodIn_r _ [6, 1, 7, 8, 5, 9, 13, 14, 15, 16, 17, 18, 19, 20, 21, 22, 23, 24] (by decide +kernel) (by decide +kernel)
set_option maxRecDepth 20000 in
theorem gX4_wheelNow_X4_ofPattern : GoodIn wsX4_wheelNow (wsV RX4 71 RX4 yX4_ofPattern wsX4_ofPattern) := goodIn_app (goodIn_of _ (by decide +kernel)) ggX4_wheelNow_X4_ofPattern
set_option maxRecDepth 20000 in
theorem ggX4_wheelNow_X4_changes : GoodIn wsX4_wheelNow wsX4_changes := goodIn_r _ [12, 7, 8, 5, 9] (by decide +kernel) (by decide +kernel)
set_option maxRecDepth 20000 in
theorem gX4_wheelNow_X4_changes : GoodIn wsX4_wheelNow (va_wsS RX4 96 yX4_changes wsX4_changes) := goodIn_app (goodIn_of _ (by decide +kernel)) ggX4_wheelNow_X4_changes
theorem dX4_wheelNow_0 : decode cX4_wheelNow 0 = .ok (.iload_n 2, 1) := by decide +kernel
theorem dX4_wheelNow_1 : decode cX4_wheelNow 1 = .ok (.tableswitch 50 0 2 #[27, 34, 44], 27) := by decide +kernel
theorem dX4_wheelNow_28 : decode cX4_wheelNow 28 = .ok (.aload_n 0, 1) := by decide +kernel
theorem dX4_wheelNow_29 : decode cX4_wheelNow 29 = .ok (.getfield 7, 3) := by decide +kernel
theorem dX4_wheelNow_32 : decode cX4_wheelNow 32 = .ok (.iload_n 1, 1) := by decide +kernel
theorem dX4_wheelNow_33 : decode cX4_wheelNow 33 = .ok (.iaload, 1) := by decide +kernel
theorem dX4_wheelNow_34 : decode cX4_wheelNow 34 = .ok (.ireturn, 1) := by decide +kernel
theorem dX4_wheelNow_35 : decode cX4_wheelNow 35 = .ok (.aload_n 0, 1) := by decide +kernel
theorem dX4_wheelNow_36 : decode cX4_wheelNow 36 = .ok (.getfield 7, 3) := by decide +kernel
theorem dX4_wheelNow_39 : decode cX4_wheelNow 39 = .ok (.bipush 8, 2) := by decide +kernel
theorem dX4_wheelNow_41 : decode cX4_wheelNow 41 = .ok (.iload_n 1, 1) := by decide +kernel
theorem dX4_wheelNow_42 : decode cX4_wheelNow 42 = .ok (.iadd, 1) := by decide +kernel
theorem dX4_wheelNow_43 : decode cX4_wheelNow 43 = .ok (.iaload, 1) := by decide +kernel
theorem dX4_wheelNow_44 : decode cX4_wheelNow 44 = .ok (.ireturn, 1) := by decide +kernel
theorem dX4_wheelNow_45 : decode cX4_wheelNow 45 = .ok (.aload_n 0, 1) := by decide +kernel
theorem dX4_wheelNow_46 : decode cX4_wheelNow 46 = .ok (.iload_n 1, 1) := by decide +kernel
theorem dX4_wheelNow_47 : decode cX4_wheelNow 47 = .ok (.invokevirtual 71, 3) := by decide +kernel
theorem dX4_wheelNow_50 : decode cX4_wheelNow 50 = .ok (.ireturn, 1) := by decide +kernel
theorem dX4_wheelNow_51 : decode cX4_wheelNow 51 = .ok (.iload_n 1, 1) := by decide +kernel
theorem dX4_wheelNow_52 : decode cX4_wheelNow 52 = .ok (.invokestatic 96, 3) := by decide +kernel
theorem dX4_wheelNow_55 : decode cX4_wheelNow 55 = .ok (.ireturn, 1) := by decide +kernel
set_option maxRecDepth 20000 in
theorem ggX4_wheelOf_X4_isOne : GoodIn wsX4_wheelOf wsX4_isOne := goodIn_r _ [5, 6, 7, 4, 8] (by decide +kernel) (by decide +kernel)
set_option maxRecDepth 20000 in
theorem gX4_wheelOf_X4_isOne : GoodIn wsX4_wheelOf (va_wsS RX4 58 yX4_isOne wsX4_isOne) := goodIn_app (goodIn_of _ (by decide +kernel)) ggX4_wheelOf_X4_isOne
set_option maxRecDepth 20000 in
theorem ggX4_wheelOf_X4_in : GoodIn wsX4_wheelOf wsX4_in := goodIn_r _ [8] (by decide +kernel) (by decide +kernel)
set_option maxRecDepth 20000 in
theorem gX4_wheelOf_X4_in : GoodIn wsX4_wheelOf (va_wsS RX4 33 yX4_in wsX4_in) := goodIn_app (goodIn_of _ (by decide +kernel)) ggX4_wheelOf_X4_in
set_option maxRecDepth 20000 in
theorem ggX4_wheelOf_X4_wheelNow : GoodIn wsX4_wheelOf wsX4_wheelNow := goodIn_r _ [12, 13, 14, 15, 16, 4, 17, 18, 19, 20, 21, 22, 23, 24, 25, 26, 27, 28, 29, 30, 31, 32, 33, 34, 35] (by decide +kernel) (by decide +kernel)
set_option maxRecDepth 20000 in
theorem gX4_wheelOf_X4_wheelNow : GoodIn wsX4_wheelOf (wsV RX4 99 RX4 yX4_wheelNow wsX4_wheelNow) := goodIn_app (goodIn_of _ (by decide +kernel)) ggX4_wheelOf_X4_wheelNow
theorem dX4_wheelOf_0 : decode cX4_wheelOf 0 = .ok (.aload_n 0, 1) := by decide +kernel
theorem dX4_wheelOf_1 : decode cX4_wheelOf 1 = .ok (.iload_n 1, 1) := by decide +kernel
theorem dX4_wheelOf_2 : decode cX4_wheelOf 2 = .ok (.invokestatic 58, 3) := by decide +kernel
theorem dX4_wheelOf_5 : decode cX4_wheelOf 5 = .ok (.ifCond .ne 7, 3) := by decide +kernel
theorem dX4_wheelOf_8 : decode cX4_wheelOf 8 = .ok (.iconst 1, 1) := by decide +kernel
theorem dX4_wheelOf_9 : decode cX4_wheelOf 9 = .ok (.goto 17, 3) := by decide +kernel
theorem dX4_wheelOf_12 : decode cX4_wheelOf 12 = .ok (.iload_n 2, 1) := by decide +kernel
theorem dX4_wheelOf_13 : decode cX4_wheelOf 13 = .ok (.iconst 0, 1) := by decide +kernel
theorem dX4_wheelOf_14 : decode cX4_wheelOf 14 = .ok (.iconst 3, 1) := by decide +kernel
theorem dX4_wheelOf_15 : decode cX4_wheelOf 15 = .ok (.invokestatic 33, 3) := by decide +kernel
theorem dX4_wheelOf_18 : decode cX4_wheelOf 18 = .ok (.ifCond .eq 7, 3) := by decide +kernel
theorem dX4_wheelOf_21 : decode cX4_wheelOf 21 = .ok (.iconst 0, 1) := by decide +kernel
theorem dX4_wheelOf_22 : decode cX4_wheelOf 22 = .ok (.goto 4, 3) := by decide +kernel
theorem dX4_wheelOf_25 : decode cX4_wheelOf 25 = .ok (.iconst 2, 1) := by decide +kernel
theorem dX4_wheelOf_26 : decode cX4_wheelOf 26 = .ok (.putfield 29, 3) := by decide +kernel
theorem dX4_wheelOf_29 : decode cX4_wheelOf 29 = .ok (.aload_n 0, 1) := by decide +kernel
theorem dX4_wheelOf_30 : decode cX4_wheelOf 30 = .ok (.getfield 29, 3) := by decide +kernel
theorem dX4_wheelOf_33 : decode cX4_wheelOf 33 = .ok (.ifCond .le 7, 3) := by decide +kernel
theorem dX4_wheelOf_36 : decode cX4_wheelOf 36 = .ok (.iconst 0, 1) := by decide +kernel
theorem dX4_wheelOf_37 : decode cX4_wheelOf 37 = .ok (.goto 9, 3) := by decide +kernel
theorem dX4_wheelOf_40 : decode cX4_wheelOf 40 = .ok (.aload_n 0, 1) := by decide +kernel
theorem dX4_wheelOf_41 : decode cX4_wheelOf 41 = .ok (.iload_n 1, 1) := by decide +kernel
theorem dX4_wheelOf_42 : decode cX4_wheelOf 42 = .ok (.iload_n 2, 1) := by decide +kernel
theorem dX4_wheelOf_43 : decode cX4_wheelOf 43 = .ok (.invokevirtual 99, 3) := by decide +kernel
theorem dX4_wheelOf_46 : decode cX4_wheelOf 46 = .ok (.ireturn, 1) := by decide +kernel
set_option maxRecDepth 20000 in
theorem ggX4_trace_X4_isOne : GoodIn wsX4_trace wsX4_isOne := goodIn_r _ [5, 6, 7, 4, 8] (by decide +kernel) (by decide +kernel)
set_option maxRecDepth 20000 in
theorem gX4_trace_X4_isOne : GoodIn wsX4_trace (va_wsS RX4 58 yX4_isOne wsX4_isOne) := goodIn_app (goodIn_of _ (by decide +kernel)) ggX4_trace_X4_isOne
set_option maxRecDepth 20000 in
theorem ggX4_trace_X4_in : GoodIn wsX4_trace wsX4_in := goodIn_r _ [8] (by decide +kernel) (by decide +kernel)
set_option maxRecDepth 20000 in
theorem gX4_trace_X4_in : GoodIn wsX4_trace (va_wsS RX4 33 yX4_in wsX4_in) := goodIn_app (goodIn_of _ (by decide +kernel)) ggX4_trace_X4_in
set_option maxRecDepth 20000 in
theorem ggX4_trace_X4_traceAt : GoodIn wsX4_trace wsX4_traceAt := goodIn_r _ [12, 13, 14, 15, 4, 16, 17, 18, 19, 20, 21, 22, 23, 24, 25, 26, 27, 28, 29, 30, 31, 32] (by decide +kernel) (by decide +kernel)
set_option maxRecDepth 20000 in
theorem gX4_trace_X4_traceAt : GoodIn wsX4_trace (wsV RX4 45 RX4 yX4_traceAt wsX4_traceAt) := goodIn_app (goodIn_of _ (by decide +kernel)) ggX4_trace_X4_traceAt
theorem dX4_trace_0 : decode cX4_trace 0 = .ok (.aload_n 0, 1) := by decide +kernel
theorem dX4_trace_1 : decode cX4_trace 1 = .ok (.iload_n 1, 1) := by decide +kernel
theorem dX4_trace_2 : decode cX4_trace 2 = .ok (.invokestatic 58, 3) := by decide +kernel
theorem dX4_trace_5 : decode cX4_trace 5 = .ok (.ifCond .ne 7, 3) := by decide +kernel
theorem dX4_trace_8 : decode cX4_trace 8 = .ok (.iconst 1, 1) := by decide +kernel
theorem dX4_trace_9 : decode cX4_trace 9 = .ok (.goto 17, 3) := by decide +kernel
theorem dX4_trace_12 : decode cX4_trace 12 = .ok (.iload_n 2, 1) := by decide +kernel
theorem dX4_trace_13 : decode cX4_trace 13 = .ok (.iconst 0, 1) := by decide +kernel
theorem dX4_trace_14 : decode cX4_trace 14 = .ok (.iconst 1, 1) := by decide +kernel
theorem dX4_trace_15 : decode cX4_trace 15 = .ok (.invokestatic 33, 3) := by decide +kernel
theorem dX4_trace_18 : decode cX4_trace 18 = .ok (.ifCond .eq 7, 3) := by decide +kernel
theorem dX4_trace_21 : decode cX4_trace 21 = .ok (.iconst 0, 1) := by decide +kernel
theorem dX4_trace_22 : decode cX4_trace 22 = .ok (.goto 4, 3) := by decide +kernel
theorem dX4_trace_25 : decode cX4_trace 25 = .ok (.iconst 2, 1) := by decide +kernel
theorem dX4_trace_26 : decode cX4_trace 26 = .ok (.putfield 29, 3) := by decide +kernel
theorem dX4_trace_29 : decode cX4_trace 29 = .ok (.aload_n 0, 1) := by decide +kernel
theorem dX4_trace_30 : decode cX4_trace 30 = .ok (.getfield 29, 3) := by decide +kernel
theorem dX4_trace_33 : decode cX4_trace 33 = .ok (.ifCond .le 7, 3) := by decide +kernel
theorem dX4_trace_36 : decode cX4_trace 36 = .ok (.iconst 0, 1) := by decide +kernel
theorem dX4_trace_37 : decode cX4_trace 37 = .ok (.goto 8, 3) := by decide +kernel
theorem dX4_trace_40 : decode cX4_trace 40 = .ok (.aload_n 0, 1) := by decide +kernel
theorem dX4_trace_41 : decode cX4_trace 41 = .ok (.iload_n 1, 1) := by decide +kernel
theorem dX4_trace_42 : decode cX4_trace 42 = .ok (.invokevirtual 45, 3) := by decide +kernel
theorem dX4_trace_45 : decode cX4_trace 45 = .ok (.ireturn, 1) := by decide +kernel
set_option maxRecDepth 20000 in
theorem ggX4_pointNow_X4_difference : GoodIn wsX4_pointNow wsX4_difference := goodIn_r _ [6, 1, 7, 8, 9, 5, 10, 11, 12, 13, 14, 15, 16, 17, 22, 23, 24, 25, 26, 27, 28, 29, 30, 31, 32, 33] (by decide +kernel) (by decide +kernel)
set_option maxRecDepth 20000 in
theorem gX4_pointNow_X4_difference : GoodIn wsX4_pointNow (wsV RX4 68 RX4 yX4_difference wsX4_difference) := goodIn_app (goodIn_of _ (by decide +kernel)) ggX4_pointNow_X4_difference
set_option maxRecDepth 20000 in
theorem ggX4_pointNow_X4_jump : GoodIn wsX4_pointNow wsX4_jump := goodIn_r _ [21, 7, 8, 9, 5, 10, 11, 12, 13, 14, 1, 15, 16, 17, 22, 23, 24, 25, 26, 27, 28, 29, 30, 31, 32, 33] (by decide +kernel) (by decide +kernel)
set_option maxRecDepth 20000 in
theorem gX4_pointNow_X4_jump : GoodIn wsX4_pointNow (wsV RX4 102 RX4 yX4_jump wsX4_jump) := goodIn_app (goodIn_of _ (by decide +kernel)) ggX4_pointNow_X4_jump
theorem dX4_pointNow_0 : decode cX4_pointNow 0 = .ok (.iload_n 2, 1) := by decide +kernel
theorem dX4_pointNow_1 : decode cX4_pointNow 1 = .ok (.ifCond .ne 15, 3) := by decide +kernel
theorem dX4_pointNow_4 : decode cX4_pointNow 4 = .ok (.aload_n 0, 1) := by decide +kernel
theorem dX4_pointNow_5 : decode cX4_pointNow 5 = .ok (.getfield 7, 3) := by decide +kernel
theorem dX4_pointNow_8 : decode cX4_pointNow 8 = .ok (.bipush 16, 2) := by decide +kernel
theorem dX4_pointNow_10 : decode cX4_pointNow 10 = .ok (.iload_n 1, 1) := by decide +kernel
theorem dX4_pointNow_11 : decode cX4_pointNow 11 = .ok (.iadd, 1) := by decide +kernel
theorem dX4_pointNow_12 : decode cX4_pointNow 12 = .ok (.iaload, 1) := by decide +kernel
theorem dX4_pointNow_13 : decode cX4_pointNow 13 = .ok (.goto 21, 3) := by decide +kernel
theorem dX4_pointNow_16 : decode cX4_pointNow 16 = .ok (.iload_n 2, 1) := by decide +kernel
theorem dX4_pointNow_17 : decode cX4_pointNow 17 = .ok (.iconst 1, 1) := by decide +kernel
theorem dX4_pointNow_18 : decode cX4_pointNow 18 = .ok (.if_icmp .ne 11, 3) := by decide +kernel
theorem dX4_pointNow_21 : decode cX4_pointNow 21 = .ok (.aload_n 0, 1) := by decide +kernel
theorem dX4_pointNow_22 : decode cX4_pointNow 22 = .ok (.iload_n 1, 1) := by decide +kernel
theorem dX4_pointNow_23 : decode cX4_pointNow 23 = .ok (.invokevirtual 68, 3) := by decide +kernel
theorem dX4_pointNow_26 : decode cX4_pointNow 26 = .ok (.goto 8, 3) := by decide +kernel
theorem dX4_pointNow_29 : decode cX4_pointNow 29 = .ok (.aload_n 0, 1) := by decide +kernel
theorem dX4_pointNow_30 : decode cX4_pointNow 30 = .ok (.iload_n 1, 1) := by decide +kernel
theorem dX4_pointNow_31 : decode cX4_pointNow 31 = .ok (.invokevirtual 102, 3) := by decide +kernel
theorem dX4_pointNow_34 : decode cX4_pointNow 34 = .ok (.ireturn, 1) := by decide +kernel
set_option maxRecDepth 20000 in
theorem ggX4_pointOf_X4_isOne : GoodIn wsX4_pointOf wsX4_isOne := goodIn_r _ [5, 6, 7, 4, 8] (by decide +kernel) (by decide +kernel)
set_option maxRecDepth 20000 in
theorem gX4_pointOf_X4_isOne : GoodIn wsX4_pointOf (va_wsS RX4 58 yX4_isOne wsX4_isOne) := goodIn_app (goodIn_of _ (by decide +kernel)) ggX4_pointOf_X4_isOne
set_option maxRecDepth 20000 in
theorem ggX4_pointOf_X4_in : GoodIn wsX4_pointOf wsX4_in := goodIn_r _ [8] (by decide +kernel) (by decide +kernel)
set_option maxRecDepth 20000 in
theorem gX4_pointOf_X4_in : GoodIn wsX4_pointOf (va_wsS RX4 33 yX4_in wsX4_in) := goodIn_app (goodIn_of _ (by decide +kernel)) ggX4_pointOf_X4_in
set_option maxRecDepth 20000 in
theorem ggX4_pointOf_X4_pointNow : GoodIn wsX4_pointOf wsX4_pointNow := goodIn_r _ [12, 13, 14, 15, 16, 4, 17, 18, 19, 20, 21, 22, 23, 24, 25, 26, 27, 28, 29, 30, 31, 32, 33, 34, 35, 36, 37, 38, 39, 40, 41, 42, 43, 44] (by decide +kernel) (by decide +kernel)
set_option maxRecDepth 20000 in
theorem gX4_pointOf_X4_pointNow : GoodIn wsX4_pointOf (wsV RX4 105 RX4 yX4_pointNow wsX4_pointNow) := goodIn_app (goodIn_of _ (by decide +kernel)) ggX4_pointOf_X4_pointNow
theorem dX4_pointOf_0 : decode cX4_pointOf 0 = .ok (.aload_n 0, 1) := by decide +kernel
theorem dX4_pointOf_1 : decode cX4_pointOf 1 = .ok (.iload_n 1, 1) := by decide +kernel
theorem dX4_pointOf_2 : decode cX4_pointOf 2 = .ok (.invokestatic 58, 3) := by decide +kernel
theorem dX4_pointOf_5 : decode cX4_pointOf 5 = .ok (.ifCond .ne 7, 3) := by decide +kernel
theorem dX4_pointOf_8 : decode cX4_pointOf 8 = .ok (.iconst 1, 1) := by decide +kernel
theorem dX4_pointOf_9 : decode cX4_pointOf 9 = .ok (.goto 17, 3) := by decide +kernel
theorem dX4_pointOf_12 : decode cX4_pointOf 12 = .ok (.iload_n 2, 1) := by decide +kernel
theorem dX4_pointOf_13 : decode cX4_pointOf 13 = .ok (.iconst 0, 1) := by decide +kernel
theorem dX4_pointOf_14 : decode cX4_pointOf 14 = .ok (.iconst 2, 1) := by decide +kernel
theorem dX4_pointOf_15 : decode cX4_pointOf 15 = .ok (.invokestatic 33, 3) := by decide +kernel
theorem dX4_pointOf_18 : decode cX4_pointOf 18 = .ok (.ifCond .eq 7, 3) := by decide +kernel
theorem dX4_pointOf_21 : decode cX4_pointOf 21 = .ok (.iconst 0, 1) := by decide +kernel
theorem dX4_pointOf_22 : decode cX4_pointOf 22 = .ok (.goto 4, 3) := by decide +kernel
theorem dX4_pointOf_25 : decode cX4_pointOf 25 = .ok (.iconst 2, 1) := by decide +kernel
theorem dX4_pointOf_26 : decode cX4_pointOf 26 = .ok (.putfield 29, 3) := by decide +kernel
theorem dX4_pointOf_29 : decode cX4_pointOf 29 = .ok (.aload_n 0, 1) := by decide +kernel
theorem dX4_pointOf_30 : decode cX4_pointOf 30 = .ok (.getfield 29, 3) := by decide +kernel
theorem dX4_pointOf_33 : decode cX4_pointOf 33 = .ok (.ifCond .le 7, 3) := by decide +kernel
theorem dX4_pointOf_36 : decode cX4_pointOf 36 = .ok (.iconst 0, 1) := by decide +kernel
theorem dX4_pointOf_37 : decode cX4_pointOf 37 = .ok (.goto 9, 3) := by decide +kernel
theorem dX4_pointOf_40 : decode cX4_pointOf 40 = .ok (.aload_n 0, 1) := by decide +kernel
theorem dX4_pointOf_41 : decode cX4_pointOf 41 = .ok (.iload_n 1, 1) := by decide +kernel
theorem dX4_pointOf_42 : decode cX4_pointOf 42 = .ok (.iload_n 2, 1) := by decide +kernel
theorem dX4_pointOf_43 : decode cX4_pointOf 43 = .ok (.invokevirtual 105, 3) := by decide +kernel
theorem dX4_pointOf_46 : decode cX4_pointOf 46 = .ok (.ireturn, 1) := by decide +kernel
theorem dX4_lost_0 : decode cX4_lost 0 = .ok (.iconst 0, 1) := by decide +kernel
theorem dX4_lost_1 : decode cX4_lost 1 = .ok (.istore_n 1, 1) := by decide +kernel
theorem dX4_lost_2 : decode cX4_lost 2 = .ok (.iconst 0, 1) := by decide +kernel
theorem dX4_lost_3 : decode cX4_lost 3 = .ok (.istore_n 2, 1) := by decide +kernel
theorem dX4_lost_4 : decode cX4_lost 4 = .ok (.iload_n 2, 1) := by decide +kernel
theorem dX4_lost_5 : decode cX4_lost 5 = .ok (.bipush 8, 2) := by decide +kernel
theorem dX4_lost_7 : decode cX4_lost 7 = .ok (.if_icmp .ge 21, 3) := by decide +kernel
theorem dX4_lost_10 : decode cX4_lost 10 = .ok (.iload_n 1, 1) := by decide +kernel
theorem dX4_lost_11 : decode cX4_lost 11 = .ok (.aload_n 0, 1) := by decide +kernel
theorem dX4_lost_12 : decode cX4_lost 12 = .ok (.getfield 7, 3) := by decide +kernel
theorem dX4_lost_15 : decode cX4_lost 15 = .ok (.bipush 8, 2) := by decide +kernel
theorem dX4_lost_17 : decode cX4_lost 17 = .ok (.iload_n 2, 1) := by decide +kernel
theorem dX4_lost_18 : decode cX4_lost 18 = .ok (.iadd, 1) := by decide +kernel
theorem dX4_lost_19 : decode cX4_lost 19 = .ok (.iaload, 1) := by decide +kernel
theorem dX4_lost_20 : decode cX4_lost 20 = .ok (.iadd, 1) := by decide +kernel
theorem dX4_lost_21 : decode cX4_lost 21 = .ok (.istore_n 1, 1) := by decide +kernel
theorem dX4_lost_22 : decode cX4_lost 22 = .ok (.iinc 2 1, 3) := by decide +kernel
theorem dX4_lost_25 : decode cX4_lost 25 = .ok (.goto (-21), 3) := by decide +kernel
theorem dX4_lost_28 : decode cX4_lost 28 = .ok (.iload_n 1, 1) := by decide +kernel
theorem dX4_lost_29 : decode cX4_lost 29 = .ok (.ireturn, 1) := by decide +kernel
set_option maxRecDepth 20000 in
theorem ggX4_greatestTrace_X4_traceAt : GoodIn wsX4_greatestTrace wsX4_traceAt := goodIn_r _ [5, 6, 7, 8, 4, 9, 10, 11, 12, 13, 14, 15, 16, 17, 18, 19, 20, 21, 22, 23, 24, 25] (by decide +kernel) (by decide +kernel)
set_option maxRecDepth 20000 in
theorem gX4_greatestTrace_X4_traceAt : GoodIn wsX4_greatestTrace (wsV RX4 45 RX4 yX4_traceAt wsX4_traceAt) := goodIn_app (goodIn_of _ (by decide +kernel)) ggX4_greatestTrace_X4_traceAt
theorem dX4_greatestTrace_0 : decode cX4_greatestTrace 0 = .ok (.aload_n 0, 1) := by decide +kernel
theorem dX4_greatestTrace_1 : decode cX4_greatestTrace 1 = .ok (.iconst 0, 1) := by decide +kernel
theorem dX4_greatestTrace_2 : decode cX4_greatestTrace 2 = .ok (.invokevirtual 45, 3) := by decide +kernel
theorem dX4_greatestTrace_5 : decode cX4_greatestTrace 5 = .ok (.istore_n 1, 1) := by decide +kernel
theorem dX4_greatestTrace_6 : decode cX4_greatestTrace 6 = .ok (.iconst 1, 1) := by decide +kernel
theorem dX4_greatestTrace_7 : decode cX4_greatestTrace 7 = .ok (.istore_n 2, 1) := by decide +kernel
theorem dX4_greatestTrace_8 : decode cX4_greatestTrace 8 = .ok (.iload_n 2, 1) := by decide +kernel
theorem dX4_greatestTrace_9 : decode cX4_greatestTrace 9 = .ok (.bipush 8, 2) := by decide +kernel
theorem dX4_greatestTrace_11 : decode cX4_greatestTrace 11 = .ok (.if_icmp .ge 28, 3) := by decide +kernel
theorem dX4_greatestTrace_14 : decode cX4_greatestTrace 14 = .ok (.aload_n 0, 1) := by decide +kernel
theorem dX4_greatestTrace_15 : decode cX4_greatestTrace 15 = .ok (.iload_n 2, 1) := by decide +kernel
theorem dX4_greatestTrace_16 : decode cX4_greatestTrace 16 = .ok (.invokevirtual 45, 3) := by decide +kernel
theorem dX4_greatestTrace_19 : decode cX4_greatestTrace 19 = .ok (.iload_n 1, 1) := by decide +kernel
theorem dX4_greatestTrace_20 : decode cX4_greatestTrace 20 = .ok (.if_icmp .le 11, 3) := by decide +kernel
theorem dX4_greatestTrace_23 : decode cX4_greatestTrace 23 = .ok (.aload_n 0, 1) := by decide +kernel
theorem dX4_greatestTrace_24 : decode cX4_greatestTrace 24 = .ok (.iload_n 2, 1) := by decide +kernel
theorem dX4_greatestTrace_25 : decode cX4_greatestTrace 25 = .ok (.invokevirtual 45, 3) := by decide +kernel
theorem dX4_greatestTrace_28 : decode cX4_greatestTrace 28 = .ok (.goto 4, 3) := by decide +kernel
theorem dX4_greatestTrace_31 : decode cX4_greatestTrace 31 = .ok (.iload_n 1, 1) := by decide +kernel
theorem dX4_greatestTrace_32 : decode cX4_greatestTrace 32 = .ok (.istore_n 1, 1) := by decide +kernel
theorem dX4_greatestTrace_33 : decode cX4_greatestTrace 33 = .ok (.iinc 2 1, 3) := by decide +kernel
theorem dX4_greatestTrace_36 : decode cX4_greatestTrace 36 = .ok (.goto (-28), 3) := by decide +kernel
theorem dX4_greatestTrace_39 : decode cX4_greatestTrace 39 = .ok (.iload_n 1, 1) := by decide +kernel
theorem dX4_greatestTrace_40 : decode cX4_greatestTrace 40 = .ok (.ireturn, 1) := by decide +kernel
set_option maxRecDepth 20000 in
theorem ggX4_leastTrace_X4_traceAt : GoodIn wsX4_leastTrace wsX4_traceAt := goodIn_r _ [5, 6, 7, 8, 4, 9, 10, 11, 12, 13, 14, 15, 16, 17, 18, 19, 20, 21, 22, 23, 24, 25] (by decide +kernel) (by decide +kernel)
set_option maxRecDepth 20000 in
theorem gX4_leastTrace_X4_traceAt : GoodIn wsX4_leastTrace (wsV RX4 45 RX4 yX4_traceAt wsX4_traceAt) := goodIn_app (goodIn_of _ (by decide +kernel)) ggX4_leastTrace_X4_traceAt
theorem dX4_leastTrace_0 : decode cX4_leastTrace 0 = .ok (.aload_n 0, 1) := by decide +kernel
theorem dX4_leastTrace_1 : decode cX4_leastTrace 1 = .ok (.iconst 0, 1) := by decide +kernel
theorem dX4_leastTrace_2 : decode cX4_leastTrace 2 = .ok (.invokevirtual 45, 3) := by decide +kernel
theorem dX4_leastTrace_5 : decode cX4_leastTrace 5 = .ok (.istore_n 1, 1) := by decide +kernel
theorem dX4_leastTrace_6 : decode cX4_leastTrace 6 = .ok (.iconst 1, 1) := by decide +kernel
theorem dX4_leastTrace_7 : decode cX4_leastTrace 7 = .ok (.istore_n 2, 1) := by decide +kernel
theorem dX4_leastTrace_8 : decode cX4_leastTrace 8 = .ok (.iload_n 2, 1) := by decide +kernel
theorem dX4_leastTrace_9 : decode cX4_leastTrace 9 = .ok (.bipush 8, 2) := by decide +kernel
theorem dX4_leastTrace_11 : decode cX4_leastTrace 11 = .ok (.if_icmp .ge 28, 3) := by decide +kernel
theorem dX4_leastTrace_14 : decode cX4_leastTrace 14 = .ok (.aload_n 0, 1) := by decide +kernel
theorem dX4_leastTrace_15 : decode cX4_leastTrace 15 = .ok (.iload_n 2, 1) := by decide +kernel
theorem dX4_leastTrace_16 : decode cX4_leastTrace 16 = .ok (.invokevirtual 45, 3) := by decide +kernel
theorem dX4_leastTrace_19 : decode cX4_leastTrace 19 = .ok (.iload_n 1, 1) := by decide +kernel
theorem dX4_leastTrace_20 : decode cX4_leastTrace 20 = .ok (.if_icmp .ge 11, 3) := by decide +kernel
theorem dX4_leastTrace_23 : decode cX4_leastTrace 23 = .ok (.aload_n 0, 1) := by decide +kernel
theorem dX4_leastTrace_24 : decode cX4_leastTrace 24 = .ok (.iload_n 2, 1) := by decide +kernel
theorem dX4_leastTrace_25 : decode cX4_leastTrace 25 = .ok (.invokevirtual 45, 3) := by decide +kernel
theorem dX4_leastTrace_28 : decode cX4_leastTrace 28 = .ok (.goto 4, 3) := by decide +kernel
theorem dX4_leastTrace_31 : decode cX4_leastTrace 31 = .ok (.iload_n 1, 1) := by decide +kernel
theorem dX4_leastTrace_32 : decode cX4_leastTrace 32 = .ok (.istore_n 1, 1) := by decide +kernel
theorem dX4_leastTrace_33 : decode cX4_leastTrace 33 = .ok (.iinc 2 1, 3) := by decide +kernel
theorem dX4_leastTrace_36 : decode cX4_leastTrace 36 = .ok (.goto (-28), 3) := by decide +kernel
theorem dX4_leastTrace_39 : decode cX4_leastTrace 39 = .ok (.iload_n 1, 1) := by decide +kernel
theorem dX4_leastTrace_40 : decode cX4_leastTrace 40 = .ok (.ireturn, 1) := by decide +kernel
set_option maxRecDepth 20000 in
theorem ggX4_greatest_X4_pointNow : GoodIn wsX4_greatest wsX4_pointNow := goodIn_r _ [5, 6, 7, 8, 9, 4, 10, 11, 12, 13, 14, 15, 16, 17, 18, 19, 20, 21, 22, 23, 24, 25, 29, 30, 31, 32, 33, 34, 35, 36, 37, 38, 39, 40] (by decide +kernel) (by decide +kernel)
set_option maxRecDepth 20000 in
theorem gX4_greatest_X4_pointNow : GoodIn wsX4_greatest (wsV RX4 105 RX4 yX4_pointNow wsX4_pointNow) := goodIn_app (goodIn_of _ (by decide +kernel)) ggX4_greatest_X4_pointNow
set_option maxRecDepth 20000 in
theorem ggX4_greatest_X4_amount : GoodIn wsX4_greatest wsX4_amount := goodIn_r _ [28] (by decide +kernel) (by decide +kernel)
set_option maxRecDepth 20000 in
theorem gX4_greatest_X4_amount : GoodIn wsX4_greatest (va_wsS RX4 65 yX4_amount wsX4_amount) := goodIn_app (goodIn_of _ (by decide +kernel)) ggX4_greatest_X4_amount
theorem dX4_greatest_0 : decode cX4_greatest 0 = .ok (.iconst 0, 1) := by decide +kernel
theorem dX4_greatest_1 : decode cX4_greatest 1 = .ok (.istore_n 2, 1) := by decide +kernel
theorem dX4_greatest_2 : decode cX4_greatest 2 = .ok (.iconst 0, 1) := by decide +kernel
theorem dX4_greatest_3 : decode cX4_greatest 3 = .ok (.istore_n 3, 1) := by decide +kernel
theorem dX4_greatest_4 : decode cX4_greatest 4 = .ok (.iload_n 3, 1) := by decide +kernel
theorem dX4_greatest_5 : decode cX4_greatest 5 = .ok (.bipush 8, 2) := by decide +kernel
theorem dX4_greatest_7 : decode cX4_greatest 7 = .ok (.if_icmp .ge 33, 3) := by decide +kernel
theorem dX4_greatest_10 : decode cX4_greatest 10 = .ok (.aload_n 0, 1) := by decide +kernel
theorem dX4_greatest_11 : decode cX4_greatest 11 = .ok (.iload_n 3, 1) := by decide +kernel
theorem dX4_greatest_12 : decode cX4_greatest 12 = .ok (.iload_n 1, 1) := by decide +kernel
theorem dX4_greatest_13 : decode cX4_greatest 13 = .ok (.invokevirtual 105, 3) := by decide +kernel
theorem dX4_greatest_16 : decode cX4_greatest 16 = .ok (.invokestatic 65, 3) := by decide +kernel
theorem dX4_greatest_19 : decode cX4_greatest 19 = .ok (.istore 4, 2) := by decide +kernel
theorem dX4_greatest_21 : decode cX4_greatest 21 = .ok (.iload 4, 2) := by decide +kernel
theorem dX4_greatest_23 : decode cX4_greatest 23 = .ok (.iload_n 2, 1) := by decide +kernel
theorem dX4_greatest_24 : decode cX4_greatest 24 = .ok (.if_icmp .le 8, 3) := by decide +kernel
theorem dX4_greatest_27 : decode cX4_greatest 27 = .ok (.iload 4, 2) := by decide +kernel
theorem dX4_greatest_29 : decode cX4_greatest 29 = .ok (.goto 4, 3) := by decide +kernel
theorem dX4_greatest_32 : decode cX4_greatest 32 = .ok (.iload_n 2, 1) := by decide +kernel
theorem dX4_greatest_33 : decode cX4_greatest 33 = .ok (.istore_n 2, 1) := by decide +kernel
theorem dX4_greatest_34 : decode cX4_greatest 34 = .ok (.iinc 3 1, 3) := by decide +kernel
theorem dX4_greatest_37 : decode cX4_greatest 37 = .ok (.goto (-33), 3) := by decide +kernel
theorem dX4_greatest_40 : decode cX4_greatest 40 = .ok (.iload_n 2, 1) := by decide +kernel
theorem dX4_greatest_41 : decode cX4_greatest 41 = .ok (.ireturn, 1) := by decide +kernel
set_option maxRecDepth 20000 in
theorem ggX4_overshoot_X4_greatestTrace : GoodIn wsX4_overshoot wsX4_greatestTrace := goodIn_r _ [5, 6, 7, 8, 4, 9, 10, 11, 12, 13, 14, 15, 16, 17, 25, 26, 27, 28, 29, 30, 31, 32, 33, 34, 35, 36] (by decide +kernel) (by decide +kernel)
set_option maxRecDepth 20000 in
theorem gX4_overshoot_X4_greatestTrace : GoodIn wsX4_overshoot (wsV RX4 108 RX4 yX4_greatestTrace wsX4_greatestTrace) := goodIn_app (goodIn_of _ (by decide +kernel)) ggX4_overshoot_X4_greatestTrace
set_option maxRecDepth 20000 in
theorem ggX4_overshoot_X4_amount : GoodIn wsX4_overshoot wsX4_amount := goodIn_r _ [20] (by decide +kernel) (by decide +kernel)
set_option maxRecDepth 20000 in
theorem gX4_overshoot_X4_amount : GoodIn wsX4_overshoot (va_wsS RX4 65 yX4_amount wsX4_amount) := goodIn_app (goodIn_of _ (by decide +kernel)) ggX4_overshoot_X4_amount
set_option maxRecDepth 20000 in
theorem ggX4_overshoot_X4_leastTrace : GoodIn wsX4_overshoot wsX4_leastTrace := goodIn_r _ [24, 6, 7, 8, 4, 9, 10, 11, 12, 13, 14, 15, 16, 17, 25, 26, 27, 28, 29, 30, 31, 32, 33, 34, 35, 36] (by decide +kernel) (by decide +kernel)
set_option maxRecDepth 20000 in
theorem gX4_overshoot_X4_leastTrace : GoodIn wsX4_overshoot (wsV RX4 111 RX4 yX4_leastTrace wsX4_leastTrace) := goodIn_app (goodIn_of _ (by decide +kernel)) ggX4_overshoot_X4_leastTrace
set_option maxRecDepth 20000 in
theorem ggX4_overshoot_X4_used : GoodIn wsX4_overshoot wsX4_used := goodIn_r _ [13, 14, 25, 26, 27, 28, 29, 30, 31, 32, 33, 34, 35, 36] (by decide +kernel) (by decide +kernel)
set_option maxRecDepth 20000 in
theorem gX4_overshoot_X4_used : GoodIn wsX4_overshoot (wsV RX4 37 RX4 yX4_used wsX4_used) := goodIn_app (goodIn_of _ (by decide +kernel)) ggX4_overshoot_X4_used
theorem dX4_overshoot_0 : decode cX4_overshoot 0 = .ok (.aload_n 0, 1) := by decide +kernel
theorem dX4_overshoot_1 : decode cX4_overshoot 1 = .ok (.invokevirtual 108, 3) := by decide +kernel
theorem dX4_overshoot_4 : decode cX4_overshoot 4 = .ok (.invokestatic 65, 3) := by decide +kernel
theorem dX4_overshoot_7 : decode cX4_overshoot 7 = .ok (.istore_n 1, 1) := by decide +kernel
theorem dX4_overshoot_8 : decode cX4_overshoot 8 = .ok (.aload_n 0, 1) := by decide +kernel
theorem dX4_overshoot_9 : decode cX4_overshoot 9 = .ok (.invokevirtual 111, 3) := by decide +kernel
theorem dX4_overshoot_12 : decode cX4_overshoot 12 = .ok (.invokestatic 65, 3) := by decide +kernel
theorem dX4_overshoot_15 : decode cX4_overshoot 15 = .ok (.istore_n 2, 1) := by decide +kernel
theorem dX4_overshoot_16 : decode cX4_overshoot 16 = .ok (.iload_n 1, 1) := by decide +kernel
theorem dX4_overshoot_17 : decode cX4_overshoot 17 = .ok (.iload_n 2, 1) := by decide +kernel
theorem dX4_overshoot_18 : decode cX4_overshoot 18 = .ok (.if_icmp .le 7, 3) := by decide +kernel
theorem dX4_overshoot_21 : decode cX4_overshoot 21 = .ok (.iload_n 1, 1) := by decide +kernel
theorem dX4_overshoot_22 : decode cX4_overshoot 22 = .ok (.goto 4, 3) := by decide +kernel
theorem dX4_overshoot_25 : decode cX4_overshoot 25 = .ok (.iload_n 2, 1) := by decide +kernel
theorem dX4_overshoot_26 : decode cX4_overshoot 26 = .ok (.aload_n 0, 1) := by decide +kernel
theorem dX4_overshoot_27 : decode cX4_overshoot 27 = .ok (.iconst 0, 1) := by decide +kernel
theorem dX4_overshoot_28 : decode cX4_overshoot 28 = .ok (.invokevirtual 37, 3) := by decide +kernel
theorem dX4_overshoot_31 : decode cX4_overshoot 31 = .ok (.invokestatic 65, 3) := by decide +kernel
theorem dX4_overshoot_34 : decode cX4_overshoot 34 = .ok (.isub, 1) := by decide +kernel
theorem dX4_overshoot_35 : decode cX4_overshoot 35 = .ok (.ireturn, 1) := by decide +kernel
set_option maxRecDepth 20000 in
theorem ggX4_countNow_X4_turning : GoodIn wsX4_countNow wsX4_turning := goodIn_r _ [7, 1, 54, 55, 56, 57, 58, 59, 60, 61, 62, 63, 64, 65] (by decide +kernel) (by decide +kernel)
set_option maxRecDepth 20000 in
theorem gX4_countNow_X4_turning : GoodIn wsX4_countNow (wsV RX4 51 RX4 yX4_turning wsX4_turning) := goodIn_app (goodIn_of _ (by decide +kernel)) ggX4_countNow_X4_turning
set_option maxRecDepth 20000 in
theorem ggX4_countNow_X4_lost : GoodIn wsX4_countNow wsX4_lost := goodIn_r _ [11, 1, 54, 55, 56, 57, 58, 59, 60, 61, 62, 63, 64, 65] (by decide +kernel) (by decide +kernel)
set_option maxRecDepth 20000 in
theorem gX4_countNow_X4_lost : GoodIn wsX4_countNow (wsV RX4 114 RX4 yX4_lost wsX4_lost) := goodIn_app (goodIn_of _ (by decide +kernel)) ggX4_countNow_X4_lost
set_option maxRecDepth 20000 in
theorem ggX4_countNow_X4_greatestTrace : GoodIn wsX4_countNow wsX4_greatestTrace := goodIn_r _ [15, 16, 17, 18, 6, 19, 20, 21, 22, 23, 1, 24, 25, 26, 54, 55, 56, 57, 58, 59, 60, 61, 62, 63, 64, 65] (by decide +kernel) (by decide +kernel)
set_option maxRecDepth 20000 in
theorem gX4_countNow_X4_greatestTrace : GoodIn wsX4_countNow (wsV RX4 108 RX4 yX4_greatestTrace wsX4_greatestTrace) := goodIn_app (goodIn_of _ (by decide +kernel)) ggX4_countNow_X4_greatestTrace
set_option maxRecDepth 20000 in
theorem ggX4_countNow_X4_leastTrace : GoodIn wsX4_countNow wsX4_leastTrace := goodIn_r _ [30, 16, 17, 18, 6, 19, 20, 21, 22, 23, 1, 24, 25, 26, 54, 55, 56, 57, 58, 59, 60, 61, 62, 63, 64, 65] (by decide +kernel) (by decide +kernel)
set_option maxRecDepth 20000 in
theorem gX4_countNow_X4_leastTrace : GoodIn wsX4_countNow (wsV RX4 111 RX4 yX4_leastTrace wsX4_leastTrace) := goodIn_app (goodIn_of _ (by decide +kernel)) ggX4_countNow_X4_leastTrace
set_option maxRecDepth 20000 in
theorem ggX4_countNow_X4_greatest : GoodIn wsX4_countNow wsX4_greatest := goodIn_r _ [34, 35, 36, 37, 6, 38, 1, 39, 40, 41, 42, 16, 17, 18, 19, 20, 21, 22, 23, 24, 25, 26, 43, 44, 45, 46, 47, 48, 49, 54, 55, 56, 57, 58, 59, 60, 61, 62, 63, 64, 65] (by decide +kernel) (by decide +kernel)
set_option maxRecDepth 20000 in
theorem gX4_countNow_X4_greatest : GoodIn wsX4_countNow (wsV RX4 117 RX4 yX4_greatest wsX4_greatest) := goodIn_app (goodIn_of _ (by decide +kernel)) ggX4_countNow_X4_greatest
set_option maxRecDepth 20000 in
theorem ggX4_countNow_X4_overshoot : GoodIn wsX4_countNow wsX4_overshoot := goodIn_r _ [53, 12, 13, 14, 6, 15, 16, 17, 18, 19, 20, 21, 22, 23, 1, 24, 25, 26, 47, 48, 49, 27, 28, 29, 30, 54, 55, 56, 57, 58, 59, 60, 61, 62, 63, 64, 65] (by decide +kernel) (by decide +kernel)
set_option maxRecDepth 20000 in
theorem gX4_countNow_X4_overshoot : GoodIn wsX4_countNow (wsV RX4 120 RX4 yX4_overshoot wsX4_overshoot) := goodIn_app (goodIn_of _ (by decide +kernel)) ggX4_countNow_X4_overshoot
theorem dX4_countNow_0 : decode cX4_countNow 0 = .ok (.iload_n 1, 1) := by decide +kernel
theorem dX4_countNow_1 : decode cX4_countNow 1 = .ok (.tableswitch 92 0 7 #[47, 52, 57, 62, 67, 73, 79, 84], 47) := by decide +kernel
theorem dX4_countNow_48 : decode cX4_countNow 48 = .ok (.aload_n 0, 1) := by decide +kernel
theorem dX4_countNow_49 : decode cX4_countNow 49 = .ok (.invokevirtual 51, 3) := by decide +kernel
theorem dX4_countNow_52 : decode cX4_countNow 52 = .ok (.ireturn, 1) := by decide +kernel
theorem dX4_countNow_53 : decode cX4_countNow 53 = .ok (.aload_n 0, 1) := by decide +kernel
theorem dX4_countNow_54 : decode cX4_countNow 54 = .ok (.invokevirtual 114, 3) := by decide +kernel
theorem dX4_countNow_57 : decode cX4_countNow 57 = .ok (.ireturn, 1) := by decide +kernel
theorem dX4_countNow_58 : decode cX4_countNow 58 = .ok (.aload_n 0, 1) := by decide +kernel
theorem dX4_countNow_59 : decode cX4_countNow 59 = .ok (.invokevirtual 108, 3) := by decide +kernel
theorem dX4_countNow_62 : decode cX4_countNow 62 = .ok (.ireturn, 1) := by decide +kernel
theorem dX4_countNow_63 : decode cX4_countNow 63 = .ok (.aload_n 0, 1) := by decide +kernel
theorem dX4_countNow_64 : decode cX4_countNow 64 = .ok (.invokevirtual 111, 3) := by decide +kernel
theorem dX4_countNow_67 : decode cX4_countNow 67 = .ok (.ireturn, 1) := by decide +kernel
theorem dX4_countNow_68 : decode cX4_countNow 68 = .ok (.aload_n 0, 1) := by decide +kernel
theorem dX4_countNow_69 : decode cX4_countNow 69 = .ok (.iconst 1, 1) := by decide +kernel
theorem dX4_countNow_70 : decode cX4_countNow 70 = .ok (.invokevirtual 117, 3) := by decide +kernel
theorem dX4_countNow_73 : decode cX4_countNow 73 = .ok (.ireturn, 1) := by decide +kernel
theorem dX4_countNow_74 : decode cX4_countNow 74 = .ok (.aload_n 0, 1) := by decide +kernel
theorem dX4_countNow_75 : decode cX4_countNow 75 = .ok (.iconst 2, 1) := by decide +kernel
theorem dX4_countNow_76 : decode cX4_countNow 76 = .ok (.invokevirtual 117, 3) := by decide +kernel
theorem dX4_countNow_79 : decode cX4_countNow 79 = .ok (.ireturn, 1) := by decide +kernel
theorem dX4_countNow_80 : decode cX4_countNow 80 = .ok (.aload_n 0, 1) := by decide +kernel
theorem dX4_countNow_81 : decode cX4_countNow 81 = .ok (.invokevirtual 120, 3) := by decide +kernel
theorem dX4_countNow_84 : decode cX4_countNow 84 = .ok (.ireturn, 1) := by decide +kernel
theorem dX4_countNow_85 : decode cX4_countNow 85 = .ok (.aload_n 0, 1) := by decide +kernel
theorem dX4_countNow_86 : decode cX4_countNow 86 = .ok (.getfield 7, 3) := by decide +kernel
theorem dX4_countNow_89 : decode cX4_countNow 89 = .ok (.bipush 24, 2) := by decide +kernel
theorem dX4_countNow_91 : decode cX4_countNow 91 = .ok (.iaload, 1) := by decide +kernel
theorem dX4_countNow_92 : decode cX4_countNow 92 = .ok (.ireturn, 1) := by decide +kernel
theorem dX4_countNow_93 : decode cX4_countNow 93 = .ok (.aload_n 0, 1) := by decide +kernel
theorem dX4_countNow_94 : decode cX4_countNow 94 = .ok (.getfield 48, 3) := by decide +kernel
theorem dX4_countNow_97 : decode cX4_countNow 97 = .ok (.ireturn, 1) := by decide +kernel
set_option maxRecDepth 20000 in
theorem ggX4_count_X4_in : GoodIn wsX4_count wsX4_in := goodIn_r _ [5] (by decide +kernel) (by decide +kernel)
set_option maxRecDepth 20000 in
theorem gX4_count_X4_in : GoodIn wsX4_count (va_wsS RX4 33 yX4_in wsX4_in) := goodIn_app (goodIn_of _ (by decide +kernel)) ggX4_count_X4_in
set_option maxRecDepth 20000 in
theorem ggX4_count_X4_countNow : GoodIn wsX4_count wsX4_countNow := goodIn_r _ [9, 10, 11, 12, 13, 14, 4, 15, 16, 17, 18, 19, 20, 21, 22, 23, 24, 25, 26, 27, 28, 29, 30, 31, 32, 33, 34, 35, 36, 37, 38, 39, 40, 41, 42, 43, 44, 45, 46, 47, 48, 49, 50, 51, 52, 53, 54, 55, 56, 57, 58, 59, 60, 61, 62, 63, 64, 65, 66, 67, 68, 69, 70, 71, 72, 73] (by decide +kernel) (by decide +kernel)
set_option maxRecDepth 20000 in
theorem gX4_count_X4_countNow : GoodIn wsX4_count (wsV RX4 123 RX4 yX4_countNow wsX4_countNow) := goodIn_app (goodIn_of _ (by decide +kernel)) ggX4_count_X4_countNow
theorem dX4_count_0 : decode cX4_count 0 = .ok (.aload_n 0, 1) := by decide +kernel
theorem dX4_count_1 : decode cX4_count 1 = .ok (.iload_n 1, 1) := by decide +kernel
theorem dX4_count_2 : decode cX4_count 2 = .ok (.iconst 0, 1) := by decide +kernel
theorem dX4_count_3 : decode cX4_count 3 = .ok (.bipush 8, 2) := by decide +kernel
theorem dX4_count_5 : decode cX4_count 5 = .ok (.invokestatic 33, 3) := by decide +kernel
theorem dX4_count_8 : decode cX4_count 8 = .ok (.ifCond .eq 7, 3) := by decide +kernel
theorem dX4_count_11 : decode cX4_count 11 = .ok (.iconst 0, 1) := by decide +kernel
theorem dX4_count_12 : decode cX4_count 12 = .ok (.goto 4, 3) := by decide +kernel
theorem dX4_count_15 : decode cX4_count 15 = .ok (.iconst 1, 1) := by decide +kernel
theorem dX4_count_16 : decode cX4_count 16 = .ok (.putfield 29, 3) := by decide +kernel
theorem dX4_count_19 : decode cX4_count 19 = .ok (.aload_n 0, 1) := by decide +kernel
theorem dX4_count_20 : decode cX4_count 20 = .ok (.getfield 29, 3) := by decide +kernel
theorem dX4_count_23 : decode cX4_count 23 = .ok (.ifCond .le 7, 3) := by decide +kernel
theorem dX4_count_26 : decode cX4_count 26 = .ok (.iconst 0, 1) := by decide +kernel
theorem dX4_count_27 : decode cX4_count 27 = .ok (.goto 8, 3) := by decide +kernel
theorem dX4_count_30 : decode cX4_count 30 = .ok (.aload_n 0, 1) := by decide +kernel
theorem dX4_count_31 : decode cX4_count 31 = .ok (.iload_n 1, 1) := by decide +kernel
theorem dX4_count_32 : decode cX4_count 32 = .ok (.invokevirtual 123, 3) := by decide +kernel
theorem dX4_count_35 : decode cX4_count 35 = .ok (.ireturn, 1) := by decide +kernel
set_option maxRecDepth 20000 in
theorem ggX4_explaining_X4_difference : GoodIn wsX4_explaining wsX4_difference := goodIn_r _ [5, 6, 7, 8, 9, 4, 10, 11, 12, 13, 14, 15, 16, 17, 18, 19, 20, 21, 22, 23, 24, 25, 26, 27, 28, 29] (by decide +kernel) (by decide +kernel)
set_option maxRecDepth 20000 in
theorem gX4_explaining_X4_difference : GoodIn wsX4_explaining (wsV RX4 68 RX4 yX4_difference wsX4_difference) := goodIn_app (goodIn_of _ (by decide +kernel)) ggX4_explaining_X4_difference
set_option maxRecDepth 20000 in
theorem ggX4_explaining_X4_wave : GoodIn wsX4_explaining wsX4_wave := goodIn_r _ [17] (by decide +kernel) (by decide +kernel)
set_option maxRecDepth 20000 in
theorem gX4_explaining_X4_wave : GoodIn wsX4_explaining (va_wsS RX4 41 yX4_wave wsX4_wave) := goodIn_app (goodIn_of _ (by decide +kernel)) ggX4_explaining_X4_wave
theorem dX4_explaining_0 : decode cX4_explaining 0 = .ok (.aload_n 0, 1) := by decide +kernel
theorem dX4_explaining_1 : decode cX4_explaining 1 = .ok (.iconst 0, 1) := by decide +kernel
theorem dX4_explaining_2 : decode cX4_explaining 2 = .ok (.invokevirtual 68, 3) := by decide +kernel
theorem dX4_explaining_5 : decode cX4_explaining 5 = .ok (.istore_n 1, 1) := by decide +kernel
theorem dX4_explaining_6 : decode cX4_explaining 6 = .ok (.iconst 0, 1) := by decide +kernel
theorem dX4_explaining_7 : decode cX4_explaining 7 = .ok (.istore_n 2, 1) := by decide +kernel
theorem dX4_explaining_8 : decode cX4_explaining 8 = .ok (.iload_n 2, 1) := by decide +kernel
theorem dX4_explaining_9 : decode cX4_explaining 9 = .ok (.bipush 8, 2) := by decide +kernel
theorem dX4_explaining_11 : decode cX4_explaining 11 = .ok (.if_icmp .ge 64, 3) := by decide +kernel
theorem dX4_explaining_14 : decode cX4_explaining 14 = .ok (.iload_n 1, 1) := by decide +kernel
theorem dX4_explaining_15 : decode cX4_explaining 15 = .ok (.ifCond .eq 60, 3) := by decide +kernel
theorem dX4_explaining_18 : decode cX4_explaining 18 = .ok (.iconst 1, 1) := by decide +kernel
theorem dX4_explaining_19 : decode cX4_explaining 19 = .ok (.istore_n 3, 1) := by decide +kernel
theorem dX4_explaining_20 : decode cX4_explaining 20 = .ok (.iconst 1, 1) := by decide +kernel
theorem dX4_explaining_21 : decode cX4_explaining 21 = .ok (.istore 4, 2) := by decide +kernel
theorem dX4_explaining_23 : decode cX4_explaining 23 = .ok (.iload 4, 2) := by decide +kernel
theorem dX4_explaining_25 : decode cX4_explaining 25 = .ok (.bipush 8, 2) := by decide +kernel
theorem dX4_explaining_27 : decode cX4_explaining 27 = .ok (.if_icmp .ge 36, 3) := by decide +kernel
theorem dX4_explaining_30 : decode cX4_explaining 30 = .ok (.iload_n 3, 1) := by decide +kernel
theorem dX4_explaining_31 : decode cX4_explaining 31 = .ok (.ifCond .eq 24, 3) := by decide +kernel
theorem dX4_explaining_34 : decode cX4_explaining 34 = .ok (.aload_n 0, 1) := by decide +kernel
theorem dX4_explaining_35 : decode cX4_explaining 35 = .ok (.iload 4, 2) := by decide +kernel
theorem dX4_explaining_37 : decode cX4_explaining 37 = .ok (.invokevirtual 68, 3) := by decide +kernel
theorem dX4_explaining_40 : decode cX4_explaining 40 = .ok (.iload_n 1, 1) := by decide +kernel
theorem dX4_explaining_41 : decode cX4_explaining 41 = .ok (.iload_n 2, 1) := by decide +kernel
theorem dX4_explaining_42 : decode cX4_explaining 42 = .ok (.iload 4, 2) := by decide +kernel
theorem dX4_explaining_44 : decode cX4_explaining 44 = .ok (.invokestatic 41, 3) := by decide +kernel
theorem dX4_explaining_47 : decode cX4_explaining 47 = .ok (.imul, 1) := by decide +kernel
theorem dX4_explaining_48 : decode cX4_explaining 48 = .ok (.if_icmp .ne 7, 3) := by decide +kernel
theorem dX4_explaining_51 : decode cX4_explaining 51 = .ok (.iconst 1, 1) := by decide +kernel
theorem dX4_explaining_52 : decode cX4_explaining 52 = .ok (.goto 4, 3) := by decide +kernel
theorem dX4_explaining_55 : decode cX4_explaining 55 = .ok (.iconst 0, 1) := by decide +kernel
theorem dX4_explaining_56 : decode cX4_explaining 56 = .ok (.istore_n 3, 1) := by decide +kernel
theorem dX4_explaining_57 : decode cX4_explaining 57 = .ok (.iinc 4 1, 3) := by decide +kernel
theorem dX4_explaining_60 : decode cX4_explaining 60 = .ok (.goto (-37), 3) := by decide +kernel
theorem dX4_explaining_63 : decode cX4_explaining 63 = .ok (.iload_n 3, 1) := by decide +kernel
theorem dX4_explaining_64 : decode cX4_explaining 64 = .ok (.ifCond .eq 5, 3) := by decide +kernel
theorem dX4_explaining_67 : decode cX4_explaining 67 = .ok (.iload_n 2, 1) := by decide +kernel
theorem dX4_explaining_68 : decode cX4_explaining 68 = .ok (.ireturn, 1) := by decide +kernel
theorem dX4_explaining_69 : decode cX4_explaining 69 = .ok (.iinc 2 1, 3) := by decide +kernel
theorem dX4_explaining_72 : decode cX4_explaining 72 = .ok (.goto (-64), 3) := by decide +kernel
theorem dX4_explaining_75 : decode cX4_explaining 75 = .ok (.iconst (-1), 1) := by decide +kernel
theorem dX4_explaining_76 : decode cX4_explaining 76 = .ok (.ireturn, 1) := by decide +kernel
set_option maxRecDepth 20000 in
theorem ggX4_findLost_X4_explaining : GoodIn wsX4_findLost wsX4_explaining := goodIn_r _ [6, 7, 8, 9, 5, 10, 11, 12, 13, 14, 15, 16, 17, 18, 19, 20, 21, 22, 23, 24, 25, 26, 27, 28, 29, 30, 31, 32, 33, 34] (by decide +kernel) (by decide +kernel)
set_option maxRecDepth 20000 in
theorem gX4_findLost_X4_explaining : GoodIn wsX4_findLost (wsV RX4 126 RX4 yX4_explaining wsX4_explaining) := goodIn_app (goodIn_of _ (by decide +kernel)) ggX4_findLost_X4_explaining
theorem dX4_findLost_0 : decode cX4_findLost 0 = .ok (.aload_n 0, 1) := by decide +kernel
theorem dX4_findLost_1 : decode cX4_findLost 1 = .ok (.iconst 0, 1) := by decide +kernel
theorem dX4_findLost_2 : decode cX4_findLost 2 = .ok (.putfield 29, 3) := by decide +kernel
theorem dX4_findLost_5 : decode cX4_findLost 5 = .ok (.aload_n 0, 1) := by decide +kernel
theorem dX4_findLost_6 : decode cX4_findLost 6 = .ok (.invokevirtual 126, 3) := by decide +kernel
theorem dX4_findLost_9 : decode cX4_findLost 9 = .ok (.ireturn, 1) := by decide +kernel
set_option maxRecDepth 20000 in
theorem ggX4_fewest_X4_used : GoodIn wsX4_fewest wsX4_used := goodIn_r _ [7, 2, 11, 12, 13, 14, 15, 16, 17, 18, 19, 20, 21, 22] (by decide +kernel) (by decide +kernel)
set_option maxRecDepth 20000 in
theorem gX4_fewest_X4_used : GoodIn wsX4_fewest (wsV RX4 37 RX4 yX4_used wsX4_used) := goodIn_app (goodIn_of _ (by decide +kernel)) ggX4_fewest_X4_used
set_option maxRecDepth 20000 in
theorem ggX4_fewest_X4_amount : GoodIn wsX4_fewest wsX4_amount := goodIn_r _ [10] (by decide +kernel) (by decide +kernel)
set_option maxRecDepth 20000 in
theorem gX4_fewest_X4_amount : GoodIn wsX4_fewest (va_wsS RX4 65 yX4_amount wsX4_amount) := goodIn_app (goodIn_of _ (by decide +kernel)) ggX4_fewest_X4_amount
theorem dX4_fewest_0 : decode cX4_fewest 0 = .ok (.iconst 0, 1) := by decide +kernel
theorem dX4_fewest_1 : decode cX4_fewest 1 = .ok (.istore_n 2, 1) := by decide +kernel
theorem dX4_fewest_2 : decode cX4_fewest 2 = .ok (.iconst 0, 1) := by decide +kernel
theorem dX4_fewest_3 : decode cX4_fewest 3 = .ok (.istore_n 3, 1) := by decide +kernel
theorem dX4_fewest_4 : decode cX4_fewest 4 = .ok (.iload_n 3, 1) := by decide +kernel
theorem dX4_fewest_5 : decode cX4_fewest 5 = .ok (.bipush 8, 2) := by decide +kernel
theorem dX4_fewest_7 : decode cX4_fewest 7 = .ok (.if_icmp .ge 45, 3) := by decide +kernel
theorem dX4_fewest_10 : decode cX4_fewest 10 = .ok (.aload_n 0, 1) := by decide +kernel
theorem dX4_fewest_11 : decode cX4_fewest 11 = .ok (.getfield 26, 3) := by decide +kernel
theorem dX4_fewest_14 : decode cX4_fewest 14 = .ok (.iload_n 3, 1) := by decide +kernel
theorem dX4_fewest_15 : decode cX4_fewest 15 = .ok (.aload_n 0, 1) := by decide +kernel
theorem dX4_fewest_16 : decode cX4_fewest 16 = .ok (.iload_n 3, 1) := by decide +kernel
theorem dX4_fewest_17 : decode cX4_fewest 17 = .ok (.invokevirtual 37, 3) := by decide +kernel
theorem dX4_fewest_20 : decode cX4_fewest 20 = .ok (.ifCond .ne 7, 3) := by decide +kernel
theorem dX4_fewest_23 : decode cX4_fewest 23 = .ok (.iconst 1, 1) := by decide +kernel
theorem dX4_fewest_24 : decode cX4_fewest 24 = .ok (.goto 4, 3) := by decide +kernel
theorem dX4_fewest_27 : decode cX4_fewest 27 = .ok (.iconst 0, 1) := by decide +kernel
theorem dX4_fewest_28 : decode cX4_fewest 28 = .ok (.bastore, 1) := by decide +kernel
theorem dX4_fewest_29 : decode cX4_fewest 29 = .ok (.iload_n 2, 1) := by decide +kernel
theorem dX4_fewest_30 : decode cX4_fewest 30 = .ok (.aload_n 0, 1) := by decide +kernel
theorem dX4_fewest_31 : decode cX4_fewest 31 = .ok (.getfield 26, 3) := by decide +kernel
theorem dX4_fewest_34 : decode cX4_fewest 34 = .ok (.iload_n 3, 1) := by decide +kernel
theorem dX4_fewest_35 : decode cX4_fewest 35 = .ok (.baload, 1) := by decide +kernel
theorem dX4_fewest_36 : decode cX4_fewest 36 = .ok (.ifCond .eq 7, 3) := by decide +kernel
theorem dX4_fewest_39 : decode cX4_fewest 39 = .ok (.iconst 0, 1) := by decide +kernel
theorem dX4_fewest_40 : decode cX4_fewest 40 = .ok (.goto 4, 3) := by decide +kernel
theorem dX4_fewest_43 : decode cX4_fewest 43 = .ok (.iconst 1, 1) := by decide +kernel
theorem dX4_fewest_44 : decode cX4_fewest 44 = .ok (.iadd, 1) := by decide +kernel
theorem dX4_fewest_45 : decode cX4_fewest 45 = .ok (.istore_n 2, 1) := by decide +kernel
theorem dX4_fewest_46 : decode cX4_fewest 46 = .ok (.iinc 3 1, 3) := by decide +kernel
theorem dX4_fewest_49 : decode cX4_fewest 49 = .ok (.goto (-45), 3) := by decide +kernel
theorem dX4_fewest_52 : decode cX4_fewest 52 = .ok (.iload_n 1, 1) := by decide +kernel
theorem dX4_fewest_53 : decode cX4_fewest 53 = .ok (.istore_n 3, 1) := by decide +kernel
theorem dX4_fewest_54 : decode cX4_fewest 54 = .ok (.iload_n 2, 1) := by decide +kernel
theorem dX4_fewest_55 : decode cX4_fewest 55 = .ok (.ifCond .le 7, 3) := by decide +kernel
theorem dX4_fewest_58 : decode cX4_fewest 58 = .ok (.iconst 1, 1) := by decide +kernel
theorem dX4_fewest_59 : decode cX4_fewest 59 = .ok (.goto 4, 3) := by decide +kernel
theorem dX4_fewest_62 : decode cX4_fewest 62 = .ok (.iconst 0, 1) := by decide +kernel
theorem dX4_fewest_63 : decode cX4_fewest 63 = .ok (.istore 4, 2) := by decide +kernel
theorem dX4_fewest_65 : decode cX4_fewest 65 = .ok (.iload 4, 2) := by decide +kernel
theorem dX4_fewest_67 : decode cX4_fewest 67 = .ok (.ifCond .eq 141, 3) := by decide +kernel
theorem dX4_fewest_70 : decode cX4_fewest 70 = .ok (.iconst (-1), 1) := by decide +kernel
theorem dX4_fewest_71 : decode cX4_fewest 71 = .ok (.istore 5, 2) := by decide +kernel
theorem dX4_fewest_73 : decode cX4_fewest 73 = .ok (.iconst 0, 1) := by decide +kernel
theorem dX4_fewest_74 : decode cX4_fewest 74 = .ok (.istore 6, 2) := by decide +kernel
theorem dX4_fewest_76 : decode cX4_fewest 76 = .ok (.iload 6, 2) := by decide +kernel
theorem dX4_fewest_78 : decode cX4_fewest 78 = .ok (.bipush 8, 2) := by decide +kernel
theorem dX4_fewest_80 : decode cX4_fewest 80 = .ok (.if_icmp .ge 56, 3) := by decide +kernel
theorem dX4_fewest_83 : decode cX4_fewest 83 = .ok (.aload_n 0, 1) := by decide +kernel
theorem dX4_fewest_84 : decode cX4_fewest 84 = .ok (.getfield 26, 3) := by decide +kernel
theorem dX4_fewest_87 : decode cX4_fewest 87 = .ok (.iload 6, 2) := by decide +kernel
theorem dX4_fewest_89 : decode cX4_fewest 89 = .ok (.baload, 1) := by decide +kernel
theorem dX4_fewest_90 : decode cX4_fewest 90 = .ok (.ifCond .ne 36, 3) := by decide +kernel
theorem dX4_fewest_93 : decode cX4_fewest 93 = .ok (.iload 5, 2) := by decide +kernel
theorem dX4_fewest_95 : decode cX4_fewest 95 = .ok (.ifCond .lt 26, 3) := by decide +kernel
theorem dX4_fewest_98 : decode cX4_fewest 98 = .ok (.aload_n 0, 1) := by decide +kernel
theorem dX4_fewest_99 : decode cX4_fewest 99 = .ok (.getfield 7, 3) := by decide +kernel
theorem dX4_fewest_102 : decode cX4_fewest 102 = .ok (.iload 6, 2) := by decide +kernel
theorem dX4_fewest_104 : decode cX4_fewest 104 = .ok (.iaload, 1) := by decide +kernel
theorem dX4_fewest_105 : decode cX4_fewest 105 = .ok (.invokestatic 65, 3) := by decide +kernel
theorem dX4_fewest_108 : decode cX4_fewest 108 = .ok (.aload_n 0, 1) := by decide +kernel
theorem dX4_fewest_109 : decode cX4_fewest 109 = .ok (.getfield 7, 3) := by decide +kernel
theorem dX4_fewest_112 : decode cX4_fewest 112 = .ok (.iload 5, 2) := by decide +kernel
theorem dX4_fewest_114 : decode cX4_fewest 114 = .ok (.iaload, 1) := by decide +kernel
theorem dX4_fewest_115 : decode cX4_fewest 115 = .ok (.invokestatic 65, 3) := by decide +kernel
theorem dX4_fewest_118 : decode cX4_fewest 118 = .ok (.if_icmp .ge 8, 3) := by decide +kernel
theorem dX4_fewest_121 : decode cX4_fewest 121 = .ok (.iload 6, 2) := by decide +kernel
theorem dX4_fewest_123 : decode cX4_fewest 123 = .ok (.goto 5, 3) := by decide +kernel
theorem dX4_fewest_126 : decode cX4_fewest 126 = .ok (.iload 5, 2) := by decide +kernel
theorem dX4_fewest_128 : decode cX4_fewest 128 = .ok (.istore 5, 2) := by decide +kernel
theorem dX4_fewest_130 : decode cX4_fewest 130 = .ok (.iinc 6 1, 3) := by decide +kernel
theorem dX4_fewest_133 : decode cX4_fewest 133 = .ok (.goto (-57), 3) := by decide +kernel
theorem dX4_fewest_136 : decode cX4_fewest 136 = .ok (.iload_n 3, 1) := by decide +kernel
theorem dX4_fewest_137 : decode cX4_fewest 137 = .ok (.bipush 8, 2) := by decide +kernel
theorem dX4_fewest_139 : decode cX4_fewest 139 = .ok (.aload_n 0, 1) := by decide +kernel
theorem dX4_fewest_140 : decode cX4_fewest 140 = .ok (.getfield 7, 3) := by decide +kernel
theorem dX4_fewest_143 : decode cX4_fewest 143 = .ok (.iload 5, 2) := by decide +kernel
theorem dX4_fewest_145 : decode cX4_fewest 145 = .ok (.iaload, 1) := by decide +kernel
theorem dX4_fewest_146 : decode cX4_fewest 146 = .ok (.imul, 1) := by decide +kernel
theorem dX4_fewest_147 : decode cX4_fewest 147 = .ok (.aload_n 0, 1) := by decide +kernel
theorem dX4_fewest_148 : decode cX4_fewest 148 = .ok (.getfield 7, 3) := by decide +kernel
theorem dX4_fewest_151 : decode cX4_fewest 151 = .ok (.iload 5, 2) := by decide +kernel
theorem dX4_fewest_153 : decode cX4_fewest 153 = .ok (.iaload, 1) := by decide +kernel
theorem dX4_fewest_154 : decode cX4_fewest 154 = .ok (.imul, 1) := by decide +kernel
theorem dX4_fewest_155 : decode cX4_fewest 155 = .ok (.isub, 1) := by decide +kernel
theorem dX4_fewest_156 : decode cX4_fewest 156 = .ok (.istore_n 3, 1) := by decide +kernel
theorem dX4_fewest_157 : decode cX4_fewest 157 = .ok (.iload_n 3, 1) := by decide +kernel
theorem dX4_fewest_158 : decode cX4_fewest 158 = .ok (.ifCond .lt 7, 3) := by decide +kernel
theorem dX4_fewest_161 : decode cX4_fewest 161 = .ok (.iconst 1, 1) := by decide +kernel
theorem dX4_fewest_162 : decode cX4_fewest 162 = .ok (.goto 4, 3) := by decide +kernel
theorem dX4_fewest_165 : decode cX4_fewest 165 = .ok (.iconst 0, 1) := by decide +kernel
theorem dX4_fewest_166 : decode cX4_fewest 166 = .ok (.istore 4, 2) := by decide +kernel
theorem dX4_fewest_168 : decode cX4_fewest 168 = .ok (.aload_n 0, 1) := by decide +kernel
theorem dX4_fewest_169 : decode cX4_fewest 169 = .ok (.getfield 26, 3) := by decide +kernel
theorem dX4_fewest_172 : decode cX4_fewest 172 = .ok (.iload 5, 2) := by decide +kernel
theorem dX4_fewest_174 : decode cX4_fewest 174 = .ok (.iconst 1, 1) := by decide +kernel
theorem dX4_fewest_175 : decode cX4_fewest 175 = .ok (.bastore, 1) := by decide +kernel
theorem dX4_fewest_176 : decode cX4_fewest 176 = .ok (.iload_n 2, 1) := by decide +kernel
theorem dX4_fewest_177 : decode cX4_fewest 177 = .ok (.iload 4, 2) := by decide +kernel
theorem dX4_fewest_179 : decode cX4_fewest 179 = .ok (.ifCond .eq 7, 3) := by decide +kernel
theorem dX4_fewest_182 : decode cX4_fewest 182 = .ok (.iconst 1, 1) := by decide +kernel
theorem dX4_fewest_183 : decode cX4_fewest 183 = .ok (.goto 4, 3) := by decide +kernel
theorem dX4_fewest_186 : decode cX4_fewest 186 = .ok (.iconst 0, 1) := by decide +kernel
theorem dX4_fewest_187 : decode cX4_fewest 187 = .ok (.isub, 1) := by decide +kernel
theorem dX4_fewest_188 : decode cX4_fewest 188 = .ok (.istore_n 2, 1) := by decide +kernel
theorem dX4_fewest_189 : decode cX4_fewest 189 = .ok (.iload 4, 2) := by decide +kernel
theorem dX4_fewest_191 : decode cX4_fewest 191 = .ok (.ifCond .eq 11, 3) := by decide +kernel
theorem dX4_fewest_194 : decode cX4_fewest 194 = .ok (.iload_n 2, 1) := by decide +kernel
theorem dX4_fewest_195 : decode cX4_fewest 195 = .ok (.ifCond .le 7, 3) := by decide +kernel
theorem dX4_fewest_198 : decode cX4_fewest 198 = .ok (.iconst 1, 1) := by decide +kernel
theorem dX4_fewest_199 : decode cX4_fewest 199 = .ok (.goto 4, 3) := by decide +kernel
theorem dX4_fewest_202 : decode cX4_fewest 202 = .ok (.iconst 0, 1) := by decide +kernel
theorem dX4_fewest_203 : decode cX4_fewest 203 = .ok (.istore 4, 2) := by decide +kernel
theorem dX4_fewest_205 : decode cX4_fewest 205 = .ok (.goto (-140), 3) := by decide +kernel
theorem dX4_fewest_208 : decode cX4_fewest 208 = .ok (.iload_n 2, 1) := by decide +kernel
theorem dX4_fewest_209 : decode cX4_fewest 209 = .ok (.ireturn, 1) := by decide +kernel
set_option maxRecDepth 20000 in
theorem ggX4_enough_X4_in : GoodIn wsX4_enough wsX4_in := goodIn_r _ [6] (by decide +kernel) (by decide +kernel)
set_option maxRecDepth 20000 in
theorem gX4_enough_X4_in : GoodIn wsX4_enough (va_wsS RX4 33 yX4_in wsX4_in) := goodIn_app (goodIn_of _ (by decide +kernel)) ggX4_enough_X4_in
set_option maxRecDepth 20000 in
theorem ggX4_enough_X4_fewest : GoodIn wsX4_enough wsX4_fewest := goodIn_r _ [10, 11, 12, 13, 14, 15, 5, 16, 17, 18, 19, 20, 21, 22, 23, 24, 25, 26, 27, 28, 29, 30, 31] (by decide +kernel) (by decide +kernel)
set_option maxRecDepth 20000 in
theorem gX4_enough_X4_fewest : GoodIn wsX4_enough (wsV RX4 130 RX4 yX4_fewest wsX4_fewest) := goodIn_app (goodIn_of _ (by decide +kernel)) ggX4_enough_X4_fewest
theorem dX4_enough_0 : decode cX4_enough 0 = .ok (.aload_n 0, 1) := by decide +kernel
theorem dX4_enough_1 : decode cX4_enough 1 = .ok (.iload_n 1, 1) := by decide +kernel
theorem dX4_enough_2 : decode cX4_enough 2 = .ok (.iconst 0, 1) := by decide +kernel
theorem dX4_enough_3 : decode cX4_enough 3 = .ok (.ldc 129, 2) := by decide +kernel
theorem dX4_enough_5 : decode cX4_enough 5 = .ok (.invokestatic 33, 3) := by decide +kernel
theorem dX4_enough_8 : decode cX4_enough 8 = .ok (.ifCond .eq 16, 3) := by decide +kernel
theorem dX4_enough_11 : decode cX4_enough 11 = .ok (.iload_n 2, 1) := by decide +kernel
theorem dX4_enough_12 : decode cX4_enough 12 = .ok (.iconst 0, 1) := by decide +kernel
theorem dX4_enough_13 : decode cX4_enough 13 = .ok (.iconst 1, 1) := by decide +kernel
theorem dX4_enough_14 : decode cX4_enough 14 = .ok (.invokestatic 33, 3) := by decide +kernel
theorem dX4_enough_17 : decode cX4_enough 17 = .ok (.ifCond .eq 7, 3) := by decide +kernel
theorem dX4_enough_20 : decode cX4_enough 20 = .ok (.iconst 0, 1) := by decide +kernel
theorem dX4_enough_21 : decode cX4_enough 21 = .ok (.goto 4, 3) := by decide +kernel
theorem dX4_enough_24 : decode cX4_enough 24 = .ok (.iconst 1, 1) := by decide +kernel
theorem dX4_enough_25 : decode cX4_enough 25 = .ok (.putfield 29, 3) := by decide +kernel
theorem dX4_enough_28 : decode cX4_enough 28 = .ok (.aload_n 0, 1) := by decide +kernel
theorem dX4_enough_29 : decode cX4_enough 29 = .ok (.getfield 29, 3) := by decide +kernel
theorem dX4_enough_32 : decode cX4_enough 32 = .ok (.ifCond .le 7, 3) := by decide +kernel
theorem dX4_enough_35 : decode cX4_enough 35 = .ok (.iconst 0, 1) := by decide +kernel
theorem dX4_enough_36 : decode cX4_enough 36 = .ok (.goto 8, 3) := by decide +kernel
theorem dX4_enough_39 : decode cX4_enough 39 = .ok (.aload_n 0, 1) := by decide +kernel
theorem dX4_enough_40 : decode cX4_enough 40 = .ok (.iload_n 1, 1) := by decide +kernel
theorem dX4_enough_41 : decode cX4_enough 41 = .ok (.invokevirtual 130, 3) := by decide +kernel
theorem dX4_enough_44 : decode cX4_enough 44 = .ok (.ireturn, 1) := by decide +kernel
set_option maxRecDepth 20000 in
theorem ggX4_ifTurned_X4_isOne : GoodIn wsX4_ifTurned wsX4_isOne := goodIn_r _ [5, 6, 7, 4, 8] (by decide +kernel) (by decide +kernel)
set_option maxRecDepth 20000 in
theorem gX4_ifTurned_X4_isOne : GoodIn wsX4_ifTurned (va_wsS RX4 58 yX4_isOne wsX4_isOne) := goodIn_app (goodIn_of _ (by decide +kernel)) ggX4_ifTurned_X4_isOne
set_option maxRecDepth 20000 in
theorem ggX4_ifTurned_X4_traceAt : GoodIn wsX4_ifTurned wsX4_traceAt := goodIn_r _ [12, 13, 14, 15, 4, 16, 17, 18, 19, 20, 21, 22, 23, 24, 25, 26, 27, 28, 29, 30, 31, 32] (by decide +kernel) (by decide +kernel)
set_option maxRecDepth 20000 in
theorem gX4_ifTurned_X4_traceAt : GoodIn wsX4_ifTurned (wsV RX4 45 RX4 yX4_traceAt wsX4_traceAt) := goodIn_app (goodIn_of _ (by decide +kernel)) ggX4_ifTurned_X4_traceAt
theorem dX4_ifTurned_0 : decode cX4_ifTurned 0 = .ok (.aload_n 0, 1) := by decide +kernel
theorem dX4_ifTurned_1 : decode cX4_ifTurned 1 = .ok (.iload_n 2, 1) := by decide +kernel
theorem dX4_ifTurned_2 : decode cX4_ifTurned 2 = .ok (.invokestatic 58, 3) := by decide +kernel
theorem dX4_ifTurned_5 : decode cX4_ifTurned 5 = .ok (.ifCond .ne 7, 3) := by decide +kernel
theorem dX4_ifTurned_8 : decode cX4_ifTurned 8 = .ok (.iconst 1, 1) := by decide +kernel
theorem dX4_ifTurned_9 : decode cX4_ifTurned 9 = .ok (.goto 15, 3) := by decide +kernel
theorem dX4_ifTurned_12 : decode cX4_ifTurned 12 = .ok (.iload_n 1, 1) := by decide +kernel
theorem dX4_ifTurned_13 : decode cX4_ifTurned 13 = .ok (.invokestatic 58, 3) := by decide +kernel
theorem dX4_ifTurned_16 : decode cX4_ifTurned 16 = .ok (.ifCond .eq 7, 3) := by decide +kernel
theorem dX4_ifTurned_19 : decode cX4_ifTurned 19 = .ok (.iconst 0, 1) := by decide +kernel
theorem dX4_ifTurned_20 : decode cX4_ifTurned 20 = .ok (.goto 4, 3) := by decide +kernel
theorem dX4_ifTurned_23 : decode cX4_ifTurned 23 = .ok (.iconst 2, 1) := by decide +kernel
theorem dX4_ifTurned_24 : decode cX4_ifTurned 24 = .ok (.putfield 29, 3) := by decide +kernel
theorem dX4_ifTurned_27 : decode cX4_ifTurned 27 = .ok (.aload_n 0, 1) := by decide +kernel
theorem dX4_ifTurned_28 : decode cX4_ifTurned 28 = .ok (.getfield 29, 3) := by decide +kernel
theorem dX4_ifTurned_31 : decode cX4_ifTurned 31 = .ok (.ifCond .le 7, 3) := by decide +kernel
theorem dX4_ifTurned_34 : decode cX4_ifTurned 34 = .ok (.iconst 0, 1) := by decide +kernel
theorem dX4_ifTurned_35 : decode cX4_ifTurned 35 = .ok (.goto 10, 3) := by decide +kernel
theorem dX4_ifTurned_38 : decode cX4_ifTurned 38 = .ok (.aload_n 0, 1) := by decide +kernel
theorem dX4_ifTurned_39 : decode cX4_ifTurned 39 = .ok (.iload_n 2, 1) := by decide +kernel
theorem dX4_ifTurned_40 : decode cX4_ifTurned 40 = .ok (.iload_n 1, 1) := by decide +kernel
theorem dX4_ifTurned_41 : decode cX4_ifTurned 41 = .ok (.ixor, 1) := by decide +kernel
theorem dX4_ifTurned_42 : decode cX4_ifTurned 42 = .ok (.invokevirtual 45, 3) := by decide +kernel
theorem dX4_ifTurned_45 : decode cX4_ifTurned 45 = .ok (.ireturn, 1) := by decide +kernel
set_option maxRecDepth 20000 in
theorem ggX4_far_X4_traceAt : GoodIn wsX4_far wsX4_traceAt := goodIn_r _ [6, 7, 8, 9, 5, 10, 1, 11, 12, 13, 17, 18, 19, 20, 21, 22, 23, 24, 25, 26, 27, 28] (by decide +kernel) (by decide +kernel)
set_option maxRecDepth 20000 in
theorem gX4_far_X4_traceAt : GoodIn wsX4_far (wsV RX4 45 RX4 yX4_traceAt wsX4_traceAt) := goodIn_app (goodIn_of _ (by decide +kernel)) ggX4_far_X4_traceAt
set_option maxRecDepth 20000 in
theorem ggX4_far_X4_amount : GoodIn wsX4_far wsX4_amount := goodIn_r _ [16] (by decide +kernel) (by decide +kernel)
set_option maxRecDepth 20000 in
theorem gX4_far_X4_amount : GoodIn wsX4_far (va_wsS RX4 65 yX4_amount wsX4_amount) := goodIn_app (goodIn_of _ (by decide +kernel)) ggX4_far_X4_amount
theorem dX4_far_0 : decode cX4_far 0 = .ok (.iconst 0, 1) := by decide +kernel
theorem dX4_far_1 : decode cX4_far 1 = .ok (.istore_n 2, 1) := by decide +kernel
theorem dX4_far_2 : decode cX4_far 2 = .ok (.iconst 0, 1) := by decide +kernel
theorem dX4_far_3 : decode cX4_far 3 = .ok (.istore_n 3, 1) := by decide +kernel
theorem dX4_far_4 : decode cX4_far 4 = .ok (.iload_n 3, 1) := by decide +kernel
theorem dX4_far_5 : decode cX4_far 5 = .ok (.bipush 8, 2) := by decide +kernel
theorem dX4_far_7 : decode cX4_far 7 = .ok (.if_icmp .ge 32, 3) := by decide +kernel
theorem dX4_far_10 : decode cX4_far 10 = .ok (.iload_n 2, 1) := by decide +kernel
theorem dX4_far_11 : decode cX4_far 11 = .ok (.aload_n 0, 1) := by decide +kernel
theorem dX4_far_12 : decode cX4_far 12 = .ok (.getfield 7, 3) := by decide +kernel
theorem dX4_far_15 : decode cX4_far 15 = .ok (.bipush 16, 2) := by decide +kernel
theorem dX4_far_17 : decode cX4_far 17 = .ok (.iload_n 3, 1) := by decide +kernel
theorem dX4_far_18 : decode cX4_far 18 = .ok (.iadd, 1) := by decide +kernel
theorem dX4_far_19 : decode cX4_far 19 = .ok (.iaload, 1) := by decide +kernel
theorem dX4_far_20 : decode cX4_far 20 = .ok (.aload_n 0, 1) := by decide +kernel
theorem dX4_far_21 : decode cX4_far 21 = .ok (.iload_n 3, 1) := by decide +kernel
theorem dX4_far_22 : decode cX4_far 22 = .ok (.iload_n 1, 1) := by decide +kernel
theorem dX4_far_23 : decode cX4_far 23 = .ok (.ixor, 1) := by decide +kernel
theorem dX4_far_24 : decode cX4_far 24 = .ok (.invokevirtual 45, 3) := by decide +kernel
theorem dX4_far_27 : decode cX4_far 27 = .ok (.isub, 1) := by decide +kernel
theorem dX4_far_28 : decode cX4_far 28 = .ok (.invokestatic 65, 3) := by decide +kernel
theorem dX4_far_31 : decode cX4_far 31 = .ok (.iadd, 1) := by decide +kernel
theorem dX4_far_32 : decode cX4_far 32 = .ok (.istore_n 2, 1) := by decide +kernel
theorem dX4_far_33 : decode cX4_far 33 = .ok (.iinc 3 1, 3) := by decide +kernel
theorem dX4_far_36 : decode cX4_far 36 = .ok (.goto (-32), 3) := by decide +kernel
theorem dX4_far_39 : decode cX4_far 39 = .ok (.iload_n 2, 1) := by decide +kernel
theorem dX4_far_40 : decode cX4_far 40 = .ok (.ireturn, 1) := by decide +kernel
set_option maxRecDepth 20000 in
theorem ggX4_nearestTurn_X4_far : GoodIn wsX4_nearestTurn wsX4_far := goodIn_r _ [5, 6, 7, 8, 9, 4, 10, 11, 12, 13, 14, 15, 16, 17, 18, 19, 20, 21, 22, 23, 24, 25, 26, 27, 28, 29, 30, 31, 32] (by decide +kernel) (by decide +kernel)
set_option maxRecDepth 20000 in
theorem gX4_nearestTurn_X4_far : GoodIn wsX4_nearestTurn (wsV RX4 133 RX4 yX4_far wsX4_far) := goodIn_app (goodIn_of _ (by decide +kernel)) ggX4_nearestTurn_X4_far
theorem dX4_nearestTurn_0 : decode cX4_nearestTurn 0 = .ok (.iconst 0, 1) := by decide +kernel
theorem dX4_nearestTurn_1 : decode cX4_nearestTurn 1 = .ok (.istore_n 1, 1) := by decide +kernel
theorem dX4_nearestTurn_2 : decode cX4_nearestTurn 2 = .ok (.iconst 1, 1) := by decide +kernel
theorem dX4_nearestTurn_3 : decode cX4_nearestTurn 3 = .ok (.istore_n 2, 1) := by decide +kernel
theorem dX4_nearestTurn_4 : decode cX4_nearestTurn 4 = .ok (.iload_n 2, 1) := by decide +kernel
theorem dX4_nearestTurn_5 : decode cX4_nearestTurn 5 = .ok (.bipush 8, 2) := by decide +kernel
theorem dX4_nearestTurn_7 : decode cX4_nearestTurn 7 = .ok (.if_icmp .ge 28, 3) := by decide +kernel
theorem dX4_nearestTurn_10 : decode cX4_nearestTurn 10 = .ok (.aload_n 0, 1) := by decide +kernel
theorem dX4_nearestTurn_11 : decode cX4_nearestTurn 11 = .ok (.iload_n 2, 1) := by decide +kernel
theorem dX4_nearestTurn_12 : decode cX4_nearestTurn 12 = .ok (.invokevirtual 133, 3) := by decide +kernel
theorem dX4_nearestTurn_15 : decode cX4_nearestTurn 15 = .ok (.aload_n 0, 1) := by decide +kernel
theorem dX4_nearestTurn_16 : decode cX4_nearestTurn 16 = .ok (.iload_n 1, 1) := by decide +kernel
theorem dX4_nearestTurn_17 : decode cX4_nearestTurn 17 = .ok (.invokevirtual 133, 3) := by decide +kernel
theorem dX4_nearestTurn_20 : decode cX4_nearestTurn 20 = .ok (.if_icmp .ge 7, 3) := by decide +kernel
theorem dX4_nearestTurn_23 : decode cX4_nearestTurn 23 = .ok (.iload_n 2, 1) := by decide +kernel
theorem dX4_nearestTurn_24 : decode cX4_nearestTurn 24 = .ok (.goto 4, 3) := by decide +kernel
theorem dX4_nearestTurn_27 : decode cX4_nearestTurn 27 = .ok (.iload_n 1, 1) := by decide +kernel
theorem dX4_nearestTurn_28 : decode cX4_nearestTurn 28 = .ok (.istore_n 1, 1) := by decide +kernel
theorem dX4_nearestTurn_29 : decode cX4_nearestTurn 29 = .ok (.iinc 2 1, 3) := by decide +kernel
theorem dX4_nearestTurn_32 : decode cX4_nearestTurn 32 = .ok (.goto (-28), 3) := by decide +kernel
theorem dX4_nearestTurn_35 : decode cX4_nearestTurn 35 = .ok (.iload_n 1, 1) := by decide +kernel
theorem dX4_nearestTurn_36 : decode cX4_nearestTurn 36 = .ok (.ireturn, 1) := by decide +kernel
set_option maxRecDepth 20000 in
theorem ggX4_bestTurn_X4_nearestTurn : GoodIn wsX4_bestTurn wsX4_nearestTurn := goodIn_r _ [6, 7, 8, 9, 5, 10, 11, 12, 13, 14, 15, 16, 17, 18, 19, 20, 21, 22, 23, 24, 25, 26, 27, 28, 29, 30, 31, 32, 33, 34, 35, 36, 37] (by decide +kernel) (by decide +kernel)
set_option maxRecDepth 20000 in
theorem gX4_bestTurn_X4_nearestTurn : GoodIn wsX4_bestTurn (wsV RX4 136 RX4 yX4_nearestTurn wsX4_nearestTurn) := goodIn_app (goodIn_of _ (by decide +kernel)) ggX4_bestTurn_X4_nearestTurn
theorem dX4_bestTurn_0 : decode cX4_bestTurn 0 = .ok (.aload_n 0, 1) := by decide +kernel
theorem dX4_bestTurn_1 : decode cX4_bestTurn 1 = .ok (.iconst 0, 1) := by decide +kernel
theorem dX4_bestTurn_2 : decode cX4_bestTurn 2 = .ok (.putfield 29, 3) := by decide +kernel
theorem dX4_bestTurn_5 : decode cX4_bestTurn 5 = .ok (.aload_n 0, 1) := by decide +kernel
theorem dX4_bestTurn_6 : decode cX4_bestTurn 6 = .ok (.invokevirtual 136, 3) := by decide +kernel
theorem dX4_bestTurn_9 : decode cX4_bestTurn 9 = .ok (.ireturn, 1) := by decide +kernel
set_option maxRecDepth 20000 in
theorem ggX4_share_X4_used : GoodIn wsX4_share wsX4_used := goodIn_r _ [5, 6, 7, 8, 9, 10, 11, 12, 13, 14, 15, 16, 17, 18] (by decide +kernel) (by decide +kernel)
set_option maxRecDepth 20000 in
theorem gX4_share_X4_used : GoodIn wsX4_share (wsV RX4 37 RX4 yX4_used wsX4_used) := goodIn_app (goodIn_of _ (by decide +kernel)) ggX4_share_X4_used
theorem dX4_share_0 : decode cX4_share 0 = .ok (.iconst 0, 1) := by decide +kernel
theorem dX4_share_1 : decode cX4_share 1 = .ok (.istore_n 1, 1) := by decide +kernel
theorem dX4_share_2 : decode cX4_share 2 = .ok (.iconst 0, 1) := by decide +kernel
theorem dX4_share_3 : decode cX4_share 3 = .ok (.istore_n 2, 1) := by decide +kernel
theorem dX4_share_4 : decode cX4_share 4 = .ok (.iconst 0, 1) := by decide +kernel
theorem dX4_share_5 : decode cX4_share 5 = .ok (.istore_n 3, 1) := by decide +kernel
theorem dX4_share_6 : decode cX4_share 6 = .ok (.iload_n 3, 1) := by decide +kernel
theorem dX4_share_7 : decode cX4_share 7 = .ok (.bipush 8, 2) := by decide +kernel
theorem dX4_share_9 : decode cX4_share 9 = .ok (.if_icmp .ge 40, 3) := by decide +kernel
theorem dX4_share_12 : decode cX4_share 12 = .ok (.aload_n 0, 1) := by decide +kernel
theorem dX4_share_13 : decode cX4_share 13 = .ok (.iload_n 3, 1) := by decide +kernel
theorem dX4_share_14 : decode cX4_share 14 = .ok (.invokevirtual 37, 3) := by decide +kernel
theorem dX4_share_17 : decode cX4_share 17 = .ok (.aload_n 0, 1) := by decide +kernel
theorem dX4_share_18 : decode cX4_share 18 = .ok (.iload_n 3, 1) := by decide +kernel
theorem dX4_share_19 : decode cX4_share 19 = .ok (.invokevirtual 37, 3) := by decide +kernel
theorem dX4_share_22 : decode cX4_share 22 = .ok (.imul, 1) := by decide +kernel
theorem dX4_share_23 : decode cX4_share 23 = .ok (.istore 4, 2) := by decide +kernel
theorem dX4_share_25 : decode cX4_share 25 = .ok (.iload 4, 2) := by decide +kernel
theorem dX4_share_27 : decode cX4_share 27 = .ok (.iload_n 1, 1) := by decide +kernel
theorem dX4_share_28 : decode cX4_share 28 = .ok (.if_icmp .le 8, 3) := by decide +kernel
theorem dX4_share_31 : decode cX4_share 31 = .ok (.iload 4, 2) := by decide +kernel
theorem dX4_share_33 : decode cX4_share 33 = .ok (.goto 4, 3) := by decide +kernel
theorem dX4_share_36 : decode cX4_share 36 = .ok (.iload_n 1, 1) := by decide +kernel
theorem dX4_share_37 : decode cX4_share 37 = .ok (.istore_n 1, 1) := by decide +kernel
theorem dX4_share_38 : decode cX4_share 38 = .ok (.iload_n 2, 1) := by decide +kernel
theorem dX4_share_39 : decode cX4_share 39 = .ok (.iload 4, 2) := by decide +kernel
theorem dX4_share_41 : decode cX4_share 41 = .ok (.iadd, 1) := by decide +kernel
theorem dX4_share_42 : decode cX4_share 42 = .ok (.istore_n 2, 1) := by decide +kernel
theorem dX4_share_43 : decode cX4_share 43 = .ok (.iinc 3 1, 3) := by decide +kernel
theorem dX4_share_46 : decode cX4_share 46 = .ok (.goto (-40), 3) := by decide +kernel
theorem dX4_share_49 : decode cX4_share 49 = .ok (.iload_n 2, 1) := by decide +kernel
theorem dX4_share_50 : decode cX4_share 50 = .ok (.ifCond .ne 7, 3) := by decide +kernel
theorem dX4_share_53 : decode cX4_share 53 = .ok (.dconst 0, 1) := by decide +kernel
theorem dX4_share_54 : decode cX4_share 54 = .ok (.goto 8, 3) := by decide +kernel
theorem dX4_share_57 : decode cX4_share 57 = .ok (.iload_n 1, 1) := by decide +kernel
theorem dX4_share_58 : decode cX4_share 58 = .ok (.i2d, 1) := by decide +kernel
theorem dX4_share_59 : decode cX4_share 59 = .ok (.iload_n 2, 1) := by decide +kernel
theorem dX4_share_60 : decode cX4_share 60 = .ok (.i2d, 1) := by decide +kernel
theorem dX4_share_61 : decode cX4_share 61 = .ok (.ddiv, 1) := by decide +kernel
theorem dX4_share_62 : decode cX4_share 62 = .ok (.dreturn, 1) := by decide +kernel
set_option maxRecDepth 20000 in
theorem ggX4_mainShare_X4_share : GoodIn wsX4_mainShare wsX4_share := goodIn_r _ [6, 7, 8, 9, 5, 10, 11, 12, 13, 14, 15, 16, 17, 18, 19, 20, 21, 22, 23] (by decide +kernel) (by decide +kernel)
set_option maxRecDepth 20000 in
theorem gX4_mainShare_X4_share : GoodIn wsX4_mainShare (wsV RX4 139 RX4 yX4_share wsX4_share) := goodIn_app (goodIn_of _ (by decide +kernel)) ggX4_mainShare_X4_share
theorem dX4_mainShare_0 : decode cX4_mainShare 0 = .ok (.aload_n 0, 1) := by decide +kernel
theorem dX4_mainShare_1 : decode cX4_mainShare 1 = .ok (.iconst 0, 1) := by decide +kernel
theorem dX4_mainShare_2 : decode cX4_mainShare 2 = .ok (.putfield 29, 3) := by decide +kernel
theorem dX4_mainShare_5 : decode cX4_mainShare 5 = .ok (.aload_n 0, 1) := by decide +kernel
theorem dX4_mainShare_6 : decode cX4_mainShare 6 = .ok (.invokevirtual 139, 3) := by decide +kernel
theorem dX4_mainShare_9 : decode cX4_mainShare 9 = .ok (.dreturn, 1) := by decide +kernel
set_option maxRecDepth 20000 in
theorem ggX4_digest_X4_countNow : GoodIn wsX4_digest wsX4_countNow := goodIn_r _ [12, 13, 14, 15, 16, 17, 11, 18, 19, 20, 21, 22, 23, 24, 25, 26, 27, 28, 29, 30, 31, 32, 33, 34, 35, 36, 37, 38, 39, 40, 41, 42, 43, 44, 45, 46, 47, 48, 49, 50, 51, 52, 53, 54, 55, 56, 57, 58, 59, 60, 61, 62, 63, 64, 109, 110, 111, 112, 113, 114, 115, 116, 117, 118, 119, 120] (by decide +kernel) (by decide +kernel)
set_option maxRecDepth 20000 in
theorem gX4_digest_X4_countNow : GoodIn wsX4_digest (wsV RX4 123 RX4 yX4_countNow wsX4_countNow) := goodIn_app (goodIn_of _ (by decide +kernel)) ggX4_digest_X4_countNow
set_option maxRecDepth 20000 in
theorem ggX4_digest_X4_wheelNow : GoodIn wsX4_digest wsX4_wheelNow := goodIn_r _ [68, 13, 69, 70, 71, 11, 72, 35, 36, 37, 73, 74, 75, 109, 110, 111, 112, 113, 114, 115, 116, 117, 118, 119, 120] (by decide +kernel) (by decide +kernel)
set_option maxRecDepth 20000 in
theorem gX4_digest_X4_wheelNow : GoodIn wsX4_digest (wsV RX4 99 RX4 yX4_wheelNow wsX4_wheelNow) := goodIn_app (goodIn_of _ (by decide +kernel)) ggX4_digest_X4_wheelNow
set_option maxRecDepth 20000 in
theorem ggX4_digest_X4_traceAt : GoodIn wsX4_digest wsX4_traceAt := goodIn_r _ [30, 31, 32, 33, 11, 34, 13, 35, 36, 37, 109, 110, 111, 112, 113, 114, 115, 116, 117, 118, 119, 120] (by decide +kernel) (by decide +kernel)
set_option maxRecDepth 20000 in
theorem gX4_digest_X4_traceAt : GoodIn wsX4_digest (wsV RX4 45 RX4 yX4_traceAt wsX4_traceAt) := goodIn_app (goodIn_of _ (by decide +kernel)) ggX4_digest_X4_traceAt
set_option maxRecDepth 20000 in
theorem ggX4_digest_X4_pointNow : GoodIn wsX4_digest wsX4_pointNow := goodIn_r _ [49, 13, 50, 51, 52, 11, 53, 27, 28, 29, 30, 31, 32, 33, 34, 35, 36, 37, 54, 55, 56, 57, 109, 110, 111, 112, 113, 114, 115, 116, 117, 118, 119, 120] (by decide +kernel) (by decide +kernel)
set_option maxRecDepth 20000 in
theorem gX4_digest_X4_pointNow : GoodIn wsX4_digest (wsV RX4 105 RX4 yX4_pointNow wsX4_pointNow) := goodIn_app (goodIn_of _ (by decide +kernel)) ggX4_digest_X4_pointNow
set_option maxRecDepth 20000 in
theorem ggX4_digest_X4_explaining : GoodIn wsX4_digest wsX4_explaining := goodIn_r _ [79, 50, 51, 52, 11, 53, 13, 27, 28, 29, 30, 31, 32, 33, 34, 35, 36, 37, 109, 110, 111, 112, 113, 114, 115, 116, 117, 118, 119, 120] (by decide +kernel) (by decide +kernel)
set_option maxRecDepth 20000 in
theorem gX4_digest_X4_explaining : GoodIn wsX4_digest (wsV RX4 126 RX4 yX4_explaining wsX4_explaining) := goodIn_app (goodIn_of _ (by decide +kernel)) ggX4_digest_X4_explaining
set_option maxRecDepth 20000 in
theorem ggX4_digest_X4_fewest : GoodIn wsX4_digest wsX4_fewest := goodIn_r _ [83, 84, 13, 31, 32, 33, 11, 34, 58, 59, 60, 109, 110, 111, 112, 113, 114, 115, 116, 117, 118, 119, 120] (by decide +kernel) (by decide +kernel)
set_option maxRecDepth 20000 in
theorem gX4_digest_X4_fewest : GoodIn wsX4_digest (wsV RX4 130 RX4 yX4_fewest wsX4_fewest) := goodIn_app (goodIn_of _ (by decide +kernel)) ggX4_digest_X4_fewest
set_option maxRecDepth 20000 in
theorem ggX4_digest_X4_nearestTurn : GoodIn wsX4_digest wsX4_nearestTurn := goodIn_r _ [88, 89, 90, 91, 11, 92, 13, 27, 28, 29, 30, 31, 32, 33, 34, 35, 36, 37, 58, 59, 60, 109, 110, 111, 112, 113, 114, 115, 116, 117, 118, 119, 120] (by decide +kernel) (by decide +kernel)
set_option maxRecDepth 20000 in
theorem gX4_digest_X4_nearestTurn : GoodIn wsX4_digest (wsV RX4 136 RX4 yX4_nearestTurn wsX4_nearestTurn) := goodIn_app (goodIn_of _ (by decide +kernel)) ggX4_digest_X4_nearestTurn
set_option maxRecDepth 20000 in
theorem ggX4_digest_X4_share : GoodIn wsX4_digest wsX4_share := goodIn_r _ [96, 31, 32, 33, 11, 34, 13, 109, 110, 111, 112, 113, 114, 115, 116, 117, 118, 119, 120] (by decide +kernel) (by decide +kernel)
set_option maxRecDepth 20000 in
theorem gX4_digest_X4_share : GoodIn wsX4_digest (wsV RX4 139 RX4 yX4_share wsX4_share) := goodIn_app (goodIn_of _ (by decide +kernel)) ggX4_digest_X4_share
set_option maxRecDepth 20000 in
theorem ggX4_digest_Jxe99ae_doubleToLongBits_ccdee : GoodIn wsX4_digest wsJxe99ae_doubleToLongBits_ccdee := goodIn_r _ [100, 101, 102, 103, 104, 105, 106, 107, 99, 108] (by decide +kernel) (by decide +kernel)
set_option maxRecDepth 20000 in
theorem gX4_digest_Jxe99ae_doubleToLongBits_ccdee : GoodIn wsX4_digest (va_wsS RX4 148 yJxe99ae_doubleToLongBits_ccdee wsJxe99ae_doubleToLongBits_ccdee) := goodIn_app (goodIn_of _ (by decide +kernel)) ggX4_digest_Jxe99ae_doubleToLongBits_ccdee
theorem dX4_digest_0 : decode cX4_digest 0 = .ok (.aload_n 0, 1) := by decide +kernel
theorem dX4_digest_1 : decode cX4_digest 1 = .ok (.iconst 0, 1) := by decide +kernel
theorem dX4_digest_2 : decode cX4_digest 2 = .ok (.putfield 29, 3) := by decide +kernel
theorem dX4_digest_5 : decode cX4_digest 5 = .ok (.ldc2_w 143, 3) := by decide +kernel
theorem dX4_digest_8 : decode cX4_digest 8 = .ok (.lstore_n 1, 1) := by decide +kernel
theorem dX4_digest_9 : decode cX4_digest 9 = .ok (.iconst 0, 1) := by decide +kernel
theorem dX4_digest_10 : decode cX4_digest 10 = .ok (.istore_n 3, 1) := by decide +kernel
theorem dX4_digest_11 : decode cX4_digest 11 = .ok (.iload_n 3, 1) := by decide +kernel
theorem dX4_digest_12 : decode cX4_digest 12 = .ok (.bipush 9, 2) := by decide +kernel
theorem dX4_digest_14 : decode cX4_digest 14 = .ok (.if_icmp .ge 22, 3) := by decide +kernel
theorem dX4_digest_17 : decode cX4_digest 17 = .ok (.ldc2_w 145, 3) := by decide +kernel
theorem dX4_digest_20 : decode cX4_digest 20 = .ok (.lload_n 1, 1) := by decide +kernel
theorem dX4_digest_21 : decode cX4_digest 21 = .ok (.lmul, 1) := by decide +kernel
theorem dX4_digest_22 : decode cX4_digest 22 = .ok (.aload_n 0, 1) := by decide +kernel
theorem dX4_digest_23 : decode cX4_digest 23 = .ok (.iload_n 3, 1) := by decide +kernel
theorem dX4_digest_24 : decode cX4_digest 24 = .ok (.invokevirtual 123, 3) := by decide +kernel
theorem dX4_digest_27 : decode cX4_digest 27 = .ok (.i2l, 1) := by decide +kernel
theorem dX4_digest_28 : decode cX4_digest 28 = .ok (.ladd, 1) := by decide +kernel
theorem dX4_digest_29 : decode cX4_digest 29 = .ok (.lstore_n 1, 1) := by decide +kernel
theorem dX4_digest_30 : decode cX4_digest 30 = .ok (.iinc 3 1, 3) := by decide +kernel
theorem dX4_digest_33 : decode cX4_digest 33 = .ok (.goto (-22), 3) := by decide +kernel
theorem dX4_digest_36 : decode cX4_digest 36 = .ok (.iconst 0, 1) := by decide +kernel
theorem dX4_digest_37 : decode cX4_digest 37 = .ok (.istore_n 3, 1) := by decide +kernel
theorem dX4_digest_38 : decode cX4_digest 38 = .ok (.iload_n 3, 1) := by decide +kernel
theorem dX4_digest_39 : decode cX4_digest 39 = .ok (.bipush 32, 2) := by decide +kernel
theorem dX4_digest_41 : decode cX4_digest 41 = .ok (.if_icmp .ge 27, 3) := by decide +kernel
theorem dX4_digest_44 : decode cX4_digest 44 = .ok (.ldc2_w 145, 3) := by decide +kernel
theorem dX4_digest_47 : decode cX4_digest 47 = .ok (.lload_n 1, 1) := by decide +kernel
theorem dX4_digest_48 : decode cX4_digest 48 = .ok (.lmul, 1) := by decide +kernel
theorem dX4_digest_49 : decode cX4_digest 49 = .ok (.aload_n 0, 1) := by decide +kernel
theorem dX4_digest_50 : decode cX4_digest 50 = .ok (.iload_n 3, 1) := by decide +kernel
theorem dX4_digest_51 : decode cX4_digest 51 = .ok (.iconst 4, 1) := by decide +kernel
theorem dX4_digest_52 : decode cX4_digest 52 = .ok (.idiv, 1) := by decide +kernel
theorem dX4_digest_53 : decode cX4_digest 53 = .ok (.iload_n 3, 1) := by decide +kernel
theorem dX4_digest_54 : decode cX4_digest 54 = .ok (.iconst 4, 1) := by decide +kernel
theorem dX4_digest_55 : decode cX4_digest 55 = .ok (.irem, 1) := by decide +kernel
theorem dX4_digest_56 : decode cX4_digest 56 = .ok (.invokevirtual 99, 3) := by decide +kernel
theorem dX4_digest_59 : decode cX4_digest 59 = .ok (.i2l, 1) := by decide +kernel
theorem dX4_digest_60 : decode cX4_digest 60 = .ok (.ladd, 1) := by decide +kernel
theorem dX4_digest_61 : decode cX4_digest 61 = .ok (.lstore_n 1, 1) := by decide +kernel
theorem dX4_digest_62 : decode cX4_digest 62 = .ok (.iinc 3 1, 3) := by decide +kernel
theorem dX4_digest_65 : decode cX4_digest 65 = .ok (.goto (-27), 3) := by decide +kernel
theorem dX4_digest_68 : decode cX4_digest 68 = .ok (.iconst 0, 1) := by decide +kernel
theorem dX4_digest_69 : decode cX4_digest 69 = .ok (.istore_n 3, 1) := by decide +kernel
theorem dX4_digest_70 : decode cX4_digest 70 = .ok (.iload_n 3, 1) := by decide +kernel
theorem dX4_digest_71 : decode cX4_digest 71 = .ok (.bipush 8, 2) := by decide +kernel
theorem dX4_digest_73 : decode cX4_digest 73 = .ok (.if_icmp .ge 63, 3) := by decide +kernel
theorem dX4_digest_76 : decode cX4_digest 76 = .ok (.ldc2_w 145, 3) := by decide +kernel
theorem dX4_digest_79 : decode cX4_digest 79 = .ok (.ldc2_w 145, 3) := by decide +kernel
theorem dX4_digest_82 : decode cX4_digest 82 = .ok (.lload_n 1, 1) := by decide +kernel
theorem dX4_digest_83 : decode cX4_digest 83 = .ok (.lmul, 1) := by decide +kernel
theorem dX4_digest_84 : decode cX4_digest 84 = .ok (.aload_n 0, 1) := by decide +kernel
theorem dX4_digest_85 : decode cX4_digest 85 = .ok (.iload_n 3, 1) := by decide +kernel
theorem dX4_digest_86 : decode cX4_digest 86 = .ok (.invokevirtual 45, 3) := by decide +kernel
theorem dX4_digest_89 : decode cX4_digest 89 = .ok (.i2l, 1) := by decide +kernel
theorem dX4_digest_90 : decode cX4_digest 90 = .ok (.ladd, 1) := by decide +kernel
theorem dX4_digest_91 : decode cX4_digest 91 = .ok (.lmul, 1) := by decide +kernel
theorem dX4_digest_92 : decode cX4_digest 92 = .ok (.aload_n 0, 1) := by decide +kernel
theorem dX4_digest_93 : decode cX4_digest 93 = .ok (.iload_n 3, 1) := by decide +kernel
theorem dX4_digest_94 : decode cX4_digest 94 = .ok (.invokevirtual 45, 3) := by decide +kernel
theorem dX4_digest_97 : decode cX4_digest 97 = .ok (.i2l, 1) := by decide +kernel
theorem dX4_digest_98 : decode cX4_digest 98 = .ok (.ladd, 1) := by decide +kernel
theorem dX4_digest_99 : decode cX4_digest 99 = .ok (.lstore_n 1, 1) := by decide +kernel
theorem dX4_digest_100 : decode cX4_digest 100 = .ok (.iconst 0, 1) := by decide +kernel
theorem dX4_digest_101 : decode cX4_digest 101 = .ok (.istore 4, 2) := by decide +kernel
theorem dX4_digest_103 : decode cX4_digest 103 = .ok (.iload 4, 2) := by decide +kernel
theorem dX4_digest_105 : decode cX4_digest 105 = .ok (.iconst 3, 1) := by decide +kernel
theorem dX4_digest_106 : decode cX4_digest 106 = .ok (.if_icmp .ge 24, 3) := by decide +kernel
theorem dX4_digest_109 : decode cX4_digest 109 = .ok (.ldc2_w 145, 3) := by decide +kernel
theorem dX4_digest_112 : decode cX4_digest 112 = .ok (.lload_n 1, 1) := by decide +kernel
theorem dX4_digest_113 : decode cX4_digest 113 = .ok (.lmul, 1) := by decide +kernel
theorem dX4_digest_114 : decode cX4_digest 114 = .ok (.aload_n 0, 1) := by decide +kernel
theorem dX4_digest_115 : decode cX4_digest 115 = .ok (.iload_n 3, 1) := by decide +kernel
theorem dX4_digest_116 : decode cX4_digest 116 = .ok (.iload 4, 2) := by decide +kernel
theorem dX4_digest_118 : decode cX4_digest 118 = .ok (.invokevirtual 105, 3) := by decide +kernel
theorem dX4_digest_121 : decode cX4_digest 121 = .ok (.i2l, 1) := by decide +kernel
theorem dX4_digest_122 : decode cX4_digest 122 = .ok (.ladd, 1) := by decide +kernel
theorem dX4_digest_123 : decode cX4_digest 123 = .ok (.lstore_n 1, 1) := by decide +kernel
theorem dX4_digest_124 : decode cX4_digest 124 = .ok (.iinc 4 1, 3) := by decide +kernel
theorem dX4_digest_127 : decode cX4_digest 127 = .ok (.goto (-24), 3) := by decide +kernel
theorem dX4_digest_130 : decode cX4_digest 130 = .ok (.iinc 3 1, 3) := by decide +kernel
theorem dX4_digest_133 : decode cX4_digest 133 = .ok (.goto (-63), 3) := by decide +kernel
theorem dX4_digest_136 : decode cX4_digest 136 = .ok (.ldc2_w 145, 3) := by decide +kernel
theorem dX4_digest_139 : decode cX4_digest 139 = .ok (.lload_n 1, 1) := by decide +kernel
theorem dX4_digest_140 : decode cX4_digest 140 = .ok (.lmul, 1) := by decide +kernel
theorem dX4_digest_141 : decode cX4_digest 141 = .ok (.aload_n 0, 1) := by decide +kernel
theorem dX4_digest_142 : decode cX4_digest 142 = .ok (.invokevirtual 126, 3) := by decide +kernel
theorem dX4_digest_145 : decode cX4_digest 145 = .ok (.i2l, 1) := by decide +kernel
theorem dX4_digest_146 : decode cX4_digest 146 = .ok (.ladd, 1) := by decide +kernel
theorem dX4_digest_147 : decode cX4_digest 147 = .ok (.lstore_n 1, 1) := by decide +kernel
theorem dX4_digest_148 : decode cX4_digest 148 = .ok (.ldc2_w 145, 3) := by decide +kernel
theorem dX4_digest_151 : decode cX4_digest 151 = .ok (.ldc2_w 145, 3) := by decide +kernel
theorem dX4_digest_154 : decode cX4_digest 154 = .ok (.lload_n 1, 1) := by decide +kernel
theorem dX4_digest_155 : decode cX4_digest 155 = .ok (.lmul, 1) := by decide +kernel
theorem dX4_digest_156 : decode cX4_digest 156 = .ok (.aload_n 0, 1) := by decide +kernel
theorem dX4_digest_157 : decode cX4_digest 157 = .ok (.iconst 0, 1) := by decide +kernel
theorem dX4_digest_158 : decode cX4_digest 158 = .ok (.invokevirtual 130, 3) := by decide +kernel
theorem dX4_digest_161 : decode cX4_digest 161 = .ok (.i2l, 1) := by decide +kernel
theorem dX4_digest_162 : decode cX4_digest 162 = .ok (.ladd, 1) := by decide +kernel
theorem dX4_digest_163 : decode cX4_digest 163 = .ok (.lmul, 1) := by decide +kernel
theorem dX4_digest_164 : decode cX4_digest 164 = .ok (.aload_n 0, 1) := by decide +kernel
theorem dX4_digest_165 : decode cX4_digest 165 = .ok (.iconst 0, 1) := by decide +kernel
theorem dX4_digest_166 : decode cX4_digest 166 = .ok (.invokevirtual 130, 3) := by decide +kernel
theorem dX4_digest_169 : decode cX4_digest 169 = .ok (.i2l, 1) := by decide +kernel
theorem dX4_digest_170 : decode cX4_digest 170 = .ok (.ladd, 1) := by decide +kernel
theorem dX4_digest_171 : decode cX4_digest 171 = .ok (.lstore_n 1, 1) := by decide +kernel
theorem dX4_digest_172 : decode cX4_digest 172 = .ok (.ldc2_w 145, 3) := by decide +kernel
theorem dX4_digest_175 : decode cX4_digest 175 = .ok (.ldc2_w 145, 3) := by decide +kernel
theorem dX4_digest_178 : decode cX4_digest 178 = .ok (.lload_n 1, 1) := by decide +kernel
theorem dX4_digest_179 : decode cX4_digest 179 = .ok (.lmul, 1) := by decide +kernel
theorem dX4_digest_180 : decode cX4_digest 180 = .ok (.aload_n 0, 1) := by decide +kernel
theorem dX4_digest_181 : decode cX4_digest 181 = .ok (.sipush 1000, 3) := by decide +kernel
theorem dX4_digest_184 : decode cX4_digest 184 = .ok (.invokevirtual 130, 3) := by decide +kernel
theorem dX4_digest_187 : decode cX4_digest 187 = .ok (.i2l, 1) := by decide +kernel
theorem dX4_digest_188 : decode cX4_digest 188 = .ok (.ladd, 1) := by decide +kernel
theorem dX4_digest_189 : decode cX4_digest 189 = .ok (.lmul, 1) := by decide +kernel
theorem dX4_digest_190 : decode cX4_digest 190 = .ok (.aload_n 0, 1) := by decide +kernel
theorem dX4_digest_191 : decode cX4_digest 191 = .ok (.sipush 1000, 3) := by decide +kernel
theorem dX4_digest_194 : decode cX4_digest 194 = .ok (.invokevirtual 130, 3) := by decide +kernel
theorem dX4_digest_197 : decode cX4_digest 197 = .ok (.i2l, 1) := by decide +kernel
theorem dX4_digest_198 : decode cX4_digest 198 = .ok (.ladd, 1) := by decide +kernel
theorem dX4_digest_199 : decode cX4_digest 199 = .ok (.lstore_n 1, 1) := by decide +kernel
theorem dX4_digest_200 : decode cX4_digest 200 = .ok (.ldc2_w 145, 3) := by decide +kernel
theorem dX4_digest_203 : decode cX4_digest 203 = .ok (.ldc2_w 145, 3) := by decide +kernel
theorem dX4_digest_206 : decode cX4_digest 206 = .ok (.lload_n 1, 1) := by decide +kernel
theorem dX4_digest_207 : decode cX4_digest 207 = .ok (.lmul, 1) := by decide +kernel
theorem dX4_digest_208 : decode cX4_digest 208 = .ok (.aload_n 0, 1) := by decide +kernel
theorem dX4_digest_209 : decode cX4_digest 209 = .ok (.ldc 147, 2) := by decide +kernel
theorem dX4_digest_211 : decode cX4_digest 211 = .ok (.invokevirtual 130, 3) := by decide +kernel
theorem dX4_digest_214 : decode cX4_digest 214 = .ok (.i2l, 1) := by decide +kernel
theorem dX4_digest_215 : decode cX4_digest 215 = .ok (.ladd, 1) := by decide +kernel
theorem dX4_digest_216 : decode cX4_digest 216 = .ok (.lmul, 1) := by decide +kernel
theorem dX4_digest_217 : decode cX4_digest 217 = .ok (.aload_n 0, 1) := by decide +kernel
theorem dX4_digest_218 : decode cX4_digest 218 = .ok (.ldc 147, 2) := by decide +kernel
theorem dX4_digest_220 : decode cX4_digest 220 = .ok (.invokevirtual 130, 3) := by decide +kernel
theorem dX4_digest_223 : decode cX4_digest 223 = .ok (.i2l, 1) := by decide +kernel
theorem dX4_digest_224 : decode cX4_digest 224 = .ok (.ladd, 1) := by decide +kernel
theorem dX4_digest_225 : decode cX4_digest 225 = .ok (.lstore_n 1, 1) := by decide +kernel
theorem dX4_digest_226 : decode cX4_digest 226 = .ok (.iconst 0, 1) := by decide +kernel
theorem dX4_digest_227 : decode cX4_digest 227 = .ok (.istore_n 3, 1) := by decide +kernel
theorem dX4_digest_228 : decode cX4_digest 228 = .ok (.iload_n 3, 1) := by decide +kernel
theorem dX4_digest_229 : decode cX4_digest 229 = .ok (.bipush 8, 2) := by decide +kernel
theorem dX4_digest_231 : decode cX4_digest 231 = .ok (.if_icmp .ge 24, 3) := by decide +kernel
theorem dX4_digest_234 : decode cX4_digest 234 = .ok (.ldc2_w 145, 3) := by decide +kernel
theorem dX4_digest_237 : decode cX4_digest 237 = .ok (.lload_n 1, 1) := by decide +kernel
theorem dX4_digest_238 : decode cX4_digest 238 = .ok (.lmul, 1) := by decide +kernel
theorem dX4_digest_239 : decode cX4_digest 239 = .ok (.aload_n 0, 1) := by decide +kernel
theorem dX4_digest_240 : decode cX4_digest 240 = .ok (.iload_n 3, 1) := by decide +kernel
theorem dX4_digest_241 : decode cX4_digest 241 = .ok (.iconst 5, 1) := by decide +kernel
theorem dX4_digest_242 : decode cX4_digest 242 = .ok (.ixor, 1) := by decide +kernel
theorem dX4_digest_243 : decode cX4_digest 243 = .ok (.invokevirtual 45, 3) := by decide +kernel
theorem dX4_digest_246 : decode cX4_digest 246 = .ok (.i2l, 1) := by decide +kernel
theorem dX4_digest_247 : decode cX4_digest 247 = .ok (.ladd, 1) := by decide +kernel
theorem dX4_digest_248 : decode cX4_digest 248 = .ok (.lstore_n 1, 1) := by decide +kernel
theorem dX4_digest_249 : decode cX4_digest 249 = .ok (.iinc 3 1, 3) := by decide +kernel
theorem dX4_digest_252 : decode cX4_digest 252 = .ok (.goto (-24), 3) := by decide +kernel
theorem dX4_digest_255 : decode cX4_digest 255 = .ok (.ldc2_w 145, 3) := by decide +kernel
theorem dX4_digest_258 : decode cX4_digest 258 = .ok (.lload_n 1, 1) := by decide +kernel
theorem dX4_digest_259 : decode cX4_digest 259 = .ok (.lmul, 1) := by decide +kernel
theorem dX4_digest_260 : decode cX4_digest 260 = .ok (.aload_n 0, 1) := by decide +kernel
theorem dX4_digest_261 : decode cX4_digest 261 = .ok (.invokevirtual 136, 3) := by decide +kernel
theorem dX4_digest_264 : decode cX4_digest 264 = .ok (.i2l, 1) := by decide +kernel
theorem dX4_digest_265 : decode cX4_digest 265 = .ok (.ladd, 1) := by decide +kernel
theorem dX4_digest_266 : decode cX4_digest 266 = .ok (.lstore_n 1, 1) := by decide +kernel
theorem dX4_digest_267 : decode cX4_digest 267 = .ok (.ldc2_w 145, 3) := by decide +kernel
theorem dX4_digest_270 : decode cX4_digest 270 = .ok (.lload_n 1, 1) := by decide +kernel
theorem dX4_digest_271 : decode cX4_digest 271 = .ok (.lmul, 1) := by decide +kernel
theorem dX4_digest_272 : decode cX4_digest 272 = .ok (.aload_n 0, 1) := by decide +kernel
theorem dX4_digest_273 : decode cX4_digest 273 = .ok (.invokevirtual 139, 3) := by decide +kernel
theorem dX4_digest_276 : decode cX4_digest 276 = .ok (.invokestatic 148, 3) := by decide +kernel
theorem dX4_digest_279 : decode cX4_digest 279 = .ok (.ladd, 1) := by decide +kernel
theorem dX4_digest_280 : decode cX4_digest 280 = .ok (.lstore_n 1, 1) := by decide +kernel
theorem dX4_digest_281 : decode cX4_digest 281 = .ok (.ldc2_w 145, 3) := by decide +kernel
theorem dX4_digest_284 : decode cX4_digest 284 = .ok (.ldc2_w 145, 3) := by decide +kernel
theorem dX4_digest_287 : decode cX4_digest 287 = .ok (.lload_n 1, 1) := by decide +kernel
theorem dX4_digest_288 : decode cX4_digest 288 = .ok (.lmul, 1) := by decide +kernel
theorem dX4_digest_289 : decode cX4_digest 289 = .ok (.aload_n 0, 1) := by decide +kernel
theorem dX4_digest_290 : decode cX4_digest 290 = .ok (.getfield 19, 3) := by decide +kernel
theorem dX4_digest_293 : decode cX4_digest 293 = .ok (.iconst 0, 1) := by decide +kernel
theorem dX4_digest_294 : decode cX4_digest 294 = .ok (.baload, 1) := by decide +kernel
theorem dX4_digest_295 : decode cX4_digest 295 = .ok (.ifCond .eq 7, 3) := by decide +kernel
theorem dX4_digest_298 : decode cX4_digest 298 = .ok (.iconst 1, 1) := by decide +kernel
theorem dX4_digest_299 : decode cX4_digest 299 = .ok (.goto 4, 3) := by decide +kernel
theorem dX4_digest_302 : decode cX4_digest 302 = .ok (.iconst 0, 1) := by decide +kernel
theorem dX4_digest_303 : decode cX4_digest 303 = .ok (.i2l, 1) := by decide +kernel
theorem dX4_digest_304 : decode cX4_digest 304 = .ok (.ladd, 1) := by decide +kernel
theorem dX4_digest_305 : decode cX4_digest 305 = .ok (.lmul, 1) := by decide +kernel
theorem dX4_digest_306 : decode cX4_digest 306 = .ok (.aload_n 0, 1) := by decide +kernel
theorem dX4_digest_307 : decode cX4_digest 307 = .ok (.getfield 19, 3) := by decide +kernel
theorem dX4_digest_310 : decode cX4_digest 310 = .ok (.iconst 1, 1) := by decide +kernel
theorem dX4_digest_311 : decode cX4_digest 311 = .ok (.baload, 1) := by decide +kernel
theorem dX4_digest_312 : decode cX4_digest 312 = .ok (.ifCond .eq 7, 3) := by decide +kernel
theorem dX4_digest_315 : decode cX4_digest 315 = .ok (.iconst 1, 1) := by decide +kernel
theorem dX4_digest_316 : decode cX4_digest 316 = .ok (.goto 4, 3) := by decide +kernel
theorem dX4_digest_319 : decode cX4_digest 319 = .ok (.iconst 0, 1) := by decide +kernel
theorem dX4_digest_320 : decode cX4_digest 320 = .ok (.i2l, 1) := by decide +kernel
theorem dX4_digest_321 : decode cX4_digest 321 = .ok (.ladd, 1) := by decide +kernel
theorem dX4_digest_322 : decode cX4_digest 322 = .ok (.lstore_n 1, 1) := by decide +kernel
theorem dX4_digest_323 : decode cX4_digest 323 = .ok (.ldc2_w 145, 3) := by decide +kernel
theorem dX4_digest_326 : decode cX4_digest 326 = .ok (.lload_n 1, 1) := by decide +kernel
theorem dX4_digest_327 : decode cX4_digest 327 = .ok (.lmul, 1) := by decide +kernel
theorem dX4_digest_328 : decode cX4_digest 328 = .ok (.aload_n 0, 1) := by decide +kernel
theorem dX4_digest_329 : decode cX4_digest 329 = .ok (.getfield 74, 3) := by decide +kernel
theorem dX4_digest_332 : decode cX4_digest 332 = .ok (.i2l, 1) := by decide +kernel
theorem dX4_digest_333 : decode cX4_digest 333 = .ok (.ladd, 1) := by decide +kernel
theorem dX4_digest_334 : decode cX4_digest 334 = .ok (.lstore_n 1, 1) := by decide +kernel
theorem dX4_digest_335 : decode cX4_digest 335 = .ok (.iconst 0, 1) := by decide +kernel
theorem dX4_digest_336 : decode cX4_digest 336 = .ok (.istore_n 3, 1) := by decide +kernel
theorem dX4_digest_337 : decode cX4_digest 337 = .ok (.iload_n 3, 1) := by decide +kernel
theorem dX4_digest_338 : decode cX4_digest 338 = .ok (.aload_n 0, 1) := by decide +kernel
theorem dX4_digest_339 : decode cX4_digest 339 = .ok (.getfield 74, 3) := by decide +kernel
theorem dX4_digest_342 : decode cX4_digest 342 = .ok (.if_icmp .ge 23, 3) := by decide +kernel
theorem dX4_digest_345 : decode cX4_digest 345 = .ok (.ldc2_w 145, 3) := by decide +kernel
theorem dX4_digest_348 : decode cX4_digest 348 = .ok (.lload_n 1, 1) := by decide +kernel
theorem dX4_digest_349 : decode cX4_digest 349 = .ok (.lmul, 1) := by decide +kernel
theorem dX4_digest_350 : decode cX4_digest 350 = .ok (.aload_n 0, 1) := by decide +kernel
theorem dX4_digest_351 : decode cX4_digest 351 = .ok (.getfield 23, 3) := by decide +kernel
theorem dX4_digest_354 : decode cX4_digest 354 = .ok (.iload_n 3, 1) := by decide +kernel
theorem dX4_digest_355 : decode cX4_digest 355 = .ok (.iaload, 1) := by decide +kernel
theorem dX4_digest_356 : decode cX4_digest 356 = .ok (.i2l, 1) := by decide +kernel
theorem dX4_digest_357 : decode cX4_digest 357 = .ok (.ladd, 1) := by decide +kernel
theorem dX4_digest_358 : decode cX4_digest 358 = .ok (.lstore_n 1, 1) := by decide +kernel
theorem dX4_digest_359 : decode cX4_digest 359 = .ok (.iinc 3 1, 3) := by decide +kernel
theorem dX4_digest_362 : decode cX4_digest 362 = .ok (.goto (-25), 3) := by decide +kernel
theorem dX4_digest_365 : decode cX4_digest 365 = .ok (.lload_n 1, 1) := by decide +kernel
theorem dX4_digest_366 : decode cX4_digest 366 = .ok (.lreturn, 1) := by decide +kernel
theorem dJxe99ae_isNaN_b9ae7_0 : decode cJxe99ae_isNaN_b9ae7 0 = .ok (.dload_n 0, 1) := by decide +kernel
theorem dJxe99ae_isNaN_b9ae7_1 : decode cJxe99ae_isNaN_b9ae7 1 = .ok (.dload_n 0, 1) := by decide +kernel
theorem dJxe99ae_isNaN_b9ae7_2 : decode cJxe99ae_isNaN_b9ae7 2 = .ok (.dcmp .l, 1) := by decide +kernel
theorem dJxe99ae_isNaN_b9ae7_3 : decode cJxe99ae_isNaN_b9ae7 3 = .ok (.ifCond .eq 7, 3) := by decide +kernel
theorem dJxe99ae_isNaN_b9ae7_6 : decode cJxe99ae_isNaN_b9ae7 6 = .ok (.iconst 1, 1) := by decide +kernel
theorem dJxe99ae_isNaN_b9ae7_7 : decode cJxe99ae_isNaN_b9ae7 7 = .ok (.goto 4, 3) := by decide +kernel
theorem dJxe99ae_isNaN_b9ae7_10 : decode cJxe99ae_isNaN_b9ae7 10 = .ok (.iconst 0, 1) := by decide +kernel
theorem dJxe99ae_isNaN_b9ae7_11 : decode cJxe99ae_isNaN_b9ae7 11 = .ok (.ireturn, 1) := by decide +kernel
set_option maxRecDepth 20000 in
theorem ggJxe99ae_doubleToLongBits_ccdee_Jxe99ae_isNaN_b9ae7 : GoodIn wsJxe99ae_doubleToLongBits_ccdee wsJxe99ae_isNaN_b9ae7 := goodIn_r _ [9] (by decide +kernel) (by decide +kernel)
set_option maxRecDepth 20000 in
theorem gJxe99ae_doubleToLongBits_ccdee_Jxe99ae_isNaN_b9ae7 : GoodIn wsJxe99ae_doubleToLongBits_ccdee (va_wsS RJxe99ae 122 yJxe99ae_isNaN_b9ae7 wsJxe99ae_isNaN_b9ae7) := goodIn_app (goodIn_of _ (by decide +kernel)) ggJxe99ae_doubleToLongBits_ccdee_Jxe99ae_isNaN_b9ae7
theorem dJxe99ae_doubleToLongBits_ccdee_0 : decode cJxe99ae_doubleToLongBits_ccdee 0 = .ok (.dload_n 0, 1) := by decide +kernel
theorem dJxe99ae_doubleToLongBits_ccdee_1 : decode cJxe99ae_doubleToLongBits_ccdee 1 = .ok (.invokestatic 122, 3) := by decide +kernel
theorem dJxe99ae_doubleToLongBits_ccdee_4 : decode cJxe99ae_doubleToLongBits_ccdee 4 = .ok (.ifCond .ne 8, 3) := by decide +kernel
theorem dJxe99ae_doubleToLongBits_ccdee_7 : decode cJxe99ae_doubleToLongBits_ccdee 7 = .ok (.dload_n 0, 1) := by decide +kernel
theorem dJxe99ae_doubleToLongBits_ccdee_8 : decode cJxe99ae_doubleToLongBits_ccdee 8 = .ok (.invokestatic 134, 3) := by decide +kernel
theorem dJxe99ae_doubleToLongBits_ccdee_11 : decode cJxe99ae_doubleToLongBits_ccdee 11 = .ok (.lreturn, 1) := by decide +kernel
theorem dJxe99ae_doubleToLongBits_ccdee_12 : decode cJxe99ae_doubleToLongBits_ccdee 12 = .ok (.ldc2_w 137, 3) := by decide +kernel
theorem dJxe99ae_doubleToLongBits_ccdee_15 : decode cJxe99ae_doubleToLongBits_ccdee 15 = .ok (.lreturn, 1) := by decide +kernel
theorem dJ6_bitCount_0f7a4_0 : decode cJ6_bitCount_0f7a4 0 = .ok (.iload_n 0, 1) := by decide +kernel
theorem dJ6_bitCount_0f7a4_1 : decode cJ6_bitCount_0f7a4 1 = .ok (.iload_n 0, 1) := by decide +kernel
theorem dJ6_bitCount_0f7a4_2 : decode cJ6_bitCount_0f7a4 2 = .ok (.iconst 1, 1) := by decide +kernel
theorem dJ6_bitCount_0f7a4_3 : decode cJ6_bitCount_0f7a4 3 = .ok (.iushr, 1) := by decide +kernel
theorem dJ6_bitCount_0f7a4_4 : decode cJ6_bitCount_0f7a4 4 = .ok (.ldc_w 265, 3) := by decide +kernel
theorem dJ6_bitCount_0f7a4_7 : decode cJ6_bitCount_0f7a4 7 = .ok (.iand, 1) := by decide +kernel
theorem dJ6_bitCount_0f7a4_8 : decode cJ6_bitCount_0f7a4 8 = .ok (.isub, 1) := by decide +kernel
theorem dJ6_bitCount_0f7a4_9 : decode cJ6_bitCount_0f7a4 9 = .ok (.istore_n 0, 1) := by decide +kernel
theorem dJ6_bitCount_0f7a4_10 : decode cJ6_bitCount_0f7a4 10 = .ok (.iload_n 0, 1) := by decide +kernel
theorem dJ6_bitCount_0f7a4_11 : decode cJ6_bitCount_0f7a4 11 = .ok (.ldc_w 266, 3) := by decide +kernel
theorem dJ6_bitCount_0f7a4_14 : decode cJ6_bitCount_0f7a4 14 = .ok (.iand, 1) := by decide +kernel
theorem dJ6_bitCount_0f7a4_15 : decode cJ6_bitCount_0f7a4 15 = .ok (.iload_n 0, 1) := by decide +kernel
theorem dJ6_bitCount_0f7a4_16 : decode cJ6_bitCount_0f7a4 16 = .ok (.iconst 2, 1) := by decide +kernel
theorem dJ6_bitCount_0f7a4_17 : decode cJ6_bitCount_0f7a4 17 = .ok (.iushr, 1) := by decide +kernel
theorem dJ6_bitCount_0f7a4_18 : decode cJ6_bitCount_0f7a4 18 = .ok (.ldc_w 266, 3) := by decide +kernel
theorem dJ6_bitCount_0f7a4_21 : decode cJ6_bitCount_0f7a4 21 = .ok (.iand, 1) := by decide +kernel
theorem dJ6_bitCount_0f7a4_22 : decode cJ6_bitCount_0f7a4 22 = .ok (.iadd, 1) := by decide +kernel
theorem dJ6_bitCount_0f7a4_23 : decode cJ6_bitCount_0f7a4 23 = .ok (.istore_n 0, 1) := by decide +kernel
theorem dJ6_bitCount_0f7a4_24 : decode cJ6_bitCount_0f7a4 24 = .ok (.iload_n 0, 1) := by decide +kernel
theorem dJ6_bitCount_0f7a4_25 : decode cJ6_bitCount_0f7a4 25 = .ok (.iload_n 0, 1) := by decide +kernel
theorem dJ6_bitCount_0f7a4_26 : decode cJ6_bitCount_0f7a4 26 = .ok (.iconst 4, 1) := by decide +kernel
theorem dJ6_bitCount_0f7a4_27 : decode cJ6_bitCount_0f7a4 27 = .ok (.iushr, 1) := by decide +kernel
theorem dJ6_bitCount_0f7a4_28 : decode cJ6_bitCount_0f7a4 28 = .ok (.iadd, 1) := by decide +kernel
theorem dJ6_bitCount_0f7a4_29 : decode cJ6_bitCount_0f7a4 29 = .ok (.ldc_w 267, 3) := by decide +kernel
theorem dJ6_bitCount_0f7a4_32 : decode cJ6_bitCount_0f7a4 32 = .ok (.iand, 1) := by decide +kernel
theorem dJ6_bitCount_0f7a4_33 : decode cJ6_bitCount_0f7a4 33 = .ok (.istore_n 0, 1) := by decide +kernel
theorem dJ6_bitCount_0f7a4_34 : decode cJ6_bitCount_0f7a4 34 = .ok (.iload_n 0, 1) := by decide +kernel
theorem dJ6_bitCount_0f7a4_35 : decode cJ6_bitCount_0f7a4 35 = .ok (.iload_n 0, 1) := by decide +kernel
theorem dJ6_bitCount_0f7a4_36 : decode cJ6_bitCount_0f7a4 36 = .ok (.bipush 8, 2) := by decide +kernel
theorem dJ6_bitCount_0f7a4_38 : decode cJ6_bitCount_0f7a4 38 = .ok (.iushr, 1) := by decide +kernel
theorem dJ6_bitCount_0f7a4_39 : decode cJ6_bitCount_0f7a4 39 = .ok (.iadd, 1) := by decide +kernel
theorem dJ6_bitCount_0f7a4_40 : decode cJ6_bitCount_0f7a4 40 = .ok (.istore_n 0, 1) := by decide +kernel
theorem dJ6_bitCount_0f7a4_41 : decode cJ6_bitCount_0f7a4 41 = .ok (.iload_n 0, 1) := by decide +kernel
theorem dJ6_bitCount_0f7a4_42 : decode cJ6_bitCount_0f7a4 42 = .ok (.iload_n 0, 1) := by decide +kernel
theorem dJ6_bitCount_0f7a4_43 : decode cJ6_bitCount_0f7a4 43 = .ok (.bipush 16, 2) := by decide +kernel
theorem dJ6_bitCount_0f7a4_45 : decode cJ6_bitCount_0f7a4 45 = .ok (.iushr, 1) := by decide +kernel
theorem dJ6_bitCount_0f7a4_46 : decode cJ6_bitCount_0f7a4 46 = .ok (.iadd, 1) := by decide +kernel
theorem dJ6_bitCount_0f7a4_47 : decode cJ6_bitCount_0f7a4 47 = .ok (.istore_n 0, 1) := by decide +kernel
theorem dJ6_bitCount_0f7a4_48 : decode cJ6_bitCount_0f7a4 48 = .ok (.iload_n 0, 1) := by decide +kernel
theorem dJ6_bitCount_0f7a4_49 : decode cJ6_bitCount_0f7a4 49 = .ok (.bipush 63, 2) := by decide +kernel
theorem dJ6_bitCount_0f7a4_51 : decode cJ6_bitCount_0f7a4 51 = .ok (.iand, 1) := by decide +kernel
theorem dJ6_bitCount_0f7a4_52 : decode cJ6_bitCount_0f7a4 52 = .ok (.ireturn, 1) := by decide +kernel
theorem dJ9_floorDiv_7cf53_0 : decode cJ9_floorDiv_7cf53 0 = .ok (.iload_n 0, 1) := by decide +kernel
theorem dJ9_floorDiv_7cf53_1 : decode cJ9_floorDiv_7cf53 1 = .ok (.iload_n 1, 1) := by decide +kernel
theorem dJ9_floorDiv_7cf53_2 : decode cJ9_floorDiv_7cf53 2 = .ok (.idiv, 1) := by decide +kernel
theorem dJ9_floorDiv_7cf53_3 : decode cJ9_floorDiv_7cf53 3 = .ok (.istore_n 2, 1) := by decide +kernel
theorem dJ9_floorDiv_7cf53_4 : decode cJ9_floorDiv_7cf53 4 = .ok (.iload_n 0, 1) := by decide +kernel
theorem dJ9_floorDiv_7cf53_5 : decode cJ9_floorDiv_7cf53 5 = .ok (.iload_n 1, 1) := by decide +kernel
theorem dJ9_floorDiv_7cf53_6 : decode cJ9_floorDiv_7cf53 6 = .ok (.ixor, 1) := by decide +kernel
theorem dJ9_floorDiv_7cf53_7 : decode cJ9_floorDiv_7cf53 7 = .ok (.ifCond .ge 14, 3) := by decide +kernel
theorem dJ9_floorDiv_7cf53_10 : decode cJ9_floorDiv_7cf53 10 = .ok (.iload_n 2, 1) := by decide +kernel
theorem dJ9_floorDiv_7cf53_11 : decode cJ9_floorDiv_7cf53 11 = .ok (.iload_n 1, 1) := by decide +kernel
theorem dJ9_floorDiv_7cf53_12 : decode cJ9_floorDiv_7cf53 12 = .ok (.imul, 1) := by decide +kernel
theorem dJ9_floorDiv_7cf53_13 : decode cJ9_floorDiv_7cf53 13 = .ok (.iload_n 0, 1) := by decide +kernel
theorem dJ9_floorDiv_7cf53_14 : decode cJ9_floorDiv_7cf53 14 = .ok (.if_icmp .eq 7, 3) := by decide +kernel
theorem dJ9_floorDiv_7cf53_17 : decode cJ9_floorDiv_7cf53 17 = .ok (.iload_n 2, 1) := by decide +kernel
theorem dJ9_floorDiv_7cf53_18 : decode cJ9_floorDiv_7cf53 18 = .ok (.iconst 1, 1) := by decide +kernel
theorem dJ9_floorDiv_7cf53_19 : decode cJ9_floorDiv_7cf53 19 = .ok (.isub, 1) := by decide +kernel
theorem dJ9_floorDiv_7cf53_20 : decode cJ9_floorDiv_7cf53 20 = .ok (.ireturn, 1) := by decide +kernel
theorem dJ9_floorDiv_7cf53_21 : decode cJ9_floorDiv_7cf53 21 = .ok (.iload_n 2, 1) := by decide +kernel
theorem dJ9_floorDiv_7cf53_22 : decode cJ9_floorDiv_7cf53 22 = .ok (.ireturn, 1) := by decide +kernel
theorem dJ9_abs_0f7a4_0 : decode cJ9_abs_0f7a4 0 = .ok (.iload_n 0, 1) := by decide +kernel
theorem dJ9_abs_0f7a4_1 : decode cJ9_abs_0f7a4 1 = .ok (.ifCond .ge 8, 3) := by decide +kernel
theorem dJ9_abs_0f7a4_4 : decode cJ9_abs_0f7a4 4 = .ok (.iload_n 0, 1) := by decide +kernel
theorem dJ9_abs_0f7a4_5 : decode cJ9_abs_0f7a4 5 = .ok (.ineg, 1) := by decide +kernel
theorem dJ9_abs_0f7a4_6 : decode cJ9_abs_0f7a4 6 = .ok (.goto 4, 3) := by decide +kernel
theorem dJ9_abs_0f7a4_9 : decode cJ9_abs_0f7a4 9 = .ok (.iload_n 0, 1) := by decide +kernel
theorem dJ9_abs_0f7a4_10 : decode cJ9_abs_0f7a4 10 = .ok (.ireturn, 1) := by decide +kernel
theorem dJ9_max_7cf53_0 : decode cJ9_max_7cf53 0 = .ok (.iload_n 0, 1) := by decide +kernel
theorem dJ9_max_7cf53_1 : decode cJ9_max_7cf53 1 = .ok (.iload_n 1, 1) := by decide +kernel
theorem dJ9_max_7cf53_2 : decode cJ9_max_7cf53 2 = .ok (.if_icmp .lt 7, 3) := by decide +kernel
theorem dJ9_max_7cf53_5 : decode cJ9_max_7cf53 5 = .ok (.iload_n 0, 1) := by decide +kernel
theorem dJ9_max_7cf53_6 : decode cJ9_max_7cf53 6 = .ok (.goto 4, 3) := by decide +kernel
theorem dJ9_max_7cf53_9 : decode cJ9_max_7cf53 9 = .ok (.iload_n 1, 1) := by decide +kernel
theorem dJ9_max_7cf53_10 : decode cJ9_max_7cf53 10 = .ok (.ireturn, 1) := by decide +kernel
theorem dJ9_min_7cf53_0 : decode cJ9_min_7cf53 0 = .ok (.iload_n 0, 1) := by decide +kernel
theorem dJ9_min_7cf53_1 : decode cJ9_min_7cf53 1 = .ok (.iload_n 1, 1) := by decide +kernel
theorem dJ9_min_7cf53_2 : decode cJ9_min_7cf53 2 = .ok (.if_icmp .gt 7, 3) := by decide +kernel
theorem dJ9_min_7cf53_5 : decode cJ9_min_7cf53 5 = .ok (.iload_n 0, 1) := by decide +kernel
theorem dJ9_min_7cf53_6 : decode cJ9_min_7cf53 6 = .ok (.goto 4, 3) := by decide +kernel
theorem dJ9_min_7cf53_9 : decode cJ9_min_7cf53 9 = .ok (.iload_n 1, 1) := by decide +kernel
theorem dJ9_min_7cf53_10 : decode cJ9_min_7cf53 10 = .ok (.ireturn, 1) := by decide +kernel
end
section
set_option maxRecDepth 20000 in
theorem ggL_set_X3_set : GoodIn wsL_set wsX3_set := goodIn_ca (goodIn_ca (goodIn_r _ [7, 8, 9, 10, 11, 12, 13, 14, 15, 6, 16, 17, 18, 19, 20, 21, 22, 23, 24, 25, 26, 27, 28, 29, 30, 31, 32, 33, 34, 35, 36, 37, 38, 39, 40, 41, 42, 43, 44, 45, 46, 47, 48, 49, 50, 51, 52, 53, 54, 55] (by decide +kernel) (by decide +kernel)) (goodIn_sub (fun _ h => List.mem_cons_of_mem _ (List.mem_append_left _ (List.mem_append_right _ h))) (by decide +kernel))) (goodIn_sub (fun _ h => List.mem_cons_of_mem _ (List.mem_append_right _ h)) (by decide +kernel))
set_option maxRecDepth 20000 in
theorem gL_set_X3_set : GoodIn wsL_set (wsV RL 7 RX3 yX3_set wsX3_set) := goodIn_app (goodIn_of _ (by decide +kernel)) ggL_set_X3_set
theorem dL_set_0 : decode cL_set 0 = .ok (.aload_n 3, 1) := by decide +kernel
theorem dL_set_1 : decode cL_set 1 = .ok (.iconst 0, 1) := by decide +kernel
theorem dL_set_2 : decode cL_set 2 = .ok (.aload_n 0, 1) := by decide +kernel
theorem dL_set_3 : decode cL_set 3 = .ok (.iload_n 1, 1) := by decide +kernel
theorem dL_set_4 : decode cL_set 4 = .ok (.iload_n 2, 1) := by decide +kernel
theorem dL_set_5 : decode cL_set 5 = .ok (.invokevirtual 7, 3) := by decide +kernel
theorem dL_set_8 : decode cL_set 8 = .ok (.i2l, 1) := by decide +kernel
theorem dL_set_9 : decode cL_set 9 = .ok (.lastore, 1) := by decide +kernel
theorem dL_set_10 : decode cL_set 10 = .ok (.goto 11, 3) := by decide +kernel
theorem dL_set_13 : decode cL_set 13 = .ok (.astore 4, 2) := by decide +kernel
theorem dL_set_15 : decode cL_set 15 = .ok (.iconst 1, 1) := by decide +kernel
theorem dL_set_16 : decode cL_set 16 = .ok (.ireturn, 1) := by decide +kernel
theorem dL_set_17 : decode cL_set 17 = .ok (.astore 4, 2) := by decide +kernel
theorem dL_set_19 : decode cL_set 19 = .ok (.iconst 2, 1) := by decide +kernel
theorem dL_set_20 : decode cL_set 20 = .ok (.ireturn, 1) := by decide +kernel
theorem dL_set_21 : decode cL_set 21 = .ok (.iconst 0, 1) := by decide +kernel
theorem dL_set_22 : decode cL_set 22 = .ok (.ireturn, 1) := by decide +kernel
set_option maxRecDepth 20000 in
theorem ggL_lose_X3_lose : GoodIn wsL_lose wsX3_lose := goodIn_ca (goodIn_r _ [6, 7, 8, 9, 10, 11, 12, 5, 13, 14, 15, 16, 17, 18, 19, 20, 21, 22, 23, 24, 25, 26, 27, 28, 29, 30, 31, 32, 33, 34, 35, 36, 37, 38, 39, 40, 41, 42, 43, 44, 45, 46, 47, 48, 49, 50, 51, 52, 53, 54, 55] (by decide +kernel) (by decide +kernel)) (goodIn_sub (fun _ h => List.mem_cons_of_mem _ (List.mem_append_right _ h)) (by decide +kernel))
set_option maxRecDepth 20000 in
theorem gL_lose_X3_lose : GoodIn wsL_lose (wsV RL 17 RX3 yX3_lose wsX3_lose) := goodIn_app (goodIn_of _ (by decide +kernel)) ggL_lose_X3_lose
theorem dL_lose_0 : decode cL_lose 0 = .ok (.aload_n 2, 1) := by decide +kernel
theorem dL_lose_1 : decode cL_lose 1 = .ok (.iconst 0, 1) := by decide +kernel
theorem dL_lose_2 : decode cL_lose 2 = .ok (.aload_n 0, 1) := by decide +kernel
theorem dL_lose_3 : decode cL_lose 3 = .ok (.iload_n 1, 1) := by decide +kernel
theorem dL_lose_4 : decode cL_lose 4 = .ok (.invokevirtual 17, 3) := by decide +kernel
theorem dL_lose_7 : decode cL_lose 7 = .ok (.i2l, 1) := by decide +kernel
theorem dL_lose_8 : decode cL_lose 8 = .ok (.lastore, 1) := by decide +kernel
theorem dL_lose_9 : decode cL_lose 9 = .ok (.goto 6, 3) := by decide +kernel
theorem dL_lose_12 : decode cL_lose 12 = .ok (.astore_n 3, 1) := by decide +kernel
theorem dL_lose_13 : decode cL_lose 13 = .ok (.iconst 1, 1) := by decide +kernel
theorem dL_lose_14 : decode cL_lose 14 = .ok (.ireturn, 1) := by decide +kernel
theorem dL_lose_15 : decode cL_lose 15 = .ok (.iconst 0, 1) := by decide +kernel
theorem dL_lose_16 : decode cL_lose 16 = .ok (.ireturn, 1) := by decide +kernel
set_option maxRecDepth 20000 in
theorem ggL_turn_X3_turn : GoodIn wsL_turn wsX3_turn := goodIn_ca (goodIn_r _ [6, 7, 8, 9, 10, 11, 12, 5, 13, 14, 15, 16, 17, 18, 19, 20, 21, 22, 23, 24, 25, 26, 27, 28, 29, 30, 31, 32, 33, 34, 35, 36, 37, 38, 39, 40, 41, 42, 43, 44, 45, 46, 47, 48, 49, 50, 51, 52, 53, 54, 55, 56, 57, 58, 59, 60, 61, 62] (by decide +kernel) (by decide +kernel)) (goodIn_sub (fun _ h => List.mem_cons_of_mem _ (List.mem_append_right _ h)) (by decide +kernel))
set_option maxRecDepth 20000 in
theorem gL_turn_X3_turn : GoodIn wsL_turn (wsV RL 21 RX3 yX3_turn wsX3_turn) := goodIn_app (goodIn_of _ (by decide +kernel)) ggL_turn_X3_turn
theorem dL_turn_0 : decode cL_turn 0 = .ok (.aload_n 2, 1) := by decide +kernel
theorem dL_turn_1 : decode cL_turn 1 = .ok (.iconst 0, 1) := by decide +kernel
theorem dL_turn_2 : decode cL_turn 2 = .ok (.aload_n 0, 1) := by decide +kernel
theorem dL_turn_3 : decode cL_turn 3 = .ok (.iload_n 1, 1) := by decide +kernel
theorem dL_turn_4 : decode cL_turn 4 = .ok (.invokevirtual 21, 3) := by decide +kernel
theorem dL_turn_7 : decode cL_turn 7 = .ok (.i2l, 1) := by decide +kernel
theorem dL_turn_8 : decode cL_turn 8 = .ok (.lastore, 1) := by decide +kernel
theorem dL_turn_9 : decode cL_turn 9 = .ok (.goto 6, 3) := by decide +kernel
theorem dL_turn_12 : decode cL_turn 12 = .ok (.astore_n 3, 1) := by decide +kernel
theorem dL_turn_13 : decode cL_turn 13 = .ok (.iconst 1, 1) := by decide +kernel
theorem dL_turn_14 : decode cL_turn 14 = .ok (.ireturn, 1) := by decide +kernel
theorem dL_turn_15 : decode cL_turn 15 = .ok (.iconst 0, 1) := by decide +kernel
theorem dL_turn_16 : decode cL_turn 16 = .ok (.ireturn, 1) := by decide +kernel
set_option maxRecDepth 20000 in
theorem ggL_drop_X3_drop : GoodIn wsL_drop wsX3_drop := goodIn_ca (goodIn_r _ [6, 7, 8, 9, 10, 11, 12, 13, 14, 15, 16, 5, 17, 18, 19, 20, 21, 22, 23, 24, 25, 26, 27, 28, 29, 30, 31, 32, 33, 34, 35, 36, 37, 38, 39, 40, 41, 42, 43, 44, 45, 46, 47, 48, 49, 50, 51, 52] (by decide +kernel) (by decide +kernel)) (goodIn_sub (fun _ h => List.mem_cons_of_mem _ (List.mem_append_right _ h)) (by decide +kernel))
set_option maxRecDepth 20000 in
theorem gL_drop_X3_drop : GoodIn wsL_drop (wsV RL 24 RX3 yX3_drop wsX3_drop) := goodIn_app (goodIn_of _ (by decide +kernel)) ggL_drop_X3_drop
theorem dL_drop_0 : decode cL_drop 0 = .ok (.aload_n 2, 1) := by decide +kernel
theorem dL_drop_1 : decode cL_drop 1 = .ok (.iconst 0, 1) := by decide +kernel
theorem dL_drop_2 : decode cL_drop 2 = .ok (.aload_n 0, 1) := by decide +kernel
theorem dL_drop_3 : decode cL_drop 3 = .ok (.iload_n 1, 1) := by decide +kernel
theorem dL_drop_4 : decode cL_drop 4 = .ok (.invokevirtual 24, 3) := by decide +kernel
theorem dL_drop_7 : decode cL_drop 7 = .ok (.i2l, 1) := by decide +kernel
theorem dL_drop_8 : decode cL_drop 8 = .ok (.lastore, 1) := by decide +kernel
theorem dL_drop_9 : decode cL_drop 9 = .ok (.goto 6, 3) := by decide +kernel
theorem dL_drop_12 : decode cL_drop 12 = .ok (.astore_n 3, 1) := by decide +kernel
theorem dL_drop_13 : decode cL_drop 13 = .ok (.iconst 1, 1) := by decide +kernel
theorem dL_drop_14 : decode cL_drop 14 = .ok (.ireturn, 1) := by decide +kernel
theorem dL_drop_15 : decode cL_drop 15 = .ok (.iconst 0, 1) := by decide +kernel
theorem dL_drop_16 : decode cL_drop 16 = .ok (.ireturn, 1) := by decide +kernel
set_option maxRecDepth 20000 in
theorem ggL_point_X3_point : GoodIn wsL_point wsX3_point := goodIn_ca (goodIn_ca (goodIn_r _ [7, 8, 9, 10, 11, 12, 13, 14, 15, 6, 16, 17, 18, 19, 20, 21, 22, 23, 24, 25, 26, 27, 28, 29, 30, 31, 32, 33, 34, 35, 36, 37, 38, 39, 40, 41, 42, 43, 44, 45, 46, 47, 48, 49, 50, 51, 52, 53, 54, 55] (by decide +kernel) (by decide +kernel)) (goodIn_sub (fun _ h => List.mem_cons_of_mem _ (List.mem_append_left _ (List.mem_append_right _ h))) (by decide +kernel))) (goodIn_sub (fun _ h => List.mem_cons_of_mem _ (List.mem_append_right _ h)) (by decide +kernel))
set_option maxRecDepth 20000 in
theorem gL_point_X3_point : GoodIn wsL_point (wsV RL 27 RX3 yX3_point wsX3_point) := goodIn_app (goodIn_of _ (by decide +kernel)) ggL_point_X3_point
theorem dL_point_0 : decode cL_point 0 = .ok (.aload_n 3, 1) := by decide +kernel
theorem dL_point_1 : decode cL_point 1 = .ok (.iconst 0, 1) := by decide +kernel
theorem dL_point_2 : decode cL_point 2 = .ok (.aload_n 0, 1) := by decide +kernel
theorem dL_point_3 : decode cL_point 3 = .ok (.iload_n 1, 1) := by decide +kernel
theorem dL_point_4 : decode cL_point 4 = .ok (.iload_n 2, 1) := by decide +kernel
theorem dL_point_5 : decode cL_point 5 = .ok (.invokevirtual 27, 3) := by decide +kernel
theorem dL_point_8 : decode cL_point 8 = .ok (.i2l, 1) := by decide +kernel
theorem dL_point_9 : decode cL_point 9 = .ok (.lastore, 1) := by decide +kernel
theorem dL_point_10 : decode cL_point 10 = .ok (.goto 11, 3) := by decide +kernel
theorem dL_point_13 : decode cL_point 13 = .ok (.astore 4, 2) := by decide +kernel
theorem dL_point_15 : decode cL_point 15 = .ok (.iconst 1, 1) := by decide +kernel
theorem dL_point_16 : decode cL_point 16 = .ok (.ireturn, 1) := by decide +kernel
theorem dL_point_17 : decode cL_point 17 = .ok (.astore 4, 2) := by decide +kernel
theorem dL_point_19 : decode cL_point 19 = .ok (.iconst 2, 1) := by decide +kernel
theorem dL_point_20 : decode cL_point 20 = .ok (.ireturn, 1) := by decide +kernel
theorem dL_point_21 : decode cL_point 21 = .ok (.iconst 0, 1) := by decide +kernel
theorem dL_point_22 : decode cL_point 22 = .ok (.ireturn, 1) := by decide +kernel
set_option maxRecDepth 20000 in
theorem ggL_append_X3_append : GoodIn wsL_append wsX3_append := goodIn_ca (goodIn_ca (goodIn_r _ [7, 8, 9, 10, 11, 12, 13, 14, 6, 15, 16, 17, 18, 19, 20, 21, 22, 23, 24, 25, 26, 27, 28, 29, 30, 31, 32] (by decide +kernel) (by decide +kernel)) (goodIn_sub (fun _ h => List.mem_cons_of_mem _ (List.mem_append_left _ (List.mem_append_right _ h))) (by decide +kernel))) (goodIn_sub (fun _ h => List.mem_cons_of_mem _ (List.mem_append_right _ h)) (by decide +kernel))
set_option maxRecDepth 20000 in
theorem gL_append_X3_append : GoodIn wsL_append (wsV RL 30 RX3 yX3_append wsX3_append) := goodIn_app (goodIn_of _ (by decide +kernel)) ggL_append_X3_append
theorem dL_append_0 : decode cL_append 0 = .ok (.aload_n 2, 1) := by decide +kernel
theorem dL_append_1 : decode cL_append 1 = .ok (.iconst 0, 1) := by decide +kernel
theorem dL_append_2 : decode cL_append 2 = .ok (.aload_n 0, 1) := by decide +kernel
theorem dL_append_3 : decode cL_append 3 = .ok (.iload_n 1, 1) := by decide +kernel
theorem dL_append_4 : decode cL_append 4 = .ok (.invokevirtual 30, 3) := by decide +kernel
theorem dL_append_7 : decode cL_append 7 = .ok (.i2l, 1) := by decide +kernel
theorem dL_append_8 : decode cL_append 8 = .ok (.lastore, 1) := by decide +kernel
theorem dL_append_9 : decode cL_append 9 = .ok (.goto 9, 3) := by decide +kernel
theorem dL_append_12 : decode cL_append 12 = .ok (.astore_n 3, 1) := by decide +kernel
theorem dL_append_13 : decode cL_append 13 = .ok (.iconst 1, 1) := by decide +kernel
theorem dL_append_14 : decode cL_append 14 = .ok (.ireturn, 1) := by decide +kernel
theorem dL_append_15 : decode cL_append 15 = .ok (.astore_n 3, 1) := by decide +kernel
theorem dL_append_16 : decode cL_append 16 = .ok (.iconst 2, 1) := by decide +kernel
theorem dL_append_17 : decode cL_append 17 = .ok (.ireturn, 1) := by decide +kernel
theorem dL_append_18 : decode cL_append 18 = .ok (.iconst 0, 1) := by decide +kernel
theorem dL_append_19 : decode cL_append 19 = .ok (.ireturn, 1) := by decide +kernel
set_option maxRecDepth 20000 in
theorem ggL_load_X3_load : GoodIn wsL_load wsX3_load := goodIn_ca (goodIn_r _ [6, 7, 8, 9, 10, 11, 12, 13, 14, 15, 16, 17, 18, 19, 20, 21, 22, 23, 24, 25, 26, 27, 28, 29, 30, 31, 32, 33, 34, 35, 36, 37, 38, 39, 40, 41, 42, 43, 44, 45, 46, 47, 48, 49, 50, 51, 52, 53, 54, 55, 56, 57, 58, 59, 60, 61, 62, 63, 64, 65, 66, 67, 68, 69, 70, 71, 72, 73, 74, 75, 76, 77, 78, 79] (by decide +kernel) (by decide +kernel)) (goodIn_sub (fun _ h => List.mem_cons_of_mem _ (List.mem_append_right _ h)) (by decide +kernel))
set_option maxRecDepth 20000 in
theorem gL_load_X3_load : GoodIn wsL_load (wsV RL 35 RX3 yX3_load wsX3_load) := goodIn_app (goodIn_of _ (by decide +kernel)) ggL_load_X3_load
theorem dL_load_0 : decode cL_load 0 = .ok (.aload_n 1, 1) := by decide +kernel
theorem dL_load_1 : decode cL_load 1 = .ok (.iconst 0, 1) := by decide +kernel
theorem dL_load_2 : decode cL_load 2 = .ok (.aload_n 0, 1) := by decide +kernel
theorem dL_load_3 : decode cL_load 3 = .ok (.invokevirtual 35, 3) := by decide +kernel
theorem dL_load_6 : decode cL_load 6 = .ok (.i2l, 1) := by decide +kernel
theorem dL_load_7 : decode cL_load 7 = .ok (.lastore, 1) := by decide +kernel
theorem dL_load_8 : decode cL_load 8 = .ok (.goto 6, 3) := by decide +kernel
theorem dL_load_11 : decode cL_load 11 = .ok (.astore_n 2, 1) := by decide +kernel
theorem dL_load_12 : decode cL_load 12 = .ok (.iconst 1, 1) := by decide +kernel
theorem dL_load_13 : decode cL_load 13 = .ok (.ireturn, 1) := by decide +kernel
theorem dL_load_14 : decode cL_load 14 = .ok (.iconst 0, 1) := by decide +kernel
theorem dL_load_15 : decode cL_load 15 = .ok (.ireturn, 1) := by decide +kernel
set_option maxRecDepth 20000 in
theorem ggL_keep_X3_keep : GoodIn wsL_keep wsX3_keep := goodIn_ca (goodIn_r _ [6, 7, 8, 9, 10, 11, 12, 13, 5, 14, 15, 16, 17, 18, 19, 20, 21, 22, 23, 24, 25, 26, 27, 28, 29, 30, 31, 32, 33, 34, 35, 36, 37, 38, 39] (by decide +kernel) (by decide +kernel)) (goodIn_sub (fun _ h => List.mem_cons_of_mem _ (List.mem_append_right _ h)) (by decide +kernel))
set_option maxRecDepth 20000 in
theorem gL_keep_X3_keep : GoodIn wsL_keep (wsV RL 39 RX3 yX3_keep wsX3_keep) := goodIn_app (goodIn_of _ (by decide +kernel)) ggL_keep_X3_keep
theorem dL_keep_0 : decode cL_keep 0 = .ok (.aload_n 2, 1) := by decide +kernel
theorem dL_keep_1 : decode cL_keep 1 = .ok (.iconst 0, 1) := by decide +kernel
theorem dL_keep_2 : decode cL_keep 2 = .ok (.aload_n 0, 1) := by decide +kernel
theorem dL_keep_3 : decode cL_keep 3 = .ok (.iload_n 1, 1) := by decide +kernel
theorem dL_keep_4 : decode cL_keep 4 = .ok (.invokevirtual 39, 3) := by decide +kernel
theorem dL_keep_7 : decode cL_keep 7 = .ok (.i2l, 1) := by decide +kernel
theorem dL_keep_8 : decode cL_keep 8 = .ok (.lastore, 1) := by decide +kernel
theorem dL_keep_9 : decode cL_keep 9 = .ok (.goto 6, 3) := by decide +kernel
theorem dL_keep_12 : decode cL_keep 12 = .ok (.astore_n 3, 1) := by decide +kernel
theorem dL_keep_13 : decode cL_keep 13 = .ok (.iconst 1, 1) := by decide +kernel
theorem dL_keep_14 : decode cL_keep 14 = .ok (.ireturn, 1) := by decide +kernel
theorem dL_keep_15 : decode cL_keep 15 = .ok (.iconst 0, 1) := by decide +kernel
theorem dL_keep_16 : decode cL_keep 16 = .ok (.ireturn, 1) := by decide +kernel
set_option maxRecDepth 20000 in
theorem ggL_goBack_X3_goBack : GoodIn wsL_goBack wsX3_goBack := goodIn_ca (goodIn_ca (goodIn_r _ [7, 8, 9, 10, 11, 12, 13, 14, 15, 16, 6, 17, 18, 19, 20, 21, 22, 23, 24, 25, 26, 27, 28, 29, 30, 31, 32, 33, 34, 35, 36, 37, 38, 39, 40, 41, 42, 43, 44, 45, 46, 47, 48, 49, 50, 51, 52, 53, 54, 55, 56, 57, 58, 59, 60, 61] (by decide +kernel) (by decide +kernel)) (goodIn_sub (fun _ h => List.mem_cons_of_mem _ (List.mem_append_left _ (List.mem_append_right _ h))) (by decide +kernel))) (goodIn_sub (fun _ h => List.mem_cons_of_mem _ (List.mem_append_right _ h)) (by decide +kernel))
set_option maxRecDepth 20000 in
theorem gL_goBack_X3_goBack : GoodIn wsL_goBack (wsV RL 42 RX3 yX3_goBack wsX3_goBack) := goodIn_app (goodIn_of _ (by decide +kernel)) ggL_goBack_X3_goBack
theorem dL_goBack_0 : decode cL_goBack 0 = .ok (.aload_n 2, 1) := by decide +kernel
theorem dL_goBack_1 : decode cL_goBack 1 = .ok (.iconst 0, 1) := by decide +kernel
theorem dL_goBack_2 : decode cL_goBack 2 = .ok (.aload_n 0, 1) := by decide +kernel
theorem dL_goBack_3 : decode cL_goBack 3 = .ok (.iload_n 1, 1) := by decide +kernel
theorem dL_goBack_4 : decode cL_goBack 4 = .ok (.invokevirtual 42, 3) := by decide +kernel
theorem dL_goBack_7 : decode cL_goBack 7 = .ok (.i2l, 1) := by decide +kernel
theorem dL_goBack_8 : decode cL_goBack 8 = .ok (.lastore, 1) := by decide +kernel
theorem dL_goBack_9 : decode cL_goBack 9 = .ok (.goto 9, 3) := by decide +kernel
theorem dL_goBack_12 : decode cL_goBack 12 = .ok (.astore_n 3, 1) := by decide +kernel
theorem dL_goBack_13 : decode cL_goBack 13 = .ok (.iconst 1, 1) := by decide +kernel
theorem dL_goBack_14 : decode cL_goBack 14 = .ok (.ireturn, 1) := by decide +kernel
theorem dL_goBack_15 : decode cL_goBack 15 = .ok (.astore_n 3, 1) := by decide +kernel
theorem dL_goBack_16 : decode cL_goBack 16 = .ok (.iconst 2, 1) := by decide +kernel
theorem dL_goBack_17 : decode cL_goBack 17 = .ok (.ireturn, 1) := by decide +kernel
theorem dL_goBack_18 : decode cL_goBack 18 = .ok (.iconst 0, 1) := by decide +kernel
theorem dL_goBack_19 : decode cL_goBack 19 = .ok (.ireturn, 1) := by decide +kernel
set_option maxRecDepth 20000 in
theorem ggL_undo_X3_undo : GoodIn wsL_undo wsX3_undo := goodIn_ca (goodIn_r _ [6, 7, 8, 9, 10, 11, 12, 13, 14, 15, 16, 17, 18, 19, 20, 21, 22, 23, 24, 25, 26, 27, 28, 29, 30, 31, 32, 33, 34, 35, 36, 37, 38, 39, 40, 41, 42] (by decide +kernel) (by decide +kernel)) (goodIn_sub (fun _ h => List.mem_cons_of_mem _ (List.mem_append_right _ h)) (by decide +kernel))
set_option maxRecDepth 20000 in
theorem gL_undo_X3_undo : GoodIn wsL_undo (wsV RL 45 RX3 yX3_undo wsX3_undo) := goodIn_app (goodIn_of _ (by decide +kernel)) ggL_undo_X3_undo
theorem dL_undo_0 : decode cL_undo 0 = .ok (.aload_n 1, 1) := by decide +kernel
theorem dL_undo_1 : decode cL_undo 1 = .ok (.iconst 0, 1) := by decide +kernel
theorem dL_undo_2 : decode cL_undo 2 = .ok (.aload_n 0, 1) := by decide +kernel
theorem dL_undo_3 : decode cL_undo 3 = .ok (.invokevirtual 45, 3) := by decide +kernel
theorem dL_undo_6 : decode cL_undo 6 = .ok (.i2l, 1) := by decide +kernel
theorem dL_undo_7 : decode cL_undo 7 = .ok (.lastore, 1) := by decide +kernel
theorem dL_undo_8 : decode cL_undo 8 = .ok (.goto 6, 3) := by decide +kernel
theorem dL_undo_11 : decode cL_undo 11 = .ok (.astore_n 2, 1) := by decide +kernel
theorem dL_undo_12 : decode cL_undo 12 = .ok (.iconst 1, 1) := by decide +kernel
theorem dL_undo_13 : decode cL_undo 13 = .ok (.ireturn, 1) := by decide +kernel
theorem dL_undo_14 : decode cL_undo 14 = .ok (.iconst 0, 1) := by decide +kernel
theorem dL_undo_15 : decode cL_undo 15 = .ok (.ireturn, 1) := by decide +kernel
set_option maxRecDepth 20000 in
theorem ggL_wheelOf_X3_wheelOf : GoodIn wsL_wheelOf wsX3_wheelOf := goodIn_ca (goodIn_ca (goodIn_r _ [7, 8, 9, 10, 11, 12, 13, 6, 14, 15, 16, 17, 18, 19, 20, 21, 22, 23, 24, 25, 26, 27, 28, 29, 30, 31, 32, 33, 34, 35, 36, 37, 38, 39, 40, 41, 42, 43, 44, 45, 46, 47, 48, 49, 50, 51, 52, 53, 54, 55, 56, 57, 58] (by decide +kernel) (by decide +kernel)) (goodIn_sub (fun _ h => List.mem_cons_of_mem _ (List.mem_append_left _ (List.mem_append_right _ h))) (by decide +kernel))) (goodIn_sub (fun _ h => List.mem_cons_of_mem _ (List.mem_append_right _ h)) (by decide +kernel))
set_option maxRecDepth 20000 in
theorem gL_wheelOf_X3_wheelOf : GoodIn wsL_wheelOf (wsV RL 48 RX3 yX3_wheelOf wsX3_wheelOf) := goodIn_app (goodIn_of _ (by decide +kernel)) ggL_wheelOf_X3_wheelOf
theorem dL_wheelOf_0 : decode cL_wheelOf 0 = .ok (.aload_n 3, 1) := by decide +kernel
theorem dL_wheelOf_1 : decode cL_wheelOf 1 = .ok (.iconst 0, 1) := by decide +kernel
theorem dL_wheelOf_2 : decode cL_wheelOf 2 = .ok (.aload_n 0, 1) := by decide +kernel
theorem dL_wheelOf_3 : decode cL_wheelOf 3 = .ok (.iload_n 1, 1) := by decide +kernel
theorem dL_wheelOf_4 : decode cL_wheelOf 4 = .ok (.iload_n 2, 1) := by decide +kernel
theorem dL_wheelOf_5 : decode cL_wheelOf 5 = .ok (.invokevirtual 48, 3) := by decide +kernel
theorem dL_wheelOf_8 : decode cL_wheelOf 8 = .ok (.i2l, 1) := by decide +kernel
theorem dL_wheelOf_9 : decode cL_wheelOf 9 = .ok (.lastore, 1) := by decide +kernel
theorem dL_wheelOf_10 : decode cL_wheelOf 10 = .ok (.goto 11, 3) := by decide +kernel
theorem dL_wheelOf_13 : decode cL_wheelOf 13 = .ok (.astore 4, 2) := by decide +kernel
theorem dL_wheelOf_15 : decode cL_wheelOf 15 = .ok (.iconst 1, 1) := by decide +kernel
theorem dL_wheelOf_16 : decode cL_wheelOf 16 = .ok (.ireturn, 1) := by decide +kernel
theorem dL_wheelOf_17 : decode cL_wheelOf 17 = .ok (.astore 4, 2) := by decide +kernel
theorem dL_wheelOf_19 : decode cL_wheelOf 19 = .ok (.iconst 2, 1) := by decide +kernel
theorem dL_wheelOf_20 : decode cL_wheelOf 20 = .ok (.ireturn, 1) := by decide +kernel
theorem dL_wheelOf_21 : decode cL_wheelOf 21 = .ok (.iconst 0, 1) := by decide +kernel
theorem dL_wheelOf_22 : decode cL_wheelOf 22 = .ok (.ireturn, 1) := by decide +kernel
set_option maxRecDepth 20000 in
theorem ggL_trace_X3_trace : GoodIn wsL_trace wsX3_trace := goodIn_ca (goodIn_ca (goodIn_r _ [7, 8, 9, 10, 11, 12, 13, 6, 14, 15, 16, 17, 18, 19, 20, 21, 22, 23, 24, 25, 26, 27, 28, 29, 30, 31, 32, 33, 34, 35, 36, 37, 38, 39, 40, 41, 42, 43, 44, 45, 46, 47, 48, 49, 50, 51, 52, 53, 54, 55, 56, 57, 58, 59, 60] (by decide +kernel) (by decide +kernel)) (goodIn_sub (fun _ h => List.mem_cons_of_mem _ (List.mem_append_left _ (List.mem_append_right _ h))) (by decide +kernel))) (goodIn_sub (fun _ h => List.mem_cons_of_mem _ (List.mem_append_right _ h)) (by decide +kernel))
set_option maxRecDepth 20000 in
theorem gL_trace_X3_trace : GoodIn wsL_trace (wsV RL 51 RX3 yX3_trace wsX3_trace) := goodIn_app (goodIn_of _ (by decide +kernel)) ggL_trace_X3_trace
theorem dL_trace_0 : decode cL_trace 0 = .ok (.aload_n 3, 1) := by decide +kernel
theorem dL_trace_1 : decode cL_trace 1 = .ok (.iconst 0, 1) := by decide +kernel
theorem dL_trace_2 : decode cL_trace 2 = .ok (.aload_n 0, 1) := by decide +kernel
theorem dL_trace_3 : decode cL_trace 3 = .ok (.iload_n 1, 1) := by decide +kernel
theorem dL_trace_4 : decode cL_trace 4 = .ok (.iload_n 2, 1) := by decide +kernel
theorem dL_trace_5 : decode cL_trace 5 = .ok (.invokevirtual 51, 3) := by decide +kernel
theorem dL_trace_8 : decode cL_trace 8 = .ok (.i2l, 1) := by decide +kernel
theorem dL_trace_9 : decode cL_trace 9 = .ok (.lastore, 1) := by decide +kernel
theorem dL_trace_10 : decode cL_trace 10 = .ok (.goto 11, 3) := by decide +kernel
theorem dL_trace_13 : decode cL_trace 13 = .ok (.astore 4, 2) := by decide +kernel
theorem dL_trace_15 : decode cL_trace 15 = .ok (.iconst 1, 1) := by decide +kernel
theorem dL_trace_16 : decode cL_trace 16 = .ok (.ireturn, 1) := by decide +kernel
theorem dL_trace_17 : decode cL_trace 17 = .ok (.astore 4, 2) := by decide +kernel
theorem dL_trace_19 : decode cL_trace 19 = .ok (.iconst 2, 1) := by decide +kernel
theorem dL_trace_20 : decode cL_trace 20 = .ok (.ireturn, 1) := by decide +kernel
theorem dL_trace_21 : decode cL_trace 21 = .ok (.iconst 0, 1) := by decide +kernel
theorem dL_trace_22 : decode cL_trace 22 = .ok (.ireturn, 1) := by decide +kernel
set_option maxRecDepth 20000 in
theorem ggL_pointOf_X3_pointOf : GoodIn wsL_pointOf wsX3_pointOf := goodIn_ca (goodIn_ca (goodIn_r _ [7, 8, 9, 10, 11, 12, 13, 6, 14, 15, 16, 17, 18, 19, 20, 21, 22, 23, 24, 25, 26, 27, 28, 29, 30, 31, 32, 33, 34, 35, 36, 37, 38, 39, 40, 41, 42, 43, 44, 45, 46, 47, 48, 49, 50, 51, 52, 53, 54, 55, 56, 57, 58, 59, 60, 61, 62, 63] (by decide +kernel) (by decide +kernel)) (goodIn_sub (fun _ h => List.mem_cons_of_mem _ (List.mem_append_left _ (List.mem_append_right _ h))) (by decide +kernel))) (goodIn_sub (fun _ h => List.mem_cons_of_mem _ (List.mem_append_right _ h)) (by decide +kernel))
set_option maxRecDepth 20000 in
theorem gL_pointOf_X3_pointOf : GoodIn wsL_pointOf (wsV RL 54 RX3 yX3_pointOf wsX3_pointOf) := goodIn_app (goodIn_of _ (by decide +kernel)) ggL_pointOf_X3_pointOf
theorem dL_pointOf_0 : decode cL_pointOf 0 = .ok (.aload_n 3, 1) := by decide +kernel
theorem dL_pointOf_1 : decode cL_pointOf 1 = .ok (.iconst 0, 1) := by decide +kernel
theorem dL_pointOf_2 : decode cL_pointOf 2 = .ok (.aload_n 0, 1) := by decide +kernel
theorem dL_pointOf_3 : decode cL_pointOf 3 = .ok (.iload_n 1, 1) := by decide +kernel
theorem dL_pointOf_4 : decode cL_pointOf 4 = .ok (.iload_n 2, 1) := by decide +kernel
theorem dL_pointOf_5 : decode cL_pointOf 5 = .ok (.invokevirtual 54, 3) := by decide +kernel
theorem dL_pointOf_8 : decode cL_pointOf 8 = .ok (.i2l, 1) := by decide +kernel
theorem dL_pointOf_9 : decode cL_pointOf 9 = .ok (.lastore, 1) := by decide +kernel
theorem dL_pointOf_10 : decode cL_pointOf 10 = .ok (.goto 11, 3) := by decide +kernel
theorem dL_pointOf_13 : decode cL_pointOf 13 = .ok (.astore 4, 2) := by decide +kernel
theorem dL_pointOf_15 : decode cL_pointOf 15 = .ok (.iconst 1, 1) := by decide +kernel
theorem dL_pointOf_16 : decode cL_pointOf 16 = .ok (.ireturn, 1) := by decide +kernel
theorem dL_pointOf_17 : decode cL_pointOf 17 = .ok (.astore 4, 2) := by decide +kernel
theorem dL_pointOf_19 : decode cL_pointOf 19 = .ok (.iconst 2, 1) := by decide +kernel
theorem dL_pointOf_20 : decode cL_pointOf 20 = .ok (.ireturn, 1) := by decide +kernel
theorem dL_pointOf_21 : decode cL_pointOf 21 = .ok (.iconst 0, 1) := by decide +kernel
theorem dL_pointOf_22 : decode cL_pointOf 22 = .ok (.ireturn, 1) := by decide +kernel
set_option maxRecDepth 20000 in
theorem ggL_count_X3_count : GoodIn wsL_count wsX3_count := goodIn_ca (goodIn_r _ [6, 7, 8, 9, 10, 5, 11, 12, 13, 14, 15, 16, 17, 18, 19, 20, 21, 22, 23, 24, 25, 26, 27, 28, 29, 30, 31, 32, 33, 34, 35, 36, 37, 38, 39, 40, 41, 42, 43, 44, 45, 46, 47, 48, 49, 50, 51, 52, 53, 54, 55, 56, 57, 58, 59, 60, 61, 62, 63, 64, 65, 66, 67, 68, 69, 70, 71, 72, 73, 74, 75, 76, 77, 78, 79, 80, 81, 82, 83, 84, 85, 86, 87, 88, 89, 90, 91, 92, 93, 94] (by decide +kernel) (by decide +kernel)) (goodIn_sub (fun _ h => List.mem_cons_of_mem _ (List.mem_append_right _ h)) (by decide +kernel))
set_option maxRecDepth 20000 in
theorem gL_count_X3_count : GoodIn wsL_count (wsV RL 57 RX3 yX3_count wsX3_count) := goodIn_app (goodIn_of _ (by decide +kernel)) ggL_count_X3_count
theorem dL_count_0 : decode cL_count 0 = .ok (.aload_n 2, 1) := by decide +kernel
theorem dL_count_1 : decode cL_count 1 = .ok (.iconst 0, 1) := by decide +kernel
theorem dL_count_2 : decode cL_count 2 = .ok (.aload_n 0, 1) := by decide +kernel
theorem dL_count_3 : decode cL_count 3 = .ok (.iload_n 1, 1) := by decide +kernel
theorem dL_count_4 : decode cL_count 4 = .ok (.invokevirtual 57, 3) := by decide +kernel
theorem dL_count_7 : decode cL_count 7 = .ok (.i2l, 1) := by decide +kernel
theorem dL_count_8 : decode cL_count 8 = .ok (.lastore, 1) := by decide +kernel
theorem dL_count_9 : decode cL_count 9 = .ok (.goto 6, 3) := by decide +kernel
theorem dL_count_12 : decode cL_count 12 = .ok (.astore_n 3, 1) := by decide +kernel
theorem dL_count_13 : decode cL_count 13 = .ok (.iconst 1, 1) := by decide +kernel
theorem dL_count_14 : decode cL_count 14 = .ok (.ireturn, 1) := by decide +kernel
theorem dL_count_15 : decode cL_count 15 = .ok (.iconst 0, 1) := by decide +kernel
theorem dL_count_16 : decode cL_count 16 = .ok (.ireturn, 1) := by decide +kernel
set_option maxRecDepth 20000 in
theorem ggL_enough_X3_enough : GoodIn wsL_enough wsX3_enough := goodIn_ca (goodIn_r _ [6, 7, 8, 9, 10, 11, 5, 12, 13, 14, 15, 16, 17, 18, 19, 20, 21, 22, 23, 24, 25, 26, 27, 28, 29, 30, 31, 32, 33, 34, 35, 36, 37, 38, 39, 40, 41, 42, 43, 44, 45, 46, 47, 48, 49, 50, 51, 52, 53, 54] (by decide +kernel) (by decide +kernel)) (goodIn_sub (fun _ h => List.mem_cons_of_mem _ (List.mem_append_right _ h)) (by decide +kernel))
set_option maxRecDepth 20000 in
theorem gL_enough_X3_enough : GoodIn wsL_enough (wsV RL 60 RX3 yX3_enough wsX3_enough) := goodIn_app (goodIn_of _ (by decide +kernel)) ggL_enough_X3_enough
theorem dL_enough_0 : decode cL_enough 0 = .ok (.aload_n 3, 1) := by decide +kernel
theorem dL_enough_1 : decode cL_enough 1 = .ok (.iconst 0, 1) := by decide +kernel
theorem dL_enough_2 : decode cL_enough 2 = .ok (.aload_n 0, 1) := by decide +kernel
theorem dL_enough_3 : decode cL_enough 3 = .ok (.iload_n 1, 1) := by decide +kernel
theorem dL_enough_4 : decode cL_enough 4 = .ok (.iload_n 2, 1) := by decide +kernel
theorem dL_enough_5 : decode cL_enough 5 = .ok (.invokevirtual 60, 3) := by decide +kernel
theorem dL_enough_8 : decode cL_enough 8 = .ok (.i2l, 1) := by decide +kernel
theorem dL_enough_9 : decode cL_enough 9 = .ok (.lastore, 1) := by decide +kernel
theorem dL_enough_10 : decode cL_enough 10 = .ok (.goto 7, 3) := by decide +kernel
theorem dL_enough_13 : decode cL_enough 13 = .ok (.astore 4, 2) := by decide +kernel
theorem dL_enough_15 : decode cL_enough 15 = .ok (.iconst 1, 1) := by decide +kernel
theorem dL_enough_16 : decode cL_enough 16 = .ok (.ireturn, 1) := by decide +kernel
theorem dL_enough_17 : decode cL_enough 17 = .ok (.iconst 0, 1) := by decide +kernel
theorem dL_enough_18 : decode cL_enough 18 = .ok (.ireturn, 1) := by decide +kernel
set_option maxRecDepth 20000 in
theorem ggL_ifTurned_X3_ifTurned : GoodIn wsL_ifTurned wsX3_ifTurned := goodIn_ca (goodIn_ca (goodIn_r _ [7, 8, 9, 10, 11, 12, 13, 14, 6, 15, 16, 17, 18, 19, 20, 21, 22, 23, 24, 25, 26, 27, 28, 29, 30, 31, 32, 33, 34, 35, 36, 37, 38, 39, 40, 41, 42, 43, 44, 45, 46, 47, 48, 49, 50, 51] (by decide +kernel) (by decide +kernel)) (goodIn_sub (fun _ h => List.mem_cons_of_mem _ (List.mem_append_left _ (List.mem_append_right _ h))) (by decide +kernel))) (goodIn_sub (fun _ h => List.mem_cons_of_mem _ (List.mem_append_right _ h)) (by decide +kernel))
set_option maxRecDepth 20000 in
theorem gL_ifTurned_X3_ifTurned : GoodIn wsL_ifTurned (wsV RL 63 RX3 yX3_ifTurned wsX3_ifTurned) := goodIn_app (goodIn_of _ (by decide +kernel)) ggL_ifTurned_X3_ifTurned
theorem dL_ifTurned_0 : decode cL_ifTurned 0 = .ok (.aload_n 3, 1) := by decide +kernel
theorem dL_ifTurned_1 : decode cL_ifTurned 1 = .ok (.iconst 0, 1) := by decide +kernel
theorem dL_ifTurned_2 : decode cL_ifTurned 2 = .ok (.aload_n 0, 1) := by decide +kernel
theorem dL_ifTurned_3 : decode cL_ifTurned 3 = .ok (.iload_n 1, 1) := by decide +kernel
theorem dL_ifTurned_4 : decode cL_ifTurned 4 = .ok (.iload_n 2, 1) := by decide +kernel
theorem dL_ifTurned_5 : decode cL_ifTurned 5 = .ok (.invokevirtual 63, 3) := by decide +kernel
theorem dL_ifTurned_8 : decode cL_ifTurned 8 = .ok (.i2l, 1) := by decide +kernel
theorem dL_ifTurned_9 : decode cL_ifTurned 9 = .ok (.lastore, 1) := by decide +kernel
theorem dL_ifTurned_10 : decode cL_ifTurned 10 = .ok (.goto 11, 3) := by decide +kernel
theorem dL_ifTurned_13 : decode cL_ifTurned 13 = .ok (.astore 4, 2) := by decide +kernel
theorem dL_ifTurned_15 : decode cL_ifTurned 15 = .ok (.iconst 1, 1) := by decide +kernel
theorem dL_ifTurned_16 : decode cL_ifTurned 16 = .ok (.ireturn, 1) := by decide +kernel
theorem dL_ifTurned_17 : decode cL_ifTurned 17 = .ok (.astore 4, 2) := by decide +kernel
theorem dL_ifTurned_19 : decode cL_ifTurned 19 = .ok (.iconst 2, 1) := by decide +kernel
theorem dL_ifTurned_20 : decode cL_ifTurned 20 = .ok (.ireturn, 1) := by decide +kernel
theorem dL_ifTurned_21 : decode cL_ifTurned 21 = .ok (.iconst 0, 1) := by decide +kernel
theorem dL_ifTurned_22 : decode cL_ifTurned 22 = .ok (.ireturn, 1) := by decide +kernel
set_option maxRecDepth 20000 in
theorem ggL_law_X3_init : GoodIn wsL_law wsX3_init := goodIn_r _ [9, 10, 11, 12, 13, 14, 15, 16, 17, 18, 19, 20, 21, 22, 23, 24, 25, 26, 27, 28, 29, 30, 31, 32, 33, 34, 35, 36, 37, 38, 39, 40, 41, 42, 43, 44, 45, 46, 47, 48, 669, 670, 671, 672, 651, 652, 653, 654, 655, 656, 673, 674, 675, 676, 677] (by decide +kernel) (by decide +kernel)
set_option maxRecDepth 20000 in
theorem gL_law_X3_init : GoodIn wsL_law (wsX3_init) := ggL_law_X3_init
set_option maxRecDepth 20000 in
theorem ggL_law_X4_init : GoodIn wsL_law wsX4_init := goodIn_r _ [51, 52, 11, 12, 27, 53, 54, 55, 56, 57, 58, 59, 657, 658, 659, 660, 661, 662, 663, 664, 665, 666, 667, 668] (by decide +kernel) (by decide +kernel)
set_option maxRecDepth 20000 in
theorem gL_law_X4_init : GoodIn wsL_law (wsX4_init) := ggL_law_X4_init
set_option maxRecDepth 20000 in
theorem ggL_law_L_set : GoodIn wsL_law wsL_set := goodIn_ca (goodIn_ca (goodIn_r _ [63, 64, 65, 66, 67, 68, 2, 69, 70, 71, 72, 73, 22, 16, 74, 75, 76, 77, 78, 79, 80, 21, 81, 82, 40, 41, 42, 83, 84, 85, 86, 87, 15, 88, 89, 32, 90, 91, 92, 93, 33, 34, 35, 651, 652, 653, 654, 655, 656, 669, 670, 671, 672, 673, 674, 675] (by decide +kernel) (by decide +kernel)) (goodIn_sub (fun _ h => List.mem_append_left _ (List.mem_append_left _ (List.mem_append_right _ h))) (by decide +kernel))) (goodIn_sub (fun _ h => List.mem_append_left _ (List.mem_append_right _ h)) (by decide +kernel))
set_option maxRecDepth 20000 in
theorem gL_law_L_set : GoodIn wsL_law (va_wsS RL 70 yL_set wsL_set) := goodIn_app (goodIn_of _ (by decide +kernel)) ggL_law_L_set
set_option maxRecDepth 20000 in
theorem ggL_law_X4_set : GoodIn wsL_law wsX4_set := goodIn_r _ [97, 98, 99, 100, 5, 101, 102, 103, 104, 105, 106, 107, 108, 53, 109, 110, 111, 112, 113, 54, 657, 658, 659, 660, 661, 662, 663, 664, 665, 666, 667, 668] (by decide +kernel) (by decide +kernel)
set_option maxRecDepth 20000 in
theorem gL_law_X4_set : GoodIn wsL_law (wsV RL 75 RX4 yX4_set wsX4_set) := goodIn_app (goodIn_of _ (by decide +kernel)) ggL_law_X4_set
set_option maxRecDepth 20000 in
theorem ggL_law_X4_thrown : GoodIn wsL_law wsX4_thrown := goodIn_r _ [117, 98, 657, 658, 659, 660, 661, 662, 663, 664, 665, 666, 667, 668] (by decide +kernel) (by decide +kernel)
set_option maxRecDepth 20000 in
theorem gL_law_X4_thrown : GoodIn wsL_law (wsV RL 76 RX4 yX4_thrown wsX4_thrown) := goodIn_app (goodIn_of _ (by decide +kernel)) ggL_law_X4_thrown
set_option maxRecDepth 20000 in
theorem ggL_law_L_lose : GoodIn wsL_law wsL_lose := goodIn_ca (goodIn_r _ [120, 64, 121, 122, 123, 2, 124, 70, 71, 22, 16, 74, 75, 76, 77, 78, 79, 80, 21, 81, 82, 40, 41, 42, 83, 84, 85, 86, 87, 15, 88, 89, 32, 90, 91, 92, 93, 33, 34, 35, 125, 126, 127, 651, 652, 653, 654, 655, 656, 669, 670, 671, 672, 673, 674, 675] (by decide +kernel) (by decide +kernel)) (goodIn_sub (fun _ h => List.mem_append_left _ (List.mem_append_left _ (List.mem_append_right _ h))) (by decide +kernel))
set_option maxRecDepth 20000 in
theorem gL_law_L_lose : GoodIn wsL_law (va_wsS RL 79 yL_lose wsL_lose) := goodIn_app (goodIn_of _ (by decide +kernel)) ggL_law_L_lose
set_option maxRecDepth 20000 in
theorem ggL_law_X4_lose : GoodIn wsL_law wsX4_lose := goodIn_r _ [131, 98, 53, 99, 100, 5, 101, 102, 103, 104, 105, 106, 107, 108, 109, 110, 111, 112, 113, 54, 657, 658, 659, 660, 661, 662, 663, 664, 665, 666, 667, 668] (by decide +kernel) (by decide +kernel)
set_option maxRecDepth 20000 in
theorem gL_law_X4_lose : GoodIn wsL_law (wsV RL 82 RX4 yX4_lose wsX4_lose) := goodIn_app (goodIn_of _ (by decide +kernel)) ggL_law_X4_lose
set_option maxRecDepth 20000 in
theorem ggL_law_L_turn : GoodIn wsL_law wsL_turn := goodIn_ca (goodIn_r _ [134, 65, 135, 136, 137, 2, 138, 72, 73, 22, 16, 74, 75, 76, 77, 78, 79, 80, 21, 81, 82, 40, 41, 42, 83, 84, 85, 86, 87, 15, 88, 89, 32, 90, 91, 92, 93, 33, 34, 35, 139, 140, 141, 142, 143, 144, 145, 146, 147, 148, 651, 652, 653, 654, 655, 656, 669, 670, 671, 672, 673, 674, 675] (by decide +kernel) (by decide +kernel)) (goodIn_sub (fun _ h => List.mem_append_left _ (List.mem_append_right _ h)) (by decide +kernel))
set_option maxRecDepth 20000 in
theorem gL_law_L_turn : GoodIn wsL_law (va_wsS RL 83 yL_turn wsL_turn) := goodIn_app (goodIn_of _ (by decide +kernel)) ggL_law_L_turn
set_option maxRecDepth 20000 in
theorem ggL_law_X4_turn : GoodIn wsL_law wsX4_turn := goodIn_r _ [152, 98, 53, 99, 100, 5, 101, 102, 103, 104, 109, 110, 111, 112, 113, 54, 153, 154, 155, 657, 658, 659, 660, 661, 662, 663, 664, 665, 666, 667, 668] (by decide +kernel) (by decide +kernel)
set_option maxRecDepth 20000 in
theorem gL_law_X4_turn : GoodIn wsL_law (wsV RL 85 RX4 yX4_turn wsX4_turn) := goodIn_app (goodIn_of _ (by decide +kernel)) ggL_law_X4_turn
set_option maxRecDepth 20000 in
theorem ggL_law_L_drop : GoodIn wsL_law wsL_drop := goodIn_ca (goodIn_r _ [158, 65, 159, 160, 161, 2, 162, 72, 73, 22, 16, 163, 164, 85, 165, 77, 78, 79, 80, 21, 81, 82, 40, 41, 42, 83, 84, 86, 87, 15, 88, 89, 32, 90, 91, 92, 93, 33, 34, 35, 651, 652, 653, 654, 655, 656, 669, 670, 671, 672, 673, 674, 675] (by decide +kernel) (by decide +kernel)) (goodIn_sub (fun _ h => List.mem_append_left _ (List.mem_append_right _ h)) (by decide +kernel))
set_option maxRecDepth 20000 in
theorem gL_law_L_drop : GoodIn wsL_law (va_wsS RL 86 yL_drop wsL_drop) := goodIn_app (goodIn_of _ (by decide +kernel)) ggL_law_L_drop
set_option maxRecDepth 20000 in
theorem ggL_law_X4_drop : GoodIn wsL_law wsX4_drop := goodIn_r _ [169, 98, 53, 102, 103, 5, 104, 109, 110, 111, 112, 113, 54, 170, 171, 172, 173, 174, 175, 176, 657, 658, 659, 660, 661, 662, 663, 664, 665, 666, 667, 668] (by decide +kernel) (by decide +kernel)
set_option maxRecDepth 20000 in
theorem gL_law_X4_drop : GoodIn wsL_law (wsV RL 88 RX4 yX4_drop wsX4_drop) := goodIn_app (goodIn_of _ (by decide +kernel)) ggL_law_X4_drop
set_option maxRecDepth 20000 in
theorem ggL_law_L_point : GoodIn wsL_law wsL_point := goodIn_ca (goodIn_ca (goodIn_r _ [179, 64, 65, 180, 181, 182, 2, 183, 70, 71, 72, 73, 22, 16, 74, 75, 76, 77, 78, 79, 80, 21, 81, 82, 40, 41, 42, 83, 84, 85, 86, 87, 15, 88, 89, 32, 90, 91, 92, 93, 33, 34, 35, 651, 652, 653, 654, 655, 656, 669, 670, 671, 672, 673, 674, 675] (by decide +kernel) (by decide +kernel)) (goodIn_sub (fun _ h => List.mem_append_left _ (List.mem_append_left _ (List.mem_append_right _ h))) (by decide +kernel))) (goodIn_sub (fun _ h => List.mem_append_left _ (List.mem_append_right _ h)) (by decide +kernel))
set_option maxRecDepth 20000 in
theorem gL_law_L_point : GoodIn wsL_law (va_wsS RL 89 yL_point wsL_point) := goodIn_app (goodIn_of _ (by decide +kernel)) ggL_law_L_point
set_option maxRecDepth 20000 in
theorem ggL_law_X4_point : GoodIn wsL_law wsX4_point := goodIn_r _ [187, 98, 99, 100, 5, 101, 102, 103, 104, 105, 106, 107, 108, 53, 109, 110, 111, 112, 113, 54, 657, 658, 659, 660, 661, 662, 663, 664, 665, 666, 667, 668] (by decide +kernel) (by decide +kernel)
set_option maxRecDepth 20000 in
theorem gL_law_X4_point : GoodIn wsL_law (wsV RL 91 RX4 yX4_point wsX4_point) := goodIn_app (goodIn_of _ (by decide +kernel)) ggL_law_X4_point
set_option maxRecDepth 20000 in
theorem ggL_law_X3_copy : GoodIn wsL_law wsX3_copy := goodIn_r _ [191, 22, 16, 80, 21, 81, 82, 40, 41, 42, 83, 84, 85, 86, 87, 15, 88, 89, 32, 90, 91, 92, 93, 33, 34, 35, 192, 193, 194, 195, 196, 197, 198, 199, 125, 126, 127, 140, 2, 141, 142, 143, 144, 145, 146, 147, 148, 651, 652, 653, 654, 655, 656, 669, 670, 671, 672, 673, 674, 675] (by decide +kernel) (by decide +kernel)
set_option maxRecDepth 20000 in
theorem gL_law_X3_copy : GoodIn wsL_law (wsV RL 92 RX3 yX3_copy wsX3_copy) := goodIn_app (goodIn_of _ (by decide +kernel)) ggL_law_X3_copy
set_option maxRecDepth 20000 in
theorem ggL_law_X4_copy : GoodIn wsL_law wsX4_copy := goodIn_r _ [203, 98, 53, 109, 110, 111, 5, 112, 113, 54, 204, 205, 206, 207, 208, 209, 210, 211, 212, 213, 214, 215, 153, 154, 155, 657, 658, 659, 660, 661, 662, 663, 664, 665, 666, 667, 668] (by decide +kernel) (by decide +kernel)
set_option maxRecDepth 20000 in
theorem gL_law_X4_copy : GoodIn wsL_law (wsV RL 95 RX4 yX4_copy wsX4_copy) := goodIn_app (goodIn_of _ (by decide +kernel)) ggL_law_X4_copy
set_option maxRecDepth 20000 in
theorem ggL_law_X3_fit : GoodIn wsL_law wsX3_fit := goodIn_r _ [219, 22, 16, 220, 84, 85, 86, 221, 222, 223, 80, 21, 81, 82, 40, 41, 42, 83, 87, 15, 88, 89, 32, 90, 91, 92, 93, 33, 34, 35, 224, 225, 226, 140, 2, 141, 142, 143, 144, 145, 146, 147, 148, 227, 228, 229, 230, 651, 652, 653, 654, 655, 656, 669, 670, 671, 672, 673, 674, 675] (by decide +kernel) (by decide +kernel)
set_option maxRecDepth 20000 in
theorem gL_law_X3_fit : GoodIn wsL_law (wsV RL 96 RX3 yX3_fit wsX3_fit) := goodIn_app (goodIn_of _ (by decide +kernel)) ggL_law_X3_fit
set_option maxRecDepth 20000 in
theorem ggL_law_X4_fit : GoodIn wsL_law wsX4_fit := goodIn_r _ [234, 98, 53, 109, 110, 111, 5, 112, 113, 54, 235, 236, 237, 238, 153, 154, 155, 657, 658, 659, 660, 661, 662, 663, 664, 665, 666, 667, 668] (by decide +kernel) (by decide +kernel)
set_option maxRecDepth 20000 in
theorem gL_law_X4_fit : GoodIn wsL_law (wsV RL 99 RX4 yX4_fit wsX4_fit) := goodIn_app (goodIn_of _ (by decide +kernel)) ggL_law_X4_fit
set_option maxRecDepth 20000 in
theorem ggL_law_L_append : GoodIn wsL_law wsL_append := goodIn_ca (goodIn_ca (goodIn_r _ [241, 65, 242, 243, 244, 245, 2, 246, 72, 73, 247, 248, 26, 77, 78, 79, 249, 25, 250, 251, 48, 252, 253, 254, 47, 651, 652, 653, 654, 655, 656, 676, 677] (by decide +kernel) (by decide +kernel)) (goodIn_sub (fun _ h => List.mem_append_left _ (List.mem_append_right _ h)) (by decide +kernel))) (goodIn_sub (fun _ h => List.mem_append_right _ h) (by decide +kernel))
set_option maxRecDepth 20000 in
theorem gL_law_L_append : GoodIn wsL_law (va_wsS RL 100 yL_append wsL_append) := goodIn_app (goodIn_of _ (by decide +kernel)) ggL_law_L_append
set_option maxRecDepth 20000 in
theorem ggL_law_X4_append : GoodIn wsL_law wsX4_append := goodIn_r _ [258, 259, 98, 58, 102, 103, 5, 104, 657, 658, 659, 660, 661, 662, 663, 664, 665, 666, 667, 668] (by decide +kernel) (by decide +kernel)
set_option maxRecDepth 20000 in
theorem gL_law_X4_append : GoodIn wsL_law (wsV RL 102 RX4 yX4_append wsX4_append) := goodIn_app (goodIn_of _ (by decide +kernel)) ggL_law_X4_append
set_option maxRecDepth 20000 in
theorem ggL_law_X3_clearBuffer : GoodIn wsL_law wsX3_clearBuffer := goodIn_r _ [263, 26, 264, 25, 265, 266, 48, 651, 652, 653, 654, 655, 656, 676, 677] (by decide +kernel) (by decide +kernel)
set_option maxRecDepth 20000 in
theorem gL_law_X3_clearBuffer : GoodIn wsL_law (wsV RL 103 RX3 yX3_clearBuffer wsX3_clearBuffer) := goodIn_app (goodIn_of _ (by decide +kernel)) ggL_law_X3_clearBuffer
set_option maxRecDepth 20000 in
theorem ggL_law_X4_clearBuffer : GoodIn wsL_law wsX4_clearBuffer := goodIn_r _ [270, 98, 259, 657, 658, 659, 660, 661, 662, 663, 664, 665, 666, 667, 668] (by decide +kernel) (by decide +kernel)
set_option maxRecDepth 20000 in
theorem gL_law_X4_clearBuffer : GoodIn wsL_law (wsV RL 106 RX4 yX4_clearBuffer wsX4_clearBuffer) := goodIn_app (goodIn_of _ (by decide +kernel)) ggL_law_X4_clearBuffer
set_option maxRecDepth 20000 in
theorem ggL_law_X3_firstError : GoodIn wsL_law wsX3_firstError := goodIn_r _ [274, 26, 275, 25, 276, 277, 48, 47, 278, 279, 280, 281, 282, 283, 284, 285, 286, 287, 288, 289, 290, 291, 292, 651, 652, 653, 654, 655, 656, 676, 677] (by decide +kernel) (by decide +kernel)
set_option maxRecDepth 20000 in
theorem gL_law_X3_firstError : GoodIn wsL_law (wsV RL 107 RX3 yX3_firstError wsX3_firstError) := goodIn_app (goodIn_of _ (by decide +kernel)) ggL_law_X3_firstError
set_option maxRecDepth 20000 in
theorem ggL_law_X4_firstError : GoodIn wsL_law wsX4_firstError := goodIn_r _ [296, 98, 259, 297, 298, 299, 5, 300, 58, 301, 302, 303, 304, 305, 306, 307, 308, 309, 310, 311, 99, 100, 101, 102, 103, 104, 657, 658, 659, 660, 661, 662, 663, 664, 665, 666, 667, 668] (by decide +kernel) (by decide +kernel)
set_option maxRecDepth 20000 in
theorem gL_law_X4_firstError : GoodIn wsL_law (wsV RL 110 RX4 yX4_firstError wsX4_firstError) := goodIn_app (goodIn_of _ (by decide +kernel)) ggL_law_X4_firstError
set_option maxRecDepth 20000 in
theorem ggL_law_L_load : GoodIn wsL_law wsL_load := goodIn_ca (goodIn_r _ [314, 65, 315, 316, 317, 2, 318, 72, 73, 26, 22, 16, 319, 25, 320, 321, 48, 47, 278, 279, 280, 281, 282, 283, 284, 285, 286, 287, 288, 289, 290, 291, 292, 80, 21, 81, 82, 40, 41, 42, 83, 84, 85, 86, 87, 15, 88, 89, 32, 90, 91, 92, 93, 33, 34, 35, 322, 323, 324, 264, 265, 266, 325, 326, 327, 651, 652, 653, 654, 655, 656, 676, 677, 673, 674, 675, 669, 670, 671, 672] (by decide +kernel) (by decide +kernel)) (goodIn_sub (fun _ h => List.mem_append_left _ (List.mem_append_right _ h)) (by decide +kernel))
set_option maxRecDepth 20000 in
theorem gL_law_L_load : GoodIn wsL_law (va_wsS RL 111 yL_load wsL_load) := goodIn_app (goodIn_of _ (by decide +kernel)) ggL_law_L_load
set_option maxRecDepth 20000 in
theorem ggL_law_X4_load : GoodIn wsL_law wsX4_load := goodIn_r _ [331, 98, 53, 259, 306, 305, 307, 297, 298, 299, 5, 300, 58, 301, 302, 303, 304, 308, 309, 310, 311, 99, 100, 101, 102, 103, 104, 109, 110, 111, 112, 113, 54, 170, 171, 172, 173, 657, 658, 659, 660, 661, 662, 663, 664, 665, 666, 667, 668] (by decide +kernel) (by decide +kernel)
set_option maxRecDepth 20000 in
theorem gL_law_X4_load : GoodIn wsL_law (wsV RL 114 RX4 yX4_load wsX4_load) := goodIn_app (goodIn_of _ (by decide +kernel)) ggL_law_X4_load
set_option maxRecDepth 20000 in
theorem ggL_law_L_keep : GoodIn wsL_law wsL_keep := goodIn_ca (goodIn_r _ [334, 65, 335, 336, 337, 2, 338, 72, 73, 17, 16, 18, 77, 78, 79, 87, 15, 88, 89, 32, 90, 91, 92, 93, 33, 34, 35, 325, 326, 327, 651, 652, 653, 654, 655, 656, 669, 670, 671, 672] (by decide +kernel) (by decide +kernel)) (goodIn_sub (fun _ h => List.mem_append_left _ (List.mem_append_right _ h)) (by decide +kernel))
set_option maxRecDepth 20000 in
theorem gL_law_L_keep : GoodIn wsL_law (va_wsS RL 115 yL_keep wsL_keep) := goodIn_app (goodIn_of _ (by decide +kernel)) ggL_law_L_keep
set_option maxRecDepth 20000 in
theorem ggL_law_X4_keep : GoodIn wsL_law wsX4_keep := goodIn_r _ [342, 98, 55, 53, 57, 102, 103, 5, 104, 170, 171, 172, 173, 657, 658, 659, 660, 661, 662, 663, 664, 665, 666, 667, 668] (by decide +kernel) (by decide +kernel)
set_option maxRecDepth 20000 in
theorem gL_law_X4_keep : GoodIn wsL_law (wsV RL 117 RX4 yX4_keep wsX4_keep) := goodIn_app (goodIn_of _ (by decide +kernel)) ggL_law_X4_keep
set_option maxRecDepth 20000 in
theorem ggL_law_L_goBack : GoodIn wsL_law wsL_goBack := goodIn_ca (goodIn_ca (goodIn_r _ [345, 65, 242, 346, 347, 348, 2, 349, 72, 73, 247, 248, 22, 16, 17, 77, 78, 79, 350, 351, 352, 353, 18, 80, 21, 81, 82, 40, 41, 42, 83, 84, 85, 86, 87, 15, 88, 89, 32, 90, 91, 92, 93, 33, 34, 35, 325, 326, 327, 651, 652, 653, 654, 655, 656, 673, 674, 675, 669, 670, 671, 672] (by decide +kernel) (by decide +kernel)) (goodIn_sub (fun _ h => List.mem_append_left _ (List.mem_append_right _ h)) (by decide +kernel))) (goodIn_sub (fun _ h => List.mem_append_right _ h) (by decide +kernel))
set_option maxRecDepth 20000 in
theorem gL_law_L_goBack : GoodIn wsL_law (va_wsS RL 118 yL_goBack wsL_goBack) := goodIn_app (goodIn_of _ (by decide +kernel)) ggL_law_L_goBack
set_option maxRecDepth 20000 in
theorem ggL_law_X4_goBack : GoodIn wsL_law wsX4_goBack := goodIn_r _ [357, 57, 98, 53, 55, 102, 103, 5, 104, 109, 110, 111, 112, 113, 54, 170, 171, 172, 173, 657, 658, 659, 660, 661, 662, 663, 664, 665, 666, 667, 668] (by decide +kernel) (by decide +kernel)
set_option maxRecDepth 20000 in
theorem gL_law_X4_goBack : GoodIn wsL_law (wsV RL 120 RX4 yX4_goBack wsX4_goBack) := goodIn_app (goodIn_of _ (by decide +kernel)) ggL_law_X4_goBack
set_option maxRecDepth 20000 in
theorem ggL_law_L_undo : GoodIn wsL_law wsL_undo := goodIn_ca (goodIn_r _ [360, 242, 361, 362, 363, 2, 364, 247, 248, 22, 16, 365, 21, 366, 367, 41, 42, 40, 87, 15, 88, 89, 32, 90, 91, 92, 93, 33, 34, 35, 651, 652, 653, 654, 655, 656, 673, 674, 675, 669, 670, 671, 672] (by decide +kernel) (by decide +kernel)) (goodIn_sub (fun _ h => List.mem_append_right _ h) (by decide +kernel))
set_option maxRecDepth 20000 in
theorem gL_law_L_undo : GoodIn wsL_law (va_wsS RL 121 yL_undo wsL_undo) := goodIn_app (goodIn_of _ (by decide +kernel)) ggL_law_L_undo
set_option maxRecDepth 20000 in
theorem ggL_law_X4_undo : GoodIn wsL_law wsX4_undo := goodIn_r _ [371, 113, 98, 53, 54, 657, 658, 659, 660, 661, 662, 663, 664, 665, 666, 667, 668] (by decide +kernel) (by decide +kernel)
set_option maxRecDepth 20000 in
theorem gL_law_X4_undo : GoodIn wsL_law (wsV RL 123 RX4 yX4_undo wsX4_undo) := goodIn_app (goodIn_of _ (by decide +kernel)) ggL_law_X4_undo
set_option maxRecDepth 20000 in
theorem ggL_law_L_wheelOf : GoodIn wsL_law wsL_wheelOf := goodIn_ca (goodIn_ca (goodIn_r _ [374, 64, 65, 375, 376, 377, 2, 378, 70, 71, 72, 73, 74, 75, 76, 77, 78, 79, 379, 380, 381, 382, 16, 125, 15, 126, 127, 34, 224, 225, 226, 33, 140, 141, 142, 143, 144, 145, 146, 147, 148, 227, 228, 229, 230, 383, 384, 385, 139, 651, 652, 653, 654, 655, 656, 669, 670, 671, 672] (by decide +kernel) (by decide +kernel)) (goodIn_sub (fun _ h => List.mem_append_left _ (List.mem_append_left _ (List.mem_append_right _ h))) (by decide +kernel))) (goodIn_sub (fun _ h => List.mem_append_left _ (List.mem_append_right _ h)) (by decide +kernel))
set_option maxRecDepth 20000 in
theorem gL_law_L_wheelOf : GoodIn wsL_law (va_wsS RL 124 yL_wheelOf wsL_wheelOf) := goodIn_app (goodIn_of _ (by decide +kernel)) ggL_law_L_wheelOf
set_option maxRecDepth 20000 in
theorem ggL_law_X4_wheelOf : GoodIn wsL_law wsX4_wheelOf := goodIn_r _ [389, 98, 99, 100, 5, 101, 102, 103, 104, 390, 391, 392, 393, 53, 235, 236, 237, 238, 153, 154, 155, 394, 395, 396, 657, 658, 659, 660, 661, 662, 663, 664, 665, 666, 667, 668] (by decide +kernel) (by decide +kernel)
set_option maxRecDepth 20000 in
theorem gL_law_X4_wheelOf : GoodIn wsL_law (wsV RL 126 RX4 yX4_wheelOf wsX4_wheelOf) := goodIn_app (goodIn_of _ (by decide +kernel)) ggL_law_X4_wheelOf
set_option maxRecDepth 20000 in
theorem ggL_law_L_trace : GoodIn wsL_law wsL_trace := goodIn_ca (goodIn_ca (goodIn_r _ [399, 64, 65, 400, 401, 402, 2, 403, 70, 71, 72, 73, 74, 75, 76, 77, 78, 79, 404, 405, 406, 407, 16, 28, 192, 15, 193, 194, 195, 196, 197, 198, 32, 199, 125, 126, 127, 34, 140, 141, 142, 143, 144, 145, 146, 147, 148, 408, 409, 410, 411, 651, 652, 653, 654, 655, 656, 669, 670, 671, 672] (by decide +kernel) (by decide +kernel)) (goodIn_sub (fun _ h => List.mem_append_left _ (List.mem_append_left _ (List.mem_append_right _ h))) (by decide +kernel))) (goodIn_sub (fun _ h => List.mem_append_left _ (List.mem_append_right _ h)) (by decide +kernel))
set_option maxRecDepth 20000 in
theorem gL_law_L_trace : GoodIn wsL_law (va_wsS RL 127 yL_trace wsL_trace) := goodIn_app (goodIn_of _ (by decide +kernel)) ggL_law_L_trace
set_option maxRecDepth 20000 in
theorem ggL_law_X4_trace : GoodIn wsL_law wsX4_trace := goodIn_r _ [415, 98, 99, 100, 5, 101, 102, 103, 104, 208, 209, 210, 211, 212, 213, 214, 215, 53, 153, 154, 155, 657, 658, 659, 660, 661, 662, 663, 664, 665, 666, 667, 668] (by decide +kernel) (by decide +kernel)
set_option maxRecDepth 20000 in
theorem gL_law_X4_trace : GoodIn wsL_law (wsV RL 129 RX4 yX4_trace wsX4_trace) := goodIn_app (goodIn_of _ (by decide +kernel)) ggL_law_X4_trace
set_option maxRecDepth 20000 in
theorem ggL_law_L_pointOf : GoodIn wsL_law wsL_pointOf := goodIn_ca (goodIn_ca (goodIn_r _ [418, 64, 65, 419, 420, 421, 2, 422, 70, 71, 72, 73, 74, 75, 76, 77, 78, 79, 423, 424, 425, 426, 16, 427, 15, 428, 429, 33, 430, 192, 193, 194, 195, 196, 197, 198, 32, 199, 125, 126, 127, 34, 140, 141, 142, 143, 144, 145, 146, 147, 148, 431, 432, 433, 651, 652, 653, 654, 655, 656, 669, 670, 671, 672] (by decide +kernel) (by decide +kernel)) (goodIn_sub (fun _ h => List.mem_append_left _ (List.mem_append_left _ (List.mem_append_right _ h))) (by decide +kernel))) (goodIn_sub (fun _ h => List.mem_append_left _ (List.mem_append_right _ h)) (by decide +kernel))
set_option maxRecDepth 20000 in
theorem gL_law_L_pointOf : GoodIn wsL_law (va_wsS RL 130 yL_pointOf wsL_pointOf) := goodIn_app (goodIn_of _ (by decide +kernel)) ggL_law_L_pointOf
set_option maxRecDepth 20000 in
theorem ggL_law_X4_pointOf : GoodIn wsL_law wsX4_pointOf := goodIn_r _ [437, 98, 99, 100, 5, 101, 102, 103, 104, 438, 439, 440, 441, 53, 204, 205, 206, 207, 208, 209, 210, 211, 212, 213, 214, 215, 153, 154, 155, 442, 443, 444, 445, 657, 658, 659, 660, 661, 662, 663, 664, 665, 666, 667, 668] (by decide +kernel) (by decide +kernel)
set_option maxRecDepth 20000 in
theorem gL_law_X4_pointOf : GoodIn wsL_law (wsV RL 132 RX4 yX4_pointOf wsX4_pointOf) := goodIn_app (goodIn_of _ (by decide +kernel)) ggL_law_X4_pointOf
set_option maxRecDepth 20000 in
theorem ggL_law_L_count : GoodIn wsL_law wsL_count := goodIn_ca (goodIn_r _ [448, 65, 449, 450, 451, 2, 452, 72, 73, 77, 78, 79, 453, 454, 455, 456, 16, 22, 325, 15, 326, 327, 32, 142, 143, 144, 145, 146, 147, 148, 457, 458, 459, 460, 221, 222, 85, 223, 192, 193, 194, 195, 196, 197, 198, 199, 125, 126, 127, 34, 140, 141, 461, 462, 463, 464, 220, 84, 86, 465, 466, 467, 468, 163, 164, 165, 427, 428, 429, 33, 430, 469, 470, 471, 472, 431, 432, 433, 473, 474, 475, 476, 651, 652, 653, 654, 655, 656, 669, 670, 671, 672, 673, 674, 675] (by decide +kernel) (by decide +kernel)) (goodIn_sub (fun _ h => List.mem_append_left _ (List.mem_append_right _ h)) (by decide +kernel))
set_option maxRecDepth 20000 in
theorem gL_law_L_count : GoodIn wsL_law (va_wsS RL 133 yL_count wsL_count) := goodIn_app (goodIn_of _ (by decide +kernel)) ggL_law_L_count
set_option maxRecDepth 20000 in
theorem ggL_law_X4_count : GoodIn wsL_law wsX4_count := goodIn_r _ [480, 98, 102, 103, 5, 104, 481, 482, 483, 484, 53, 113, 170, 171, 172, 173, 485, 486, 487, 488, 489, 490, 491, 492, 208, 209, 210, 211, 212, 213, 214, 215, 153, 154, 155, 493, 494, 495, 496, 497, 498, 499, 500, 438, 439, 440, 441, 204, 205, 206, 207, 442, 443, 444, 445, 174, 175, 176, 501, 502, 503, 504, 657, 658, 659, 660, 661, 662, 663, 664, 665, 666, 667, 668] (by decide +kernel) (by decide +kernel)
set_option maxRecDepth 20000 in
theorem gL_law_X4_count : GoodIn wsL_law (wsV RL 135 RX4 yX4_count wsX4_count) := goodIn_app (goodIn_of _ (by decide +kernel)) ggL_law_X4_count
set_option maxRecDepth 20000 in
theorem ggL_law_X3_findLost : GoodIn wsL_law wsX3_findLost := goodIn_r _ [508, 16, 427, 15, 428, 429, 33, 430, 192, 193, 194, 195, 196, 197, 198, 32, 199, 125, 126, 127, 34, 140, 2, 141, 142, 143, 144, 145, 146, 147, 148, 509, 510, 511, 512, 139, 651, 652, 653, 654, 655, 656, 669, 670, 671, 672] (by decide +kernel) (by decide +kernel)
set_option maxRecDepth 20000 in
theorem gL_law_X3_findLost : GoodIn wsL_law (wsV RL 136 RX3 yX3_findLost wsX3_findLost) := goodIn_app (goodIn_of _ (by decide +kernel)) ggL_law_X3_findLost
set_option maxRecDepth 20000 in
theorem ggL_law_X4_findLost : GoodIn wsL_law wsX4_findLost := goodIn_r _ [516, 98, 517, 518, 519, 5, 520, 204, 205, 206, 207, 53, 208, 209, 210, 211, 212, 213, 214, 215, 153, 154, 155, 657, 658, 659, 660, 661, 662, 663, 664, 665, 666, 667, 668] (by decide +kernel) (by decide +kernel)
set_option maxRecDepth 20000 in
theorem gL_law_X4_findLost : GoodIn wsL_law (wsV RL 139 RX4 yX4_findLost wsX4_findLost) := goodIn_app (goodIn_of _ (by decide +kernel)) ggL_law_X4_findLost
set_option maxRecDepth 20000 in
theorem ggL_law_L_enough : GoodIn wsL_law wsL_enough := goodIn_ca (goodIn_r _ [523, 65, 524, 525, 526, 2, 527, 72, 73, 528, 77, 78, 79, 529, 530, 531, 532, 28, 16, 533, 15, 534, 535, 195, 196, 197, 198, 32, 199, 125, 126, 127, 34, 536, 537, 538, 539, 540, 541, 542, 543, 544, 545, 546, 547, 651, 652, 653, 654, 655, 656, 669, 670, 671, 672] (by decide +kernel) (by decide +kernel)) (goodIn_sub (fun _ h => List.mem_append_left _ (List.mem_append_right _ h)) (by decide +kernel))
set_option maxRecDepth 20000 in
theorem gL_law_L_enough : GoodIn wsL_law (va_wsS RL 140 yL_enough wsL_enough) := goodIn_app (goodIn_of _ (by decide +kernel)) ggL_law_L_enough
set_option maxRecDepth 20000 in
theorem ggL_law_X4_enough : GoodIn wsL_law wsX4_enough := goodIn_r _ [551, 552, 98, 102, 103, 5, 104, 553, 554, 555, 556, 59, 53, 212, 213, 214, 215, 174, 175, 176, 657, 658, 659, 660, 661, 662, 663, 664, 665, 666, 667, 668] (by decide +kernel) (by decide +kernel)
set_option maxRecDepth 20000 in
theorem gL_law_X4_enough : GoodIn wsL_law (wsV RL 142 RX4 yX4_enough wsX4_enough) := goodIn_app (goodIn_of _ (by decide +kernel)) ggL_law_X4_enough
set_option maxRecDepth 20000 in
theorem ggL_law_L_ifTurned : GoodIn wsL_law wsL_ifTurned := goodIn_ca (goodIn_ca (goodIn_r _ [559, 64, 65, 560, 561, 562, 2, 563, 70, 71, 72, 73, 16, 74, 75, 76, 77, 78, 79, 192, 15, 193, 194, 195, 196, 197, 198, 32, 199, 125, 126, 127, 34, 140, 141, 142, 143, 144, 145, 146, 147, 148, 651, 652, 653, 654, 655, 656, 669, 670, 671, 672] (by decide +kernel) (by decide +kernel)) (goodIn_sub (fun _ h => List.mem_append_left _ (List.mem_append_left _ (List.mem_append_right _ h))) (by decide +kernel))) (goodIn_sub (fun _ h => List.mem_append_left _ (List.mem_append_right _ h)) (by decide +kernel))
set_option maxRecDepth 20000 in
theorem gL_law_L_ifTurned : GoodIn wsL_law (va_wsS RL 143 yL_ifTurned wsL_ifTurned) := goodIn_app (goodIn_of _ (by decide +kernel)) ggL_law_L_ifTurned
set_option maxRecDepth 20000 in
theorem ggL_law_X4_ifTurned : GoodIn wsL_law wsX4_ifTurned := goodIn_r _ [567, 98, 99, 100, 5, 101, 102, 103, 104, 208, 209, 210, 211, 212, 213, 214, 215, 53, 153, 154, 155, 657, 658, 659, 660, 661, 662, 663, 664, 665, 666, 667, 668] (by decide +kernel) (by decide +kernel)
set_option maxRecDepth 20000 in
theorem gL_law_X4_ifTurned : GoodIn wsL_law (wsV RL 145 RX4 yX4_ifTurned wsX4_ifTurned) := goodIn_app (goodIn_of _ (by decide +kernel)) ggL_law_X4_ifTurned
set_option maxRecDepth 20000 in
theorem ggL_law_X3_bestTurn : GoodIn wsL_law wsX3_bestTurn := goodIn_r _ [571, 572, 573, 574, 2, 575, 16, 163, 164, 85, 165, 192, 15, 193, 194, 195, 196, 197, 198, 32, 199, 125, 126, 127, 34, 140, 141, 142, 143, 144, 145, 146, 147, 148, 651, 652, 653, 654, 655, 656, 669, 670, 671, 672] (by decide +kernel) (by decide +kernel)
set_option maxRecDepth 20000 in
theorem gL_law_X3_bestTurn : GoodIn wsL_law (wsV RL 146 RX3 yX3_bestTurn wsX3_bestTurn) := goodIn_app (goodIn_of _ (by decide +kernel)) ggL_law_X3_bestTurn
set_option maxRecDepth 20000 in
theorem ggL_law_X4_bestTurn : GoodIn wsL_law wsX4_bestTurn := goodIn_r _ [579, 98, 580, 581, 582, 5, 583, 584, 585, 586, 587, 53, 208, 209, 210, 211, 212, 213, 214, 215, 153, 154, 155, 174, 175, 176, 657, 658, 659, 660, 661, 662, 663, 664, 665, 666, 667, 668] (by decide +kernel) (by decide +kernel)
set_option maxRecDepth 20000 in
theorem gL_law_X4_bestTurn : GoodIn wsL_law (wsV RL 149 RX4 yX4_bestTurn wsX4_bestTurn) := goodIn_app (goodIn_of _ (by decide +kernel)) ggL_law_X4_bestTurn
set_option maxRecDepth 20000 in
theorem ggL_law_X3_mainShare : GoodIn wsL_law wsX3_mainShare := goodIn_r _ [591, 16, 221, 222, 85, 223, 196, 15, 197, 198, 32, 199, 125, 126, 127, 34, 651, 652, 653, 654, 655, 656, 669, 670, 671, 672] (by decide +kernel) (by decide +kernel)
set_option maxRecDepth 20000 in
theorem gL_law_X3_mainShare : GoodIn wsL_law (wsV RL 150 RX3 yX3_mainShare wsX3_mainShare) := goodIn_app (goodIn_of _ (by decide +kernel)) ggL_law_X3_mainShare
set_option maxRecDepth 20000 in
theorem ggL_law_X4_mainShare : GoodIn wsL_law wsX4_mainShare := goodIn_r _ [595, 98, 596, 597, 598, 5, 599, 212, 213, 214, 215, 53, 657, 658, 659, 660, 661, 662, 663, 664, 665, 666, 667, 668] (by decide +kernel) (by decide +kernel)
set_option maxRecDepth 20000 in
theorem gL_law_X4_mainShare : GoodIn wsL_law (wsV RL 154 RX4 yX4_mainShare wsX4_mainShare) := goodIn_app (goodIn_of _ (by decide +kernel)) ggL_law_X4_mainShare
set_option maxRecDepth 20000 in
theorem ggL_law_X3_digest : GoodIn wsL_law wsX3_digest := goodIn_r _ [603, 604, 605, 16, 26, 453, 454, 455, 2, 456, 22, 325, 15, 326, 327, 32, 142, 143, 144, 145, 146, 147, 148, 457, 458, 459, 460, 221, 222, 85, 223, 192, 193, 194, 195, 196, 197, 198, 199, 125, 126, 127, 34, 140, 141, 461, 462, 463, 464, 220, 84, 86, 465, 466, 467, 468, 163, 164, 165, 427, 428, 429, 33, 430, 469, 470, 471, 472, 431, 432, 433, 473, 474, 475, 476, 606, 607, 608, 609, 610, 611, 612, 613, 379, 380, 381, 382, 224, 225, 226, 227, 228, 229, 230, 383, 384, 385, 139, 614, 615, 616, 617, 404, 405, 406, 407, 28, 408, 409, 410, 411, 423, 424, 425, 426, 618, 506, 507, 508, 509, 510, 511, 512, 619, 620, 621, 622, 529, 530, 531, 532, 533, 534, 535, 536, 537, 538, 539, 540, 541, 542, 543, 544, 545, 546, 547, 623, 569, 570, 571, 572, 573, 574, 575, 624, 589, 590, 591, 625, 626, 627, 628, 629, 630, 631, 350, 351, 352, 353, 18, 651, 652, 653, 654, 655, 656, 676, 677, 669, 670, 671, 672, 673, 674, 675] (by decide +kernel) (by decide +kernel)
set_option maxRecDepth 20000 in
theorem gL_law_X3_digest : GoodIn wsL_law (wsV RL 155 RX3 yX3_digest wsX3_digest) := goodIn_app (goodIn_of _ (by decide +kernel)) ggL_law_X3_digest
set_option maxRecDepth 20000 in
theorem ggL_law_X4_digest : GoodIn wsL_law wsX4_digest := goodIn_r _ [635, 98, 636, 637, 638, 57, 259, 58, 481, 482, 483, 5, 484, 53, 113, 170, 171, 172, 173, 485, 486, 487, 488, 489, 490, 491, 492, 208, 209, 210, 211, 212, 213, 214, 215, 153, 154, 155, 493, 494, 495, 496, 497, 498, 499, 500, 438, 439, 440, 441, 204, 205, 206, 207, 442, 443, 444, 445, 174, 175, 176, 501, 502, 503, 504, 390, 391, 392, 393, 235, 236, 237, 238, 394, 395, 396, 517, 518, 519, 520, 553, 554, 555, 556, 59, 580, 581, 582, 583, 584, 585, 586, 587, 596, 597, 598, 599, 639, 640, 641, 642, 643, 644, 645, 646, 647, 648, 649, 650, 657, 658, 659, 660, 661, 662, 663, 664, 665, 666, 667, 668] (by decide +kernel) (by decide +kernel)
set_option maxRecDepth 20000 in
theorem gL_law_X4_digest : GoodIn wsL_law (wsV RL 159 RX4 yX4_digest wsX4_digest) := goodIn_app (goodIn_of _ (by decide +kernel)) ggL_law_X4_digest
theorem dL_law_0 : decode cL_law 0 = .ok (.new 8, 3) := by decide +kernel
theorem dL_law_3 : decode cL_law 3 = .ok (.dup, 1) := by decide +kernel
theorem dL_law_4 : decode cL_law 4 = .ok (.invokespecial 66, 3) := by decide +kernel
theorem dL_law_7 : decode cL_law 7 = .ok (.astore_n 1, 1) := by decide +kernel
theorem dL_law_8 : decode cL_law 8 = .ok (.new 67, 3) := by decide +kernel
theorem dL_law_11 : decode cL_law 11 = .ok (.dup, 1) := by decide +kernel
theorem dL_law_12 : decode cL_law 12 = .ok (.invokespecial 69, 3) := by decide +kernel
theorem dL_law_15 : decode cL_law 15 = .ok (.astore_n 2, 1) := by decide +kernel
theorem dL_law_16 : decode cL_law 16 = .ok (.iconst 1, 1) := by decide +kernel
theorem dL_law_17 : decode cL_law 17 = .ok (.newarray .long, 2) := by decide +kernel
theorem dL_law_19 : decode cL_law 19 = .ok (.astore_n 3, 1) := by decide +kernel
theorem dL_law_20 : decode cL_law 20 = .ok (.iconst 0, 1) := by decide +kernel
theorem dL_law_21 : decode cL_law 21 = .ok (.istore 4, 2) := by decide +kernel
theorem dL_law_23 : decode cL_law 23 = .ok (.iload 4, 2) := by decide +kernel
theorem dL_law_25 : decode cL_law 25 = .ok (.aload_n 0, 1) := by decide +kernel
theorem dL_law_26 : decode cL_law 26 = .ok (.arraylength, 1) := by decide +kernel
theorem dL_law_27 : decode cL_law 27 = .ok (.iconst 3, 1) := by decide +kernel
theorem dL_law_28 : decode cL_law 28 = .ok (.isub, 1) := by decide +kernel
theorem dL_law_29 : decode cL_law 29 = .ok (.if_icmp .gt 1214, 3) := by decide +kernel
theorem dL_law_32 : decode cL_law 32 = .ok (.aload_n 0, 1) := by decide +kernel
theorem dL_law_33 : decode cL_law 33 = .ok (.iload 4, 2) := by decide +kernel
theorem dL_law_35 : decode cL_law 35 = .ok (.iaload, 1) := by decide +kernel
theorem dL_law_36 : decode cL_law 36 = .ok (.bipush 31, 2) := by decide +kernel
theorem dL_law_38 : decode cL_law 38 = .ok (.iand, 1) := by decide +kernel
theorem dL_law_39 : decode cL_law 39 = .ok (.tableswitch 1198 0 23 #[109, 177, 233, 289, 345, 413, 426, 439, 495, 508, 521, 565, 621, 677, 721, 789, 857, 925, 981, 994, 1062, 1130, 1143, 1184], 109) := by decide +kernel
theorem dL_law_148 : decode cL_law 148 = .ok (.aload_n 1, 1) := by decide +kernel
theorem dL_law_149 : decode cL_law 149 = .ok (.aload_n 0, 1) := by decide +kernel
theorem dL_law_150 : decode cL_law 150 = .ok (.iload 4, 2) := by decide +kernel
theorem dL_law_152 : decode cL_law 152 = .ok (.iconst 1, 1) := by decide +kernel
theorem dL_law_153 : decode cL_law 153 = .ok (.iadd, 1) := by decide +kernel
theorem dL_law_154 : decode cL_law 154 = .ok (.iaload, 1) := by decide +kernel
theorem dL_law_155 : decode cL_law 155 = .ok (.aload_n 0, 1) := by decide +kernel
theorem dL_law_156 : decode cL_law 156 = .ok (.iload 4, 2) := by decide +kernel
theorem dL_law_158 : decode cL_law 158 = .ok (.iconst 2, 1) := by decide +kernel
theorem dL_law_159 : decode cL_law 159 = .ok (.iadd, 1) := by decide +kernel
theorem dL_law_160 : decode cL_law 160 = .ok (.iaload, 1) := by decide +kernel
theorem dL_law_161 : decode cL_law 161 = .ok (.aload_n 3, 1) := by decide +kernel
theorem dL_law_162 : decode cL_law 162 = .ok (.invokestatic 70, 3) := by decide +kernel
theorem dL_law_165 : decode cL_law 165 = .ok (.istore 5, 2) := by decide +kernel
theorem dL_law_167 : decode cL_law 167 = .ok (.aload_n 2, 1) := by decide +kernel
theorem dL_law_168 : decode cL_law 168 = .ok (.aload_n 0, 1) := by decide +kernel
theorem dL_law_169 : decode cL_law 169 = .ok (.iload 4, 2) := by decide +kernel
theorem dL_law_171 : decode cL_law 171 = .ok (.iconst 1, 1) := by decide +kernel
theorem dL_law_172 : decode cL_law 172 = .ok (.iadd, 1) := by decide +kernel
theorem dL_law_173 : decode cL_law 173 = .ok (.iaload, 1) := by decide +kernel
theorem dL_law_174 : decode cL_law 174 = .ok (.aload_n 0, 1) := by decide +kernel
theorem dL_law_175 : decode cL_law 175 = .ok (.iload 4, 2) := by decide +kernel
theorem dL_law_177 : decode cL_law 177 = .ok (.iconst 2, 1) := by decide +kernel
theorem dL_law_178 : decode cL_law 178 = .ok (.iadd, 1) := by decide +kernel
theorem dL_law_179 : decode cL_law 179 = .ok (.iaload, 1) := by decide +kernel
theorem dL_law_180 : decode cL_law 180 = .ok (.invokevirtual 75, 3) := by decide +kernel
theorem dL_law_183 : decode cL_law 183 = .ok (.istore 6, 2) := by decide +kernel
theorem dL_law_185 : decode cL_law 185 = .ok (.aload_n 2, 1) := by decide +kernel
theorem dL_law_186 : decode cL_law 186 = .ok (.invokevirtual 76, 3) := by decide +kernel
theorem dL_law_189 : decode cL_law 189 = .ok (.iload 5, 2) := by decide +kernel
theorem dL_law_191 : decode cL_law 191 = .ok (.if_icmp .eq 5, 3) := by decide +kernel
theorem dL_law_194 : decode cL_law 194 = .ok (.iconst 0, 1) := by decide +kernel
theorem dL_law_195 : decode cL_law 195 = .ok (.ireturn, 1) := by decide +kernel
theorem dL_law_196 : decode cL_law 196 = .ok (.iload 5, 2) := by decide +kernel
theorem dL_law_198 : decode cL_law 198 = .ok (.ifCond .ne 15, 3) := by decide +kernel
theorem dL_law_201 : decode cL_law 201 = .ok (.aload_n 3, 1) := by decide +kernel
theorem dL_law_202 : decode cL_law 202 = .ok (.iconst 0, 1) := by decide +kernel
theorem dL_law_203 : decode cL_law 203 = .ok (.laload, 1) := by decide +kernel
theorem dL_law_204 : decode cL_law 204 = .ok (.iload 6, 2) := by decide +kernel
theorem dL_law_206 : decode cL_law 206 = .ok (.i2l, 1) := by decide +kernel
theorem dL_law_207 : decode cL_law 207 = .ok (.lcmp, 1) := by decide +kernel
theorem dL_law_208 : decode cL_law 208 = .ok (.ifCond .eq 5, 3) := by decide +kernel
theorem dL_law_211 : decode cL_law 211 = .ok (.iconst 0, 1) := by decide +kernel
theorem dL_law_212 : decode cL_law 212 = .ok (.ireturn, 1) := by decide +kernel
theorem dL_law_213 : decode cL_law 213 = .ok (.goto 1024, 3) := by decide +kernel
theorem dL_law_216 : decode cL_law 216 = .ok (.aload_n 1, 1) := by decide +kernel
theorem dL_law_217 : decode cL_law 217 = .ok (.aload_n 0, 1) := by decide +kernel
theorem dL_law_218 : decode cL_law 218 = .ok (.iload 4, 2) := by decide +kernel
theorem dL_law_220 : decode cL_law 220 = .ok (.iconst 1, 1) := by decide +kernel
theorem dL_law_221 : decode cL_law 221 = .ok (.iadd, 1) := by decide +kernel
theorem dL_law_222 : decode cL_law 222 = .ok (.iaload, 1) := by decide +kernel
theorem dL_law_223 : decode cL_law 223 = .ok (.aload_n 3, 1) := by decide +kernel
theorem dL_law_224 : decode cL_law 224 = .ok (.invokestatic 79, 3) := by decide +kernel
theorem dL_law_227 : decode cL_law 227 = .ok (.istore 5, 2) := by decide +kernel
theorem dL_law_229 : decode cL_law 229 = .ok (.aload_n 2, 1) := by decide +kernel
theorem dL_law_230 : decode cL_law 230 = .ok (.aload_n 0, 1) := by decide +kernel
theorem dL_law_231 : decode cL_law 231 = .ok (.iload 4, 2) := by decide +kernel
theorem dL_law_233 : decode cL_law 233 = .ok (.iconst 1, 1) := by decide +kernel
theorem dL_law_234 : decode cL_law 234 = .ok (.iadd, 1) := by decide +kernel
theorem dL_law_235 : decode cL_law 235 = .ok (.iaload, 1) := by decide +kernel
theorem dL_law_236 : decode cL_law 236 = .ok (.invokevirtual 82, 3) := by decide +kernel
theorem dL_law_239 : decode cL_law 239 = .ok (.istore 6, 2) := by decide +kernel
theorem dL_law_241 : decode cL_law 241 = .ok (.aload_n 2, 1) := by decide +kernel
theorem dL_law_242 : decode cL_law 242 = .ok (.invokevirtual 76, 3) := by decide +kernel
theorem dL_law_245 : decode cL_law 245 = .ok (.iload 5, 2) := by decide +kernel
theorem dL_law_247 : decode cL_law 247 = .ok (.if_icmp .eq 5, 3) := by decide +kernel
theorem dL_law_250 : decode cL_law 250 = .ok (.iconst 0, 1) := by decide +kernel
theorem dL_law_251 : decode cL_law 251 = .ok (.ireturn, 1) := by decide +kernel
theorem dL_law_252 : decode cL_law 252 = .ok (.iload 5, 2) := by decide +kernel
theorem dL_law_254 : decode cL_law 254 = .ok (.ifCond .ne 15, 3) := by decide +kernel
theorem dL_law_257 : decode cL_law 257 = .ok (.aload_n 3, 1) := by decide +kernel
theorem dL_law_258 : decode cL_law 258 = .ok (.iconst 0, 1) := by decide +kernel
theorem dL_law_259 : decode cL_law 259 = .ok (.laload, 1) := by decide +kernel
theorem dL_law_260 : decode cL_law 260 = .ok (.iload 6, 2) := by decide +kernel
theorem dL_law_262 : decode cL_law 262 = .ok (.i2l, 1) := by decide +kernel
theorem dL_law_263 : decode cL_law 263 = .ok (.lcmp, 1) := by decide +kernel
theorem dL_law_264 : decode cL_law 264 = .ok (.ifCond .eq 5, 3) := by decide +kernel
theorem dL_law_267 : decode cL_law 267 = .ok (.iconst 0, 1) := by decide +kernel
theorem dL_law_268 : decode cL_law 268 = .ok (.ireturn, 1) := by decide +kernel
theorem dL_law_269 : decode cL_law 269 = .ok (.goto 968, 3) := by decide +kernel
theorem dL_law_272 : decode cL_law 272 = .ok (.aload_n 1, 1) := by decide +kernel
theorem dL_law_273 : decode cL_law 273 = .ok (.aload_n 0, 1) := by decide +kernel
theorem dL_law_274 : decode cL_law 274 = .ok (.iload 4, 2) := by decide +kernel
theorem dL_law_276 : decode cL_law 276 = .ok (.iconst 1, 1) := by decide +kernel
theorem dL_law_277 : decode cL_law 277 = .ok (.iadd, 1) := by decide +kernel
theorem dL_law_278 : decode cL_law 278 = .ok (.iaload, 1) := by decide +kernel
theorem dL_law_279 : decode cL_law 279 = .ok (.aload_n 3, 1) := by decide +kernel
theorem dL_law_280 : decode cL_law 280 = .ok (.invokestatic 83, 3) := by decide +kernel
theorem dL_law_283 : decode cL_law 283 = .ok (.istore 5, 2) := by decide +kernel
theorem dL_law_285 : decode cL_law 285 = .ok (.aload_n 2, 1) := by decide +kernel
theorem dL_law_286 : decode cL_law 286 = .ok (.aload_n 0, 1) := by decide +kernel
theorem dL_law_287 : decode cL_law 287 = .ok (.iload 4, 2) := by decide +kernel
theorem dL_law_289 : decode cL_law 289 = .ok (.iconst 1, 1) := by decide +kernel
theorem dL_law_290 : decode cL_law 290 = .ok (.iadd, 1) := by decide +kernel
theorem dL_law_291 : decode cL_law 291 = .ok (.iaload, 1) := by decide +kernel
theorem dL_law_292 : decode cL_law 292 = .ok (.invokevirtual 85, 3) := by decide +kernel
theorem dL_law_295 : decode cL_law 295 = .ok (.istore 6, 2) := by decide +kernel
theorem dL_law_297 : decode cL_law 297 = .ok (.aload_n 2, 1) := by decide +kernel
theorem dL_law_298 : decode cL_law 298 = .ok (.invokevirtual 76, 3) := by decide +kernel
theorem dL_law_301 : decode cL_law 301 = .ok (.iload 5, 2) := by decide +kernel
theorem dL_law_303 : decode cL_law 303 = .ok (.if_icmp .eq 5, 3) := by decide +kernel
theorem dL_law_306 : decode cL_law 306 = .ok (.iconst 0, 1) := by decide +kernel
theorem dL_law_307 : decode cL_law 307 = .ok (.ireturn, 1) := by decide +kernel
theorem dL_law_308 : decode cL_law 308 = .ok (.iload 5, 2) := by decide +kernel
theorem dL_law_310 : decode cL_law 310 = .ok (.ifCond .ne 15, 3) := by decide +kernel
theorem dL_law_313 : decode cL_law 313 = .ok (.aload_n 3, 1) := by decide +kernel
theorem dL_law_314 : decode cL_law 314 = .ok (.iconst 0, 1) := by decide +kernel
theorem dL_law_315 : decode cL_law 315 = .ok (.laload, 1) := by decide +kernel
theorem dL_law_316 : decode cL_law 316 = .ok (.iload 6, 2) := by decide +kernel
theorem dL_law_318 : decode cL_law 318 = .ok (.i2l, 1) := by decide +kernel
theorem dL_law_319 : decode cL_law 319 = .ok (.lcmp, 1) := by decide +kernel
theorem dL_law_320 : decode cL_law 320 = .ok (.ifCond .eq 5, 3) := by decide +kernel
theorem dL_law_323 : decode cL_law 323 = .ok (.iconst 0, 1) := by decide +kernel
theorem dL_law_324 : decode cL_law 324 = .ok (.ireturn, 1) := by decide +kernel
theorem dL_law_325 : decode cL_law 325 = .ok (.goto 912, 3) := by decide +kernel
theorem dL_law_328 : decode cL_law 328 = .ok (.aload_n 1, 1) := by decide +kernel
theorem dL_law_329 : decode cL_law 329 = .ok (.aload_n 0, 1) := by decide +kernel
theorem dL_law_330 : decode cL_law 330 = .ok (.iload 4, 2) := by decide +kernel
theorem dL_law_332 : decode cL_law 332 = .ok (.iconst 1, 1) := by decide +kernel
theorem dL_law_333 : decode cL_law 333 = .ok (.iadd, 1) := by decide +kernel
theorem dL_law_334 : decode cL_law 334 = .ok (.iaload, 1) := by decide +kernel
theorem dL_law_335 : decode cL_law 335 = .ok (.aload_n 3, 1) := by decide +kernel
theorem dL_law_336 : decode cL_law 336 = .ok (.invokestatic 86, 3) := by decide +kernel
theorem dL_law_339 : decode cL_law 339 = .ok (.istore 5, 2) := by decide +kernel
theorem dL_law_341 : decode cL_law 341 = .ok (.aload_n 2, 1) := by decide +kernel
theorem dL_law_342 : decode cL_law 342 = .ok (.aload_n 0, 1) := by decide +kernel
theorem dL_law_343 : decode cL_law 343 = .ok (.iload 4, 2) := by decide +kernel
theorem dL_law_345 : decode cL_law 345 = .ok (.iconst 1, 1) := by decide +kernel
theorem dL_law_346 : decode cL_law 346 = .ok (.iadd, 1) := by decide +kernel
theorem dL_law_347 : decode cL_law 347 = .ok (.iaload, 1) := by decide +kernel
theorem dL_law_348 : decode cL_law 348 = .ok (.invokevirtual 88, 3) := by decide +kernel
theorem dL_law_351 : decode cL_law 351 = .ok (.istore 6, 2) := by decide +kernel
theorem dL_law_353 : decode cL_law 353 = .ok (.aload_n 2, 1) := by decide +kernel
theorem dL_law_354 : decode cL_law 354 = .ok (.invokevirtual 76, 3) := by decide +kernel
theorem dL_law_357 : decode cL_law 357 = .ok (.iload 5, 2) := by decide +kernel
theorem dL_law_359 : decode cL_law 359 = .ok (.if_icmp .eq 5, 3) := by decide +kernel
theorem dL_law_362 : decode cL_law 362 = .ok (.iconst 0, 1) := by decide +kernel
theorem dL_law_363 : decode cL_law 363 = .ok (.ireturn, 1) := by decide +kernel
theorem dL_law_364 : decode cL_law 364 = .ok (.iload 5, 2) := by decide +kernel
theorem dL_law_366 : decode cL_law 366 = .ok (.ifCond .ne 15, 3) := by decide +kernel
theorem dL_law_369 : decode cL_law 369 = .ok (.aload_n 3, 1) := by decide +kernel
theorem dL_law_370 : decode cL_law 370 = .ok (.iconst 0, 1) := by decide +kernel
theorem dL_law_371 : decode cL_law 371 = .ok (.laload, 1) := by decide +kernel
theorem dL_law_372 : decode cL_law 372 = .ok (.iload 6, 2) := by decide +kernel
theorem dL_law_374 : decode cL_law 374 = .ok (.i2l, 1) := by decide +kernel
theorem dL_law_375 : decode cL_law 375 = .ok (.lcmp, 1) := by decide +kernel
theorem dL_law_376 : decode cL_law 376 = .ok (.ifCond .eq 5, 3) := by decide +kernel
theorem dL_law_379 : decode cL_law 379 = .ok (.iconst 0, 1) := by decide +kernel
theorem dL_law_380 : decode cL_law 380 = .ok (.ireturn, 1) := by decide +kernel
theorem dL_law_381 : decode cL_law 381 = .ok (.goto 856, 3) := by decide +kernel
theorem dL_law_384 : decode cL_law 384 = .ok (.aload_n 1, 1) := by decide +kernel
theorem dL_law_385 : decode cL_law 385 = .ok (.aload_n 0, 1) := by decide +kernel
theorem dL_law_386 : decode cL_law 386 = .ok (.iload 4, 2) := by decide +kernel
theorem dL_law_388 : decode cL_law 388 = .ok (.iconst 1, 1) := by decide +kernel
theorem dL_law_389 : decode cL_law 389 = .ok (.iadd, 1) := by decide +kernel
theorem dL_law_390 : decode cL_law 390 = .ok (.iaload, 1) := by decide +kernel
theorem dL_law_391 : decode cL_law 391 = .ok (.aload_n 0, 1) := by decide +kernel
theorem dL_law_392 : decode cL_law 392 = .ok (.iload 4, 2) := by decide +kernel
theorem dL_law_394 : decode cL_law 394 = .ok (.iconst 2, 1) := by decide +kernel
theorem dL_law_395 : decode cL_law 395 = .ok (.iadd, 1) := by decide +kernel
theorem dL_law_396 : decode cL_law 396 = .ok (.iaload, 1) := by decide +kernel
theorem dL_law_397 : decode cL_law 397 = .ok (.aload_n 3, 1) := by decide +kernel
theorem dL_law_398 : decode cL_law 398 = .ok (.invokestatic 89, 3) := by decide +kernel
theorem dL_law_401 : decode cL_law 401 = .ok (.istore 5, 2) := by decide +kernel
theorem dL_law_403 : decode cL_law 403 = .ok (.aload_n 2, 1) := by decide +kernel
theorem dL_law_404 : decode cL_law 404 = .ok (.aload_n 0, 1) := by decide +kernel
theorem dL_law_405 : decode cL_law 405 = .ok (.iload 4, 2) := by decide +kernel
theorem dL_law_407 : decode cL_law 407 = .ok (.iconst 1, 1) := by decide +kernel
theorem dL_law_408 : decode cL_law 408 = .ok (.iadd, 1) := by decide +kernel
theorem dL_law_409 : decode cL_law 409 = .ok (.iaload, 1) := by decide +kernel
theorem dL_law_410 : decode cL_law 410 = .ok (.aload_n 0, 1) := by decide +kernel
theorem dL_law_411 : decode cL_law 411 = .ok (.iload 4, 2) := by decide +kernel
theorem dL_law_413 : decode cL_law 413 = .ok (.iconst 2, 1) := by decide +kernel
theorem dL_law_414 : decode cL_law 414 = .ok (.iadd, 1) := by decide +kernel
theorem dL_law_415 : decode cL_law 415 = .ok (.iaload, 1) := by decide +kernel
theorem dL_law_416 : decode cL_law 416 = .ok (.invokevirtual 91, 3) := by decide +kernel
theorem dL_law_419 : decode cL_law 419 = .ok (.istore 6, 2) := by decide +kernel
theorem dL_law_421 : decode cL_law 421 = .ok (.aload_n 2, 1) := by decide +kernel
theorem dL_law_422 : decode cL_law 422 = .ok (.invokevirtual 76, 3) := by decide +kernel
theorem dL_law_425 : decode cL_law 425 = .ok (.iload 5, 2) := by decide +kernel
theorem dL_law_427 : decode cL_law 427 = .ok (.if_icmp .eq 5, 3) := by decide +kernel
theorem dL_law_430 : decode cL_law 430 = .ok (.iconst 0, 1) := by decide +kernel
theorem dL_law_431 : decode cL_law 431 = .ok (.ireturn, 1) := by decide +kernel
theorem dL_law_432 : decode cL_law 432 = .ok (.iload 5, 2) := by decide +kernel
theorem dL_law_434 : decode cL_law 434 = .ok (.ifCond .ne 15, 3) := by decide +kernel
theorem dL_law_437 : decode cL_law 437 = .ok (.aload_n 3, 1) := by decide +kernel
theorem dL_law_438 : decode cL_law 438 = .ok (.iconst 0, 1) := by decide +kernel
theorem dL_law_439 : decode cL_law 439 = .ok (.laload, 1) := by decide +kernel
theorem dL_law_440 : decode cL_law 440 = .ok (.iload 6, 2) := by decide +kernel
theorem dL_law_442 : decode cL_law 442 = .ok (.i2l, 1) := by decide +kernel
theorem dL_law_443 : decode cL_law 443 = .ok (.lcmp, 1) := by decide +kernel
theorem dL_law_444 : decode cL_law 444 = .ok (.ifCond .eq 5, 3) := by decide +kernel
theorem dL_law_447 : decode cL_law 447 = .ok (.iconst 0, 1) := by decide +kernel
theorem dL_law_448 : decode cL_law 448 = .ok (.ireturn, 1) := by decide +kernel
theorem dL_law_449 : decode cL_law 449 = .ok (.goto 788, 3) := by decide +kernel
theorem dL_law_452 : decode cL_law 452 = .ok (.aload_n 1, 1) := by decide +kernel
theorem dL_law_453 : decode cL_law 453 = .ok (.invokevirtual 92, 3) := by decide +kernel
theorem dL_law_456 : decode cL_law 456 = .ok (.aload_n 2, 1) := by decide +kernel
theorem dL_law_457 : decode cL_law 457 = .ok (.invokevirtual 95, 3) := by decide +kernel
theorem dL_law_460 : decode cL_law 460 = .ok (.if_icmp .eq 777, 3) := by decide +kernel
theorem dL_law_463 : decode cL_law 463 = .ok (.iconst 0, 1) := by decide +kernel
theorem dL_law_464 : decode cL_law 464 = .ok (.ireturn, 1) := by decide +kernel
theorem dL_law_465 : decode cL_law 465 = .ok (.aload_n 1, 1) := by decide +kernel
theorem dL_law_466 : decode cL_law 466 = .ok (.invokevirtual 96, 3) := by decide +kernel
theorem dL_law_469 : decode cL_law 469 = .ok (.aload_n 2, 1) := by decide +kernel
theorem dL_law_470 : decode cL_law 470 = .ok (.invokevirtual 99, 3) := by decide +kernel
theorem dL_law_473 : decode cL_law 473 = .ok (.if_icmp .eq 764, 3) := by decide +kernel
theorem dL_law_476 : decode cL_law 476 = .ok (.iconst 0, 1) := by decide +kernel
theorem dL_law_477 : decode cL_law 477 = .ok (.ireturn, 1) := by decide +kernel
theorem dL_law_478 : decode cL_law 478 = .ok (.aload_n 1, 1) := by decide +kernel
theorem dL_law_479 : decode cL_law 479 = .ok (.aload_n 0, 1) := by decide +kernel
theorem dL_law_480 : decode cL_law 480 = .ok (.iload 4, 2) := by decide +kernel
theorem dL_law_482 : decode cL_law 482 = .ok (.iconst 1, 1) := by decide +kernel
theorem dL_law_483 : decode cL_law 483 = .ok (.iadd, 1) := by decide +kernel
theorem dL_law_484 : decode cL_law 484 = .ok (.iaload, 1) := by decide +kernel
theorem dL_law_485 : decode cL_law 485 = .ok (.aload_n 3, 1) := by decide +kernel
theorem dL_law_486 : decode cL_law 486 = .ok (.invokestatic 100, 3) := by decide +kernel
theorem dL_law_489 : decode cL_law 489 = .ok (.istore 5, 2) := by decide +kernel
theorem dL_law_491 : decode cL_law 491 = .ok (.aload_n 2, 1) := by decide +kernel
theorem dL_law_492 : decode cL_law 492 = .ok (.aload_n 0, 1) := by decide +kernel
theorem dL_law_493 : decode cL_law 493 = .ok (.iload 4, 2) := by decide +kernel
theorem dL_law_495 : decode cL_law 495 = .ok (.iconst 1, 1) := by decide +kernel
theorem dL_law_496 : decode cL_law 496 = .ok (.iadd, 1) := by decide +kernel
theorem dL_law_497 : decode cL_law 497 = .ok (.iaload, 1) := by decide +kernel
theorem dL_law_498 : decode cL_law 498 = .ok (.invokevirtual 102, 3) := by decide +kernel
theorem dL_law_501 : decode cL_law 501 = .ok (.istore 6, 2) := by decide +kernel
theorem dL_law_503 : decode cL_law 503 = .ok (.aload_n 2, 1) := by decide +kernel
theorem dL_law_504 : decode cL_law 504 = .ok (.invokevirtual 76, 3) := by decide +kernel
theorem dL_law_507 : decode cL_law 507 = .ok (.iload 5, 2) := by decide +kernel
theorem dL_law_509 : decode cL_law 509 = .ok (.if_icmp .eq 5, 3) := by decide +kernel
theorem dL_law_512 : decode cL_law 512 = .ok (.iconst 0, 1) := by decide +kernel
theorem dL_law_513 : decode cL_law 513 = .ok (.ireturn, 1) := by decide +kernel
theorem dL_law_514 : decode cL_law 514 = .ok (.iload 5, 2) := by decide +kernel
theorem dL_law_516 : decode cL_law 516 = .ok (.ifCond .ne 15, 3) := by decide +kernel
theorem dL_law_519 : decode cL_law 519 = .ok (.aload_n 3, 1) := by decide +kernel
theorem dL_law_520 : decode cL_law 520 = .ok (.iconst 0, 1) := by decide +kernel
theorem dL_law_521 : decode cL_law 521 = .ok (.laload, 1) := by decide +kernel
theorem dL_law_522 : decode cL_law 522 = .ok (.iload 6, 2) := by decide +kernel
theorem dL_law_524 : decode cL_law 524 = .ok (.i2l, 1) := by decide +kernel
theorem dL_law_525 : decode cL_law 525 = .ok (.lcmp, 1) := by decide +kernel
theorem dL_law_526 : decode cL_law 526 = .ok (.ifCond .eq 5, 3) := by decide +kernel
theorem dL_law_529 : decode cL_law 529 = .ok (.iconst 0, 1) := by decide +kernel
theorem dL_law_530 : decode cL_law 530 = .ok (.ireturn, 1) := by decide +kernel
theorem dL_law_531 : decode cL_law 531 = .ok (.goto 706, 3) := by decide +kernel
theorem dL_law_534 : decode cL_law 534 = .ok (.aload_n 1, 1) := by decide +kernel
theorem dL_law_535 : decode cL_law 535 = .ok (.invokevirtual 103, 3) := by decide +kernel
theorem dL_law_538 : decode cL_law 538 = .ok (.aload_n 2, 1) := by decide +kernel
theorem dL_law_539 : decode cL_law 539 = .ok (.invokevirtual 106, 3) := by decide +kernel
theorem dL_law_542 : decode cL_law 542 = .ok (.if_icmp .eq 695, 3) := by decide +kernel
theorem dL_law_545 : decode cL_law 545 = .ok (.iconst 0, 1) := by decide +kernel
theorem dL_law_546 : decode cL_law 546 = .ok (.ireturn, 1) := by decide +kernel
theorem dL_law_547 : decode cL_law 547 = .ok (.aload_n 1, 1) := by decide +kernel
theorem dL_law_548 : decode cL_law 548 = .ok (.invokevirtual 107, 3) := by decide +kernel
theorem dL_law_551 : decode cL_law 551 = .ok (.aload_n 2, 1) := by decide +kernel
theorem dL_law_552 : decode cL_law 552 = .ok (.invokevirtual 110, 3) := by decide +kernel
theorem dL_law_555 : decode cL_law 555 = .ok (.if_icmp .eq 682, 3) := by decide +kernel
theorem dL_law_558 : decode cL_law 558 = .ok (.iconst 0, 1) := by decide +kernel
theorem dL_law_559 : decode cL_law 559 = .ok (.ireturn, 1) := by decide +kernel
theorem dL_law_560 : decode cL_law 560 = .ok (.aload_n 1, 1) := by decide +kernel
theorem dL_law_561 : decode cL_law 561 = .ok (.aload_n 3, 1) := by decide +kernel
theorem dL_law_562 : decode cL_law 562 = .ok (.invokestatic 111, 3) := by decide +kernel
theorem dL_law_565 : decode cL_law 565 = .ok (.istore 5, 2) := by decide +kernel
theorem dL_law_567 : decode cL_law 567 = .ok (.aload_n 2, 1) := by decide +kernel
theorem dL_law_568 : decode cL_law 568 = .ok (.invokevirtual 114, 3) := by decide +kernel
theorem dL_law_571 : decode cL_law 571 = .ok (.istore 6, 2) := by decide +kernel
theorem dL_law_573 : decode cL_law 573 = .ok (.aload_n 2, 1) := by decide +kernel
theorem dL_law_574 : decode cL_law 574 = .ok (.invokevirtual 76, 3) := by decide +kernel
theorem dL_law_577 : decode cL_law 577 = .ok (.iload 5, 2) := by decide +kernel
theorem dL_law_579 : decode cL_law 579 = .ok (.if_icmp .eq 5, 3) := by decide +kernel
theorem dL_law_582 : decode cL_law 582 = .ok (.iconst 0, 1) := by decide +kernel
theorem dL_law_583 : decode cL_law 583 = .ok (.ireturn, 1) := by decide +kernel
theorem dL_law_584 : decode cL_law 584 = .ok (.iload 5, 2) := by decide +kernel
theorem dL_law_586 : decode cL_law 586 = .ok (.ifCond .ne 15, 3) := by decide +kernel
theorem dL_law_589 : decode cL_law 589 = .ok (.aload_n 3, 1) := by decide +kernel
theorem dL_law_590 : decode cL_law 590 = .ok (.iconst 0, 1) := by decide +kernel
theorem dL_law_591 : decode cL_law 591 = .ok (.laload, 1) := by decide +kernel
theorem dL_law_592 : decode cL_law 592 = .ok (.iload 6, 2) := by decide +kernel
theorem dL_law_594 : decode cL_law 594 = .ok (.i2l, 1) := by decide +kernel
theorem dL_law_595 : decode cL_law 595 = .ok (.lcmp, 1) := by decide +kernel
theorem dL_law_596 : decode cL_law 596 = .ok (.ifCond .eq 5, 3) := by decide +kernel
theorem dL_law_599 : decode cL_law 599 = .ok (.iconst 0, 1) := by decide +kernel
theorem dL_law_600 : decode cL_law 600 = .ok (.ireturn, 1) := by decide +kernel
theorem dL_law_601 : decode cL_law 601 = .ok (.goto 636, 3) := by decide +kernel
theorem dL_law_604 : decode cL_law 604 = .ok (.aload_n 1, 1) := by decide +kernel
theorem dL_law_605 : decode cL_law 605 = .ok (.aload_n 0, 1) := by decide +kernel
theorem dL_law_606 : decode cL_law 606 = .ok (.iload 4, 2) := by decide +kernel
theorem dL_law_608 : decode cL_law 608 = .ok (.iconst 1, 1) := by decide +kernel
theorem dL_law_609 : decode cL_law 609 = .ok (.iadd, 1) := by decide +kernel
theorem dL_law_610 : decode cL_law 610 = .ok (.iaload, 1) := by decide +kernel
theorem dL_law_611 : decode cL_law 611 = .ok (.aload_n 3, 1) := by decide +kernel
theorem dL_law_612 : decode cL_law 612 = .ok (.invokestatic 115, 3) := by decide +kernel
theorem dL_law_615 : decode cL_law 615 = .ok (.istore 5, 2) := by decide +kernel
theorem dL_law_617 : decode cL_law 617 = .ok (.aload_n 2, 1) := by decide +kernel
theorem dL_law_618 : decode cL_law 618 = .ok (.aload_n 0, 1) := by decide +kernel
theorem dL_law_619 : decode cL_law 619 = .ok (.iload 4, 2) := by decide +kernel
theorem dL_law_621 : decode cL_law 621 = .ok (.iconst 1, 1) := by decide +kernel
theorem dL_law_622 : decode cL_law 622 = .ok (.iadd, 1) := by decide +kernel
theorem dL_law_623 : decode cL_law 623 = .ok (.iaload, 1) := by decide +kernel
theorem dL_law_624 : decode cL_law 624 = .ok (.invokevirtual 117, 3) := by decide +kernel
theorem dL_law_627 : decode cL_law 627 = .ok (.istore 6, 2) := by decide +kernel
theorem dL_law_629 : decode cL_law 629 = .ok (.aload_n 2, 1) := by decide +kernel
theorem dL_law_630 : decode cL_law 630 = .ok (.invokevirtual 76, 3) := by decide +kernel
theorem dL_law_633 : decode cL_law 633 = .ok (.iload 5, 2) := by decide +kernel
theorem dL_law_635 : decode cL_law 635 = .ok (.if_icmp .eq 5, 3) := by decide +kernel
theorem dL_law_638 : decode cL_law 638 = .ok (.iconst 0, 1) := by decide +kernel
theorem dL_law_639 : decode cL_law 639 = .ok (.ireturn, 1) := by decide +kernel
theorem dL_law_640 : decode cL_law 640 = .ok (.iload 5, 2) := by decide +kernel
theorem dL_law_642 : decode cL_law 642 = .ok (.ifCond .ne 15, 3) := by decide +kernel
theorem dL_law_645 : decode cL_law 645 = .ok (.aload_n 3, 1) := by decide +kernel
theorem dL_law_646 : decode cL_law 646 = .ok (.iconst 0, 1) := by decide +kernel
theorem dL_law_647 : decode cL_law 647 = .ok (.laload, 1) := by decide +kernel
theorem dL_law_648 : decode cL_law 648 = .ok (.iload 6, 2) := by decide +kernel
theorem dL_law_650 : decode cL_law 650 = .ok (.i2l, 1) := by decide +kernel
theorem dL_law_651 : decode cL_law 651 = .ok (.lcmp, 1) := by decide +kernel
theorem dL_law_652 : decode cL_law 652 = .ok (.ifCond .eq 5, 3) := by decide +kernel
theorem dL_law_655 : decode cL_law 655 = .ok (.iconst 0, 1) := by decide +kernel
theorem dL_law_656 : decode cL_law 656 = .ok (.ireturn, 1) := by decide +kernel
theorem dL_law_657 : decode cL_law 657 = .ok (.goto 580, 3) := by decide +kernel
theorem dL_law_660 : decode cL_law 660 = .ok (.aload_n 1, 1) := by decide +kernel
theorem dL_law_661 : decode cL_law 661 = .ok (.aload_n 0, 1) := by decide +kernel
theorem dL_law_662 : decode cL_law 662 = .ok (.iload 4, 2) := by decide +kernel
theorem dL_law_664 : decode cL_law 664 = .ok (.iconst 1, 1) := by decide +kernel
theorem dL_law_665 : decode cL_law 665 = .ok (.iadd, 1) := by decide +kernel
theorem dL_law_666 : decode cL_law 666 = .ok (.iaload, 1) := by decide +kernel
theorem dL_law_667 : decode cL_law 667 = .ok (.aload_n 3, 1) := by decide +kernel
theorem dL_law_668 : decode cL_law 668 = .ok (.invokestatic 118, 3) := by decide +kernel
theorem dL_law_671 : decode cL_law 671 = .ok (.istore 5, 2) := by decide +kernel
theorem dL_law_673 : decode cL_law 673 = .ok (.aload_n 2, 1) := by decide +kernel
theorem dL_law_674 : decode cL_law 674 = .ok (.aload_n 0, 1) := by decide +kernel
theorem dL_law_675 : decode cL_law 675 = .ok (.iload 4, 2) := by decide +kernel
theorem dL_law_677 : decode cL_law 677 = .ok (.iconst 1, 1) := by decide +kernel
theorem dL_law_678 : decode cL_law 678 = .ok (.iadd, 1) := by decide +kernel
theorem dL_law_679 : decode cL_law 679 = .ok (.iaload, 1) := by decide +kernel
theorem dL_law_680 : decode cL_law 680 = .ok (.invokevirtual 120, 3) := by decide +kernel
theorem dL_law_683 : decode cL_law 683 = .ok (.istore 6, 2) := by decide +kernel
theorem dL_law_685 : decode cL_law 685 = .ok (.aload_n 2, 1) := by decide +kernel
theorem dL_law_686 : decode cL_law 686 = .ok (.invokevirtual 76, 3) := by decide +kernel
theorem dL_law_689 : decode cL_law 689 = .ok (.iload 5, 2) := by decide +kernel
theorem dL_law_691 : decode cL_law 691 = .ok (.if_icmp .eq 5, 3) := by decide +kernel
theorem dL_law_694 : decode cL_law 694 = .ok (.iconst 0, 1) := by decide +kernel
theorem dL_law_695 : decode cL_law 695 = .ok (.ireturn, 1) := by decide +kernel
theorem dL_law_696 : decode cL_law 696 = .ok (.iload 5, 2) := by decide +kernel
theorem dL_law_698 : decode cL_law 698 = .ok (.ifCond .ne 15, 3) := by decide +kernel
theorem dL_law_701 : decode cL_law 701 = .ok (.aload_n 3, 1) := by decide +kernel
theorem dL_law_702 : decode cL_law 702 = .ok (.iconst 0, 1) := by decide +kernel
theorem dL_law_703 : decode cL_law 703 = .ok (.laload, 1) := by decide +kernel
theorem dL_law_704 : decode cL_law 704 = .ok (.iload 6, 2) := by decide +kernel
theorem dL_law_706 : decode cL_law 706 = .ok (.i2l, 1) := by decide +kernel
theorem dL_law_707 : decode cL_law 707 = .ok (.lcmp, 1) := by decide +kernel
theorem dL_law_708 : decode cL_law 708 = .ok (.ifCond .eq 5, 3) := by decide +kernel
theorem dL_law_711 : decode cL_law 711 = .ok (.iconst 0, 1) := by decide +kernel
theorem dL_law_712 : decode cL_law 712 = .ok (.ireturn, 1) := by decide +kernel
theorem dL_law_713 : decode cL_law 713 = .ok (.goto 524, 3) := by decide +kernel
theorem dL_law_716 : decode cL_law 716 = .ok (.aload_n 1, 1) := by decide +kernel
theorem dL_law_717 : decode cL_law 717 = .ok (.aload_n 3, 1) := by decide +kernel
theorem dL_law_718 : decode cL_law 718 = .ok (.invokestatic 121, 3) := by decide +kernel
theorem dL_law_721 : decode cL_law 721 = .ok (.istore 5, 2) := by decide +kernel
theorem dL_law_723 : decode cL_law 723 = .ok (.aload_n 2, 1) := by decide +kernel
theorem dL_law_724 : decode cL_law 724 = .ok (.invokevirtual 123, 3) := by decide +kernel
theorem dL_law_727 : decode cL_law 727 = .ok (.istore 6, 2) := by decide +kernel
theorem dL_law_729 : decode cL_law 729 = .ok (.aload_n 2, 1) := by decide +kernel
theorem dL_law_730 : decode cL_law 730 = .ok (.invokevirtual 76, 3) := by decide +kernel
theorem dL_law_733 : decode cL_law 733 = .ok (.iload 5, 2) := by decide +kernel
theorem dL_law_735 : decode cL_law 735 = .ok (.if_icmp .eq 5, 3) := by decide +kernel
theorem dL_law_738 : decode cL_law 738 = .ok (.iconst 0, 1) := by decide +kernel
theorem dL_law_739 : decode cL_law 739 = .ok (.ireturn, 1) := by decide +kernel
theorem dL_law_740 : decode cL_law 740 = .ok (.iload 5, 2) := by decide +kernel
theorem dL_law_742 : decode cL_law 742 = .ok (.ifCond .ne 15, 3) := by decide +kernel
theorem dL_law_745 : decode cL_law 745 = .ok (.aload_n 3, 1) := by decide +kernel
theorem dL_law_746 : decode cL_law 746 = .ok (.iconst 0, 1) := by decide +kernel
theorem dL_law_747 : decode cL_law 747 = .ok (.laload, 1) := by decide +kernel
theorem dL_law_748 : decode cL_law 748 = .ok (.iload 6, 2) := by decide +kernel
theorem dL_law_750 : decode cL_law 750 = .ok (.i2l, 1) := by decide +kernel
theorem dL_law_751 : decode cL_law 751 = .ok (.lcmp, 1) := by decide +kernel
theorem dL_law_752 : decode cL_law 752 = .ok (.ifCond .eq 5, 3) := by decide +kernel
theorem dL_law_755 : decode cL_law 755 = .ok (.iconst 0, 1) := by decide +kernel
theorem dL_law_756 : decode cL_law 756 = .ok (.ireturn, 1) := by decide +kernel
theorem dL_law_757 : decode cL_law 757 = .ok (.goto 480, 3) := by decide +kernel
theorem dL_law_760 : decode cL_law 760 = .ok (.aload_n 1, 1) := by decide +kernel
theorem dL_law_761 : decode cL_law 761 = .ok (.aload_n 0, 1) := by decide +kernel
theorem dL_law_762 : decode cL_law 762 = .ok (.iload 4, 2) := by decide +kernel
theorem dL_law_764 : decode cL_law 764 = .ok (.iconst 1, 1) := by decide +kernel
theorem dL_law_765 : decode cL_law 765 = .ok (.iadd, 1) := by decide +kernel
theorem dL_law_766 : decode cL_law 766 = .ok (.iaload, 1) := by decide +kernel
theorem dL_law_767 : decode cL_law 767 = .ok (.aload_n 0, 1) := by decide +kernel
theorem dL_law_768 : decode cL_law 768 = .ok (.iload 4, 2) := by decide +kernel
theorem dL_law_770 : decode cL_law 770 = .ok (.iconst 2, 1) := by decide +kernel
theorem dL_law_771 : decode cL_law 771 = .ok (.iadd, 1) := by decide +kernel
theorem dL_law_772 : decode cL_law 772 = .ok (.iaload, 1) := by decide +kernel
theorem dL_law_773 : decode cL_law 773 = .ok (.aload_n 3, 1) := by decide +kernel
theorem dL_law_774 : decode cL_law 774 = .ok (.invokestatic 124, 3) := by decide +kernel
theorem dL_law_777 : decode cL_law 777 = .ok (.istore 5, 2) := by decide +kernel
theorem dL_law_779 : decode cL_law 779 = .ok (.aload_n 2, 1) := by decide +kernel
theorem dL_law_780 : decode cL_law 780 = .ok (.aload_n 0, 1) := by decide +kernel
theorem dL_law_781 : decode cL_law 781 = .ok (.iload 4, 2) := by decide +kernel
theorem dL_law_783 : decode cL_law 783 = .ok (.iconst 1, 1) := by decide +kernel
theorem dL_law_784 : decode cL_law 784 = .ok (.iadd, 1) := by decide +kernel
theorem dL_law_785 : decode cL_law 785 = .ok (.iaload, 1) := by decide +kernel
theorem dL_law_786 : decode cL_law 786 = .ok (.aload_n 0, 1) := by decide +kernel
theorem dL_law_787 : decode cL_law 787 = .ok (.iload 4, 2) := by decide +kernel
theorem dL_law_789 : decode cL_law 789 = .ok (.iconst 2, 1) := by decide +kernel
theorem dL_law_790 : decode cL_law 790 = .ok (.iadd, 1) := by decide +kernel
theorem dL_law_791 : decode cL_law 791 = .ok (.iaload, 1) := by decide +kernel
theorem dL_law_792 : decode cL_law 792 = .ok (.invokevirtual 126, 3) := by decide +kernel
theorem dL_law_795 : decode cL_law 795 = .ok (.istore 6, 2) := by decide +kernel
theorem dL_law_797 : decode cL_law 797 = .ok (.aload_n 2, 1) := by decide +kernel
theorem dL_law_798 : decode cL_law 798 = .ok (.invokevirtual 76, 3) := by decide +kernel
theorem dL_law_801 : decode cL_law 801 = .ok (.iload 5, 2) := by decide +kernel
theorem dL_law_803 : decode cL_law 803 = .ok (.if_icmp .eq 5, 3) := by decide +kernel
theorem dL_law_806 : decode cL_law 806 = .ok (.iconst 0, 1) := by decide +kernel
theorem dL_law_807 : decode cL_law 807 = .ok (.ireturn, 1) := by decide +kernel
theorem dL_law_808 : decode cL_law 808 = .ok (.iload 5, 2) := by decide +kernel
theorem dL_law_810 : decode cL_law 810 = .ok (.ifCond .ne 15, 3) := by decide +kernel
theorem dL_law_813 : decode cL_law 813 = .ok (.aload_n 3, 1) := by decide +kernel
theorem dL_law_814 : decode cL_law 814 = .ok (.iconst 0, 1) := by decide +kernel
theorem dL_law_815 : decode cL_law 815 = .ok (.laload, 1) := by decide +kernel
theorem dL_law_816 : decode cL_law 816 = .ok (.iload 6, 2) := by decide +kernel
theorem dL_law_818 : decode cL_law 818 = .ok (.i2l, 1) := by decide +kernel
theorem dL_law_819 : decode cL_law 819 = .ok (.lcmp, 1) := by decide +kernel
theorem dL_law_820 : decode cL_law 820 = .ok (.ifCond .eq 5, 3) := by decide +kernel
theorem dL_law_823 : decode cL_law 823 = .ok (.iconst 0, 1) := by decide +kernel
theorem dL_law_824 : decode cL_law 824 = .ok (.ireturn, 1) := by decide +kernel
theorem dL_law_825 : decode cL_law 825 = .ok (.goto 412, 3) := by decide +kernel
theorem dL_law_828 : decode cL_law 828 = .ok (.aload_n 1, 1) := by decide +kernel
theorem dL_law_829 : decode cL_law 829 = .ok (.aload_n 0, 1) := by decide +kernel
theorem dL_law_830 : decode cL_law 830 = .ok (.iload 4, 2) := by decide +kernel
theorem dL_law_832 : decode cL_law 832 = .ok (.iconst 1, 1) := by decide +kernel
theorem dL_law_833 : decode cL_law 833 = .ok (.iadd, 1) := by decide +kernel
theorem dL_law_834 : decode cL_law 834 = .ok (.iaload, 1) := by decide +kernel
theorem dL_law_835 : decode cL_law 835 = .ok (.aload_n 0, 1) := by decide +kernel
theorem dL_law_836 : decode cL_law 836 = .ok (.iload 4, 2) := by decide +kernel
theorem dL_law_838 : decode cL_law 838 = .ok (.iconst 2, 1) := by decide +kernel
theorem dL_law_839 : decode cL_law 839 = .ok (.iadd, 1) := by decide +kernel
theorem dL_law_840 : decode cL_law 840 = .ok (.iaload, 1) := by decide +kernel
theorem dL_law_841 : decode cL_law 841 = .ok (.aload_n 3, 1) := by decide +kernel
theorem dL_law_842 : decode cL_law 842 = .ok (.invokestatic 127, 3) := by decide +kernel
theorem dL_law_845 : decode cL_law 845 = .ok (.istore 5, 2) := by decide +kernel
theorem dL_law_847 : decode cL_law 847 = .ok (.aload_n 2, 1) := by decide +kernel
theorem dL_law_848 : decode cL_law 848 = .ok (.aload_n 0, 1) := by decide +kernel
theorem dL_law_849 : decode cL_law 849 = .ok (.iload 4, 2) := by decide +kernel
theorem dL_law_851 : decode cL_law 851 = .ok (.iconst 1, 1) := by decide +kernel
theorem dL_law_852 : decode cL_law 852 = .ok (.iadd, 1) := by decide +kernel
theorem dL_law_853 : decode cL_law 853 = .ok (.iaload, 1) := by decide +kernel
theorem dL_law_854 : decode cL_law 854 = .ok (.aload_n 0, 1) := by decide +kernel
theorem dL_law_855 : decode cL_law 855 = .ok (.iload 4, 2) := by decide +kernel
theorem dL_law_857 : decode cL_law 857 = .ok (.iconst 2, 1) := by decide +kernel
theorem dL_law_858 : decode cL_law 858 = .ok (.iadd, 1) := by decide +kernel
theorem dL_law_859 : decode cL_law 859 = .ok (.iaload, 1) := by decide +kernel
theorem dL_law_860 : decode cL_law 860 = .ok (.invokevirtual 129, 3) := by decide +kernel
theorem dL_law_863 : decode cL_law 863 = .ok (.istore 6, 2) := by decide +kernel
theorem dL_law_865 : decode cL_law 865 = .ok (.aload_n 2, 1) := by decide +kernel
theorem dL_law_866 : decode cL_law 866 = .ok (.invokevirtual 76, 3) := by decide +kernel
theorem dL_law_869 : decode cL_law 869 = .ok (.iload 5, 2) := by decide +kernel
theorem dL_law_871 : decode cL_law 871 = .ok (.if_icmp .eq 5, 3) := by decide +kernel
theorem dL_law_874 : decode cL_law 874 = .ok (.iconst 0, 1) := by decide +kernel
theorem dL_law_875 : decode cL_law 875 = .ok (.ireturn, 1) := by decide +kernel
theorem dL_law_876 : decode cL_law 876 = .ok (.iload 5, 2) := by decide +kernel
theorem dL_law_878 : decode cL_law 878 = .ok (.ifCond .ne 15, 3) := by decide +kernel
theorem dL_law_881 : decode cL_law 881 = .ok (.aload_n 3, 1) := by decide +kernel
theorem dL_law_882 : decode cL_law 882 = .ok (.iconst 0, 1) := by decide +kernel
theorem dL_law_883 : decode cL_law 883 = .ok (.laload, 1) := by decide +kernel
theorem dL_law_884 : decode cL_law 884 = .ok (.iload 6, 2) := by decide +kernel
theorem dL_law_886 : decode cL_law 886 = .ok (.i2l, 1) := by decide +kernel
theorem dL_law_887 : decode cL_law 887 = .ok (.lcmp, 1) := by decide +kernel
theorem dL_law_888 : decode cL_law 888 = .ok (.ifCond .eq 5, 3) := by decide +kernel
theorem dL_law_891 : decode cL_law 891 = .ok (.iconst 0, 1) := by decide +kernel
theorem dL_law_892 : decode cL_law 892 = .ok (.ireturn, 1) := by decide +kernel
theorem dL_law_893 : decode cL_law 893 = .ok (.goto 344, 3) := by decide +kernel
theorem dL_law_896 : decode cL_law 896 = .ok (.aload_n 1, 1) := by decide +kernel
theorem dL_law_897 : decode cL_law 897 = .ok (.aload_n 0, 1) := by decide +kernel
theorem dL_law_898 : decode cL_law 898 = .ok (.iload 4, 2) := by decide +kernel
theorem dL_law_900 : decode cL_law 900 = .ok (.iconst 1, 1) := by decide +kernel
theorem dL_law_901 : decode cL_law 901 = .ok (.iadd, 1) := by decide +kernel
theorem dL_law_902 : decode cL_law 902 = .ok (.iaload, 1) := by decide +kernel
theorem dL_law_903 : decode cL_law 903 = .ok (.aload_n 0, 1) := by decide +kernel
theorem dL_law_904 : decode cL_law 904 = .ok (.iload 4, 2) := by decide +kernel
theorem dL_law_906 : decode cL_law 906 = .ok (.iconst 2, 1) := by decide +kernel
theorem dL_law_907 : decode cL_law 907 = .ok (.iadd, 1) := by decide +kernel
theorem dL_law_908 : decode cL_law 908 = .ok (.iaload, 1) := by decide +kernel
theorem dL_law_909 : decode cL_law 909 = .ok (.aload_n 3, 1) := by decide +kernel
theorem dL_law_910 : decode cL_law 910 = .ok (.invokestatic 130, 3) := by decide +kernel
theorem dL_law_913 : decode cL_law 913 = .ok (.istore 5, 2) := by decide +kernel
theorem dL_law_915 : decode cL_law 915 = .ok (.aload_n 2, 1) := by decide +kernel
theorem dL_law_916 : decode cL_law 916 = .ok (.aload_n 0, 1) := by decide +kernel
theorem dL_law_917 : decode cL_law 917 = .ok (.iload 4, 2) := by decide +kernel
theorem dL_law_919 : decode cL_law 919 = .ok (.iconst 1, 1) := by decide +kernel
theorem dL_law_920 : decode cL_law 920 = .ok (.iadd, 1) := by decide +kernel
theorem dL_law_921 : decode cL_law 921 = .ok (.iaload, 1) := by decide +kernel
theorem dL_law_922 : decode cL_law 922 = .ok (.aload_n 0, 1) := by decide +kernel
theorem dL_law_923 : decode cL_law 923 = .ok (.iload 4, 2) := by decide +kernel
theorem dL_law_925 : decode cL_law 925 = .ok (.iconst 2, 1) := by decide +kernel
theorem dL_law_926 : decode cL_law 926 = .ok (.iadd, 1) := by decide +kernel
theorem dL_law_927 : decode cL_law 927 = .ok (.iaload, 1) := by decide +kernel
theorem dL_law_928 : decode cL_law 928 = .ok (.invokevirtual 132, 3) := by decide +kernel
theorem dL_law_931 : decode cL_law 931 = .ok (.istore 6, 2) := by decide +kernel
theorem dL_law_933 : decode cL_law 933 = .ok (.aload_n 2, 1) := by decide +kernel
theorem dL_law_934 : decode cL_law 934 = .ok (.invokevirtual 76, 3) := by decide +kernel
theorem dL_law_937 : decode cL_law 937 = .ok (.iload 5, 2) := by decide +kernel
theorem dL_law_939 : decode cL_law 939 = .ok (.if_icmp .eq 5, 3) := by decide +kernel
theorem dL_law_942 : decode cL_law 942 = .ok (.iconst 0, 1) := by decide +kernel
theorem dL_law_943 : decode cL_law 943 = .ok (.ireturn, 1) := by decide +kernel
theorem dL_law_944 : decode cL_law 944 = .ok (.iload 5, 2) := by decide +kernel
theorem dL_law_946 : decode cL_law 946 = .ok (.ifCond .ne 15, 3) := by decide +kernel
theorem dL_law_949 : decode cL_law 949 = .ok (.aload_n 3, 1) := by decide +kernel
theorem dL_law_950 : decode cL_law 950 = .ok (.iconst 0, 1) := by decide +kernel
theorem dL_law_951 : decode cL_law 951 = .ok (.laload, 1) := by decide +kernel
theorem dL_law_952 : decode cL_law 952 = .ok (.iload 6, 2) := by decide +kernel
theorem dL_law_954 : decode cL_law 954 = .ok (.i2l, 1) := by decide +kernel
theorem dL_law_955 : decode cL_law 955 = .ok (.lcmp, 1) := by decide +kernel
theorem dL_law_956 : decode cL_law 956 = .ok (.ifCond .eq 5, 3) := by decide +kernel
theorem dL_law_959 : decode cL_law 959 = .ok (.iconst 0, 1) := by decide +kernel
theorem dL_law_960 : decode cL_law 960 = .ok (.ireturn, 1) := by decide +kernel
theorem dL_law_961 : decode cL_law 961 = .ok (.goto 276, 3) := by decide +kernel
theorem dL_law_964 : decode cL_law 964 = .ok (.aload_n 1, 1) := by decide +kernel
theorem dL_law_965 : decode cL_law 965 = .ok (.aload_n 0, 1) := by decide +kernel
theorem dL_law_966 : decode cL_law 966 = .ok (.iload 4, 2) := by decide +kernel
theorem dL_law_968 : decode cL_law 968 = .ok (.iconst 1, 1) := by decide +kernel
theorem dL_law_969 : decode cL_law 969 = .ok (.iadd, 1) := by decide +kernel
theorem dL_law_970 : decode cL_law 970 = .ok (.iaload, 1) := by decide +kernel
theorem dL_law_971 : decode cL_law 971 = .ok (.aload_n 3, 1) := by decide +kernel
theorem dL_law_972 : decode cL_law 972 = .ok (.invokestatic 133, 3) := by decide +kernel
theorem dL_law_975 : decode cL_law 975 = .ok (.istore 5, 2) := by decide +kernel
theorem dL_law_977 : decode cL_law 977 = .ok (.aload_n 2, 1) := by decide +kernel
theorem dL_law_978 : decode cL_law 978 = .ok (.aload_n 0, 1) := by decide +kernel
theorem dL_law_979 : decode cL_law 979 = .ok (.iload 4, 2) := by decide +kernel
theorem dL_law_981 : decode cL_law 981 = .ok (.iconst 1, 1) := by decide +kernel
theorem dL_law_982 : decode cL_law 982 = .ok (.iadd, 1) := by decide +kernel
theorem dL_law_983 : decode cL_law 983 = .ok (.iaload, 1) := by decide +kernel
theorem dL_law_984 : decode cL_law 984 = .ok (.invokevirtual 135, 3) := by decide +kernel
theorem dL_law_987 : decode cL_law 987 = .ok (.istore 6, 2) := by decide +kernel
theorem dL_law_989 : decode cL_law 989 = .ok (.aload_n 2, 1) := by decide +kernel
theorem dL_law_990 : decode cL_law 990 = .ok (.invokevirtual 76, 3) := by decide +kernel
theorem dL_law_993 : decode cL_law 993 = .ok (.iload 5, 2) := by decide +kernel
theorem dL_law_995 : decode cL_law 995 = .ok (.if_icmp .eq 5, 3) := by decide +kernel
theorem dL_law_998 : decode cL_law 998 = .ok (.iconst 0, 1) := by decide +kernel
theorem dL_law_999 : decode cL_law 999 = .ok (.ireturn, 1) := by decide +kernel
theorem dL_law_1000 : decode cL_law 1000 = .ok (.iload 5, 2) := by decide +kernel
theorem dL_law_1002 : decode cL_law 1002 = .ok (.ifCond .ne 15, 3) := by decide +kernel
theorem dL_law_1005 : decode cL_law 1005 = .ok (.aload_n 3, 1) := by decide +kernel
theorem dL_law_1006 : decode cL_law 1006 = .ok (.iconst 0, 1) := by decide +kernel
theorem dL_law_1007 : decode cL_law 1007 = .ok (.laload, 1) := by decide +kernel
theorem dL_law_1008 : decode cL_law 1008 = .ok (.iload 6, 2) := by decide +kernel
theorem dL_law_1010 : decode cL_law 1010 = .ok (.i2l, 1) := by decide +kernel
theorem dL_law_1011 : decode cL_law 1011 = .ok (.lcmp, 1) := by decide +kernel
theorem dL_law_1012 : decode cL_law 1012 = .ok (.ifCond .eq 5, 3) := by decide +kernel
theorem dL_law_1015 : decode cL_law 1015 = .ok (.iconst 0, 1) := by decide +kernel
theorem dL_law_1016 : decode cL_law 1016 = .ok (.ireturn, 1) := by decide +kernel
theorem dL_law_1017 : decode cL_law 1017 = .ok (.goto 220, 3) := by decide +kernel
theorem dL_law_1020 : decode cL_law 1020 = .ok (.aload_n 1, 1) := by decide +kernel
theorem dL_law_1021 : decode cL_law 1021 = .ok (.invokevirtual 136, 3) := by decide +kernel
theorem dL_law_1024 : decode cL_law 1024 = .ok (.aload_n 2, 1) := by decide +kernel
theorem dL_law_1025 : decode cL_law 1025 = .ok (.invokevirtual 139, 3) := by decide +kernel
theorem dL_law_1028 : decode cL_law 1028 = .ok (.if_icmp .eq 209, 3) := by decide +kernel
theorem dL_law_1031 : decode cL_law 1031 = .ok (.iconst 0, 1) := by decide +kernel
theorem dL_law_1032 : decode cL_law 1032 = .ok (.ireturn, 1) := by decide +kernel
theorem dL_law_1033 : decode cL_law 1033 = .ok (.aload_n 1, 1) := by decide +kernel
theorem dL_law_1034 : decode cL_law 1034 = .ok (.aload_n 0, 1) := by decide +kernel
theorem dL_law_1035 : decode cL_law 1035 = .ok (.iload 4, 2) := by decide +kernel
theorem dL_law_1037 : decode cL_law 1037 = .ok (.iconst 1, 1) := by decide +kernel
theorem dL_law_1038 : decode cL_law 1038 = .ok (.iadd, 1) := by decide +kernel
theorem dL_law_1039 : decode cL_law 1039 = .ok (.iaload, 1) := by decide +kernel
theorem dL_law_1040 : decode cL_law 1040 = .ok (.aload_n 0, 1) := by decide +kernel
theorem dL_law_1041 : decode cL_law 1041 = .ok (.iload 4, 2) := by decide +kernel
theorem dL_law_1043 : decode cL_law 1043 = .ok (.iconst 2, 1) := by decide +kernel
theorem dL_law_1044 : decode cL_law 1044 = .ok (.iadd, 1) := by decide +kernel
theorem dL_law_1045 : decode cL_law 1045 = .ok (.iaload, 1) := by decide +kernel
theorem dL_law_1046 : decode cL_law 1046 = .ok (.aload_n 3, 1) := by decide +kernel
theorem dL_law_1047 : decode cL_law 1047 = .ok (.invokestatic 140, 3) := by decide +kernel
theorem dL_law_1050 : decode cL_law 1050 = .ok (.istore 5, 2) := by decide +kernel
theorem dL_law_1052 : decode cL_law 1052 = .ok (.aload_n 2, 1) := by decide +kernel
theorem dL_law_1053 : decode cL_law 1053 = .ok (.aload_n 0, 1) := by decide +kernel
theorem dL_law_1054 : decode cL_law 1054 = .ok (.iload 4, 2) := by decide +kernel
theorem dL_law_1056 : decode cL_law 1056 = .ok (.iconst 1, 1) := by decide +kernel
theorem dL_law_1057 : decode cL_law 1057 = .ok (.iadd, 1) := by decide +kernel
theorem dL_law_1058 : decode cL_law 1058 = .ok (.iaload, 1) := by decide +kernel
theorem dL_law_1059 : decode cL_law 1059 = .ok (.aload_n 0, 1) := by decide +kernel
theorem dL_law_1060 : decode cL_law 1060 = .ok (.iload 4, 2) := by decide +kernel
theorem dL_law_1062 : decode cL_law 1062 = .ok (.iconst 2, 1) := by decide +kernel
theorem dL_law_1063 : decode cL_law 1063 = .ok (.iadd, 1) := by decide +kernel
theorem dL_law_1064 : decode cL_law 1064 = .ok (.iaload, 1) := by decide +kernel
theorem dL_law_1065 : decode cL_law 1065 = .ok (.invokevirtual 142, 3) := by decide +kernel
theorem dL_law_1068 : decode cL_law 1068 = .ok (.istore 6, 2) := by decide +kernel
theorem dL_law_1070 : decode cL_law 1070 = .ok (.aload_n 2, 1) := by decide +kernel
theorem dL_law_1071 : decode cL_law 1071 = .ok (.invokevirtual 76, 3) := by decide +kernel
theorem dL_law_1074 : decode cL_law 1074 = .ok (.iload 5, 2) := by decide +kernel
theorem dL_law_1076 : decode cL_law 1076 = .ok (.if_icmp .eq 5, 3) := by decide +kernel
theorem dL_law_1079 : decode cL_law 1079 = .ok (.iconst 0, 1) := by decide +kernel
theorem dL_law_1080 : decode cL_law 1080 = .ok (.ireturn, 1) := by decide +kernel
theorem dL_law_1081 : decode cL_law 1081 = .ok (.iload 5, 2) := by decide +kernel
theorem dL_law_1083 : decode cL_law 1083 = .ok (.ifCond .ne 15, 3) := by decide +kernel
theorem dL_law_1086 : decode cL_law 1086 = .ok (.aload_n 3, 1) := by decide +kernel
theorem dL_law_1087 : decode cL_law 1087 = .ok (.iconst 0, 1) := by decide +kernel
theorem dL_law_1088 : decode cL_law 1088 = .ok (.laload, 1) := by decide +kernel
theorem dL_law_1089 : decode cL_law 1089 = .ok (.iload 6, 2) := by decide +kernel
theorem dL_law_1091 : decode cL_law 1091 = .ok (.i2l, 1) := by decide +kernel
theorem dL_law_1092 : decode cL_law 1092 = .ok (.lcmp, 1) := by decide +kernel
theorem dL_law_1093 : decode cL_law 1093 = .ok (.ifCond .eq 5, 3) := by decide +kernel
theorem dL_law_1096 : decode cL_law 1096 = .ok (.iconst 0, 1) := by decide +kernel
theorem dL_law_1097 : decode cL_law 1097 = .ok (.ireturn, 1) := by decide +kernel
theorem dL_law_1098 : decode cL_law 1098 = .ok (.goto 139, 3) := by decide +kernel
theorem dL_law_1101 : decode cL_law 1101 = .ok (.aload_n 1, 1) := by decide +kernel
theorem dL_law_1102 : decode cL_law 1102 = .ok (.aload_n 0, 1) := by decide +kernel
theorem dL_law_1103 : decode cL_law 1103 = .ok (.iload 4, 2) := by decide +kernel
theorem dL_law_1105 : decode cL_law 1105 = .ok (.iconst 1, 1) := by decide +kernel
theorem dL_law_1106 : decode cL_law 1106 = .ok (.iadd, 1) := by decide +kernel
theorem dL_law_1107 : decode cL_law 1107 = .ok (.iaload, 1) := by decide +kernel
theorem dL_law_1108 : decode cL_law 1108 = .ok (.aload_n 0, 1) := by decide +kernel
theorem dL_law_1109 : decode cL_law 1109 = .ok (.iload 4, 2) := by decide +kernel
theorem dL_law_1111 : decode cL_law 1111 = .ok (.iconst 2, 1) := by decide +kernel
theorem dL_law_1112 : decode cL_law 1112 = .ok (.iadd, 1) := by decide +kernel
theorem dL_law_1113 : decode cL_law 1113 = .ok (.iaload, 1) := by decide +kernel
theorem dL_law_1114 : decode cL_law 1114 = .ok (.aload_n 3, 1) := by decide +kernel
theorem dL_law_1115 : decode cL_law 1115 = .ok (.invokestatic 143, 3) := by decide +kernel
theorem dL_law_1118 : decode cL_law 1118 = .ok (.istore 5, 2) := by decide +kernel
theorem dL_law_1120 : decode cL_law 1120 = .ok (.aload_n 2, 1) := by decide +kernel
theorem dL_law_1121 : decode cL_law 1121 = .ok (.aload_n 0, 1) := by decide +kernel
theorem dL_law_1122 : decode cL_law 1122 = .ok (.iload 4, 2) := by decide +kernel
theorem dL_law_1124 : decode cL_law 1124 = .ok (.iconst 1, 1) := by decide +kernel
theorem dL_law_1125 : decode cL_law 1125 = .ok (.iadd, 1) := by decide +kernel
theorem dL_law_1126 : decode cL_law 1126 = .ok (.iaload, 1) := by decide +kernel
theorem dL_law_1127 : decode cL_law 1127 = .ok (.aload_n 0, 1) := by decide +kernel
theorem dL_law_1128 : decode cL_law 1128 = .ok (.iload 4, 2) := by decide +kernel
theorem dL_law_1130 : decode cL_law 1130 = .ok (.iconst 2, 1) := by decide +kernel
theorem dL_law_1131 : decode cL_law 1131 = .ok (.iadd, 1) := by decide +kernel
theorem dL_law_1132 : decode cL_law 1132 = .ok (.iaload, 1) := by decide +kernel
theorem dL_law_1133 : decode cL_law 1133 = .ok (.invokevirtual 145, 3) := by decide +kernel
theorem dL_law_1136 : decode cL_law 1136 = .ok (.istore 6, 2) := by decide +kernel
theorem dL_law_1138 : decode cL_law 1138 = .ok (.aload_n 2, 1) := by decide +kernel
theorem dL_law_1139 : decode cL_law 1139 = .ok (.invokevirtual 76, 3) := by decide +kernel
theorem dL_law_1142 : decode cL_law 1142 = .ok (.iload 5, 2) := by decide +kernel
theorem dL_law_1144 : decode cL_law 1144 = .ok (.if_icmp .eq 5, 3) := by decide +kernel
theorem dL_law_1147 : decode cL_law 1147 = .ok (.iconst 0, 1) := by decide +kernel
theorem dL_law_1148 : decode cL_law 1148 = .ok (.ireturn, 1) := by decide +kernel
theorem dL_law_1149 : decode cL_law 1149 = .ok (.iload 5, 2) := by decide +kernel
theorem dL_law_1151 : decode cL_law 1151 = .ok (.ifCond .ne 15, 3) := by decide +kernel
theorem dL_law_1154 : decode cL_law 1154 = .ok (.aload_n 3, 1) := by decide +kernel
theorem dL_law_1155 : decode cL_law 1155 = .ok (.iconst 0, 1) := by decide +kernel
theorem dL_law_1156 : decode cL_law 1156 = .ok (.laload, 1) := by decide +kernel
theorem dL_law_1157 : decode cL_law 1157 = .ok (.iload 6, 2) := by decide +kernel
theorem dL_law_1159 : decode cL_law 1159 = .ok (.i2l, 1) := by decide +kernel
theorem dL_law_1160 : decode cL_law 1160 = .ok (.lcmp, 1) := by decide +kernel
theorem dL_law_1161 : decode cL_law 1161 = .ok (.ifCond .eq 5, 3) := by decide +kernel
theorem dL_law_1164 : decode cL_law 1164 = .ok (.iconst 0, 1) := by decide +kernel
theorem dL_law_1165 : decode cL_law 1165 = .ok (.ireturn, 1) := by decide +kernel
theorem dL_law_1166 : decode cL_law 1166 = .ok (.goto 71, 3) := by decide +kernel
theorem dL_law_1169 : decode cL_law 1169 = .ok (.aload_n 1, 1) := by decide +kernel
theorem dL_law_1170 : decode cL_law 1170 = .ok (.invokevirtual 146, 3) := by decide +kernel
theorem dL_law_1173 : decode cL_law 1173 = .ok (.aload_n 2, 1) := by decide +kernel
theorem dL_law_1174 : decode cL_law 1174 = .ok (.invokevirtual 149, 3) := by decide +kernel
theorem dL_law_1177 : decode cL_law 1177 = .ok (.if_icmp .eq 60, 3) := by decide +kernel
theorem dL_law_1180 : decode cL_law 1180 = .ok (.iconst 0, 1) := by decide +kernel
theorem dL_law_1181 : decode cL_law 1181 = .ok (.ireturn, 1) := by decide +kernel
theorem dL_law_1182 : decode cL_law 1182 = .ok (.aload_n 1, 1) := by decide +kernel
theorem dL_law_1183 : decode cL_law 1183 = .ok (.invokevirtual 150, 3) := by decide +kernel
theorem dL_law_1186 : decode cL_law 1186 = .ok (.dstore 5, 2) := by decide +kernel
theorem dL_law_1188 : decode cL_law 1188 = .ok (.aload_n 2, 1) := by decide +kernel
theorem dL_law_1189 : decode cL_law 1189 = .ok (.invokevirtual 154, 3) := by decide +kernel
theorem dL_law_1192 : decode cL_law 1192 = .ok (.dstore 7, 2) := by decide +kernel
theorem dL_law_1194 : decode cL_law 1194 = .ok (.dload 5, 2) := by decide +kernel
theorem dL_law_1196 : decode cL_law 1196 = .ok (.dload 7, 2) := by decide +kernel
theorem dL_law_1198 : decode cL_law 1198 = .ok (.dcmp .l, 1) := by decide +kernel
theorem dL_law_1199 : decode cL_law 1199 = .ok (.ifCond .eq 21, 3) := by decide +kernel
theorem dL_law_1202 : decode cL_law 1202 = .ok (.dload 5, 2) := by decide +kernel
theorem dL_law_1204 : decode cL_law 1204 = .ok (.dload 5, 2) := by decide +kernel
theorem dL_law_1206 : decode cL_law 1206 = .ok (.dcmp .l, 1) := by decide +kernel
theorem dL_law_1207 : decode cL_law 1207 = .ok (.ifCond .eq 11, 3) := by decide +kernel
theorem dL_law_1210 : decode cL_law 1210 = .ok (.dload 7, 2) := by decide +kernel
theorem dL_law_1212 : decode cL_law 1212 = .ok (.dload 7, 2) := by decide +kernel
theorem dL_law_1214 : decode cL_law 1214 = .ok (.dcmp .l, 1) := by decide +kernel
theorem dL_law_1215 : decode cL_law 1215 = .ok (.ifCond .ne 5, 3) := by decide +kernel
theorem dL_law_1218 : decode cL_law 1218 = .ok (.iconst 0, 1) := by decide +kernel
theorem dL_law_1219 : decode cL_law 1219 = .ok (.ireturn, 1) := by decide +kernel
theorem dL_law_1220 : decode cL_law 1220 = .ok (.goto 17, 3) := by decide +kernel
theorem dL_law_1223 : decode cL_law 1223 = .ok (.aload_n 1, 1) := by decide +kernel
theorem dL_law_1224 : decode cL_law 1224 = .ok (.invokevirtual 155, 3) := by decide +kernel
theorem dL_law_1227 : decode cL_law 1227 = .ok (.aload_n 2, 1) := by decide +kernel
theorem dL_law_1228 : decode cL_law 1228 = .ok (.invokevirtual 159, 3) := by decide +kernel
theorem dL_law_1231 : decode cL_law 1231 = .ok (.lcmp, 1) := by decide +kernel
theorem dL_law_1232 : decode cL_law 1232 = .ok (.ifCond .eq 5, 3) := by decide +kernel
theorem dL_law_1235 : decode cL_law 1235 = .ok (.iconst 0, 1) := by decide +kernel
theorem dL_law_1236 : decode cL_law 1236 = .ok (.ireturn, 1) := by decide +kernel
theorem dL_law_1237 : decode cL_law 1237 = .ok (.iinc 4 3, 3) := by decide +kernel
theorem dL_law_1240 : decode cL_law 1240 = .ok (.goto (-1217), 3) := by decide +kernel
theorem dL_law_1243 : decode cL_law 1243 = .ok (.iconst 1, 1) := by decide +kernel
theorem dL_law_1244 : decode cL_law 1244 = .ok (.ireturn, 1) := by decide +kernel
end
