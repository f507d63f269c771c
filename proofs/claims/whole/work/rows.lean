section
-- ===== PART A: goes FIRST, ahead of the names: the tables' words, and 'selects' of the private methods out of them =====
/-- a private method of a class that the tables say can be made, by its rows of tables_1 -/
def lw_okq (q : MethodName × Nat) : Prop := (q.1.cls ≠ "java/lang/invoke/MethodHandle" ∧ q.1.cls ≠ "java/lang/invoke/VarHandle") ∧ Cond.instantiable q.1.cls q.2 ∈ tables_1 ∧ Cond.privateMethod q.1 ∈ tables_1 ∧ Cond.instanceMethod q.1 ∈ tables_1
theorem lw_p0 : lw_okq (⟨"java/lang/Throwable", "fillInStackTrace", "(I)Ljava/lang/Throwable;"⟩, 6) := ⟨⟨by decide +kernel, by decide +kernel⟩, List.mem_of_getElem? (i := 93) (by decide +kernel), List.mem_of_getElem? (i := 91) (by decide +kernel), List.mem_of_getElem? (i := 92) (by decide +kernel)⟩
theorem lw_p1 : lw_okq (⟨"RealSteps", "write", "(ILRealSteps$Real;)V"⟩, 7) := ⟨⟨by decide +kernel, by decide +kernel⟩, List.mem_of_getElem? (i := 15) (by decide +kernel), List.mem_of_getElem? (i := 167) (by decide +kernel), List.mem_of_getElem? (i := 168) (by decide +kernel)⟩
theorem lw_p2 : lw_okq (⟨"RealSteps", "read", "(I)LRealSteps$Real;"⟩, 7) := ⟨⟨by decide +kernel, by decide +kernel⟩, List.mem_of_getElem? (i := 15) (by decide +kernel), List.mem_of_getElem? (i := 207) (by decide +kernel), List.mem_of_getElem? (i := 208) (by decide +kernel)⟩
theorem lw_p3 : lw_okq (⟨"RealSteps", "goesOn", "(LRealSteps$Real;LRealSteps$Real;ZZ)Z"⟩, 7) := ⟨⟨by decide +kernel, by decide +kernel⟩, List.mem_of_getElem? (i := 15) (by decide +kernel), List.mem_of_getElem? (i := 211) (by decide +kernel), List.mem_of_getElem? (i := 212) (by decide +kernel)⟩
theorem lw_p4 : lw_okq (⟨"RealSteps$Real", "isOf", "(LRealSteps$Kind;)Z"⟩, 2) := ⟨⟨by decide +kernel, by decide +kernel⟩, List.mem_of_getElem? (i := 151) (by decide +kernel), List.mem_of_getElem? (i := 217) (by decide +kernel), List.mem_of_getElem? (i := 218) (by decide +kernel)⟩
theorem lw_p5 : lw_okq (⟨"RealSteps$Real", "kind", "()LRealSteps$Kind;"⟩, 2) := ⟨⟨by decide +kernel, by decide +kernel⟩, List.mem_of_getElem? (i := 151) (by decide +kernel), List.mem_of_getElem? (i := 221) (by decide +kernel), List.mem_of_getElem? (i := 222) (by decide +kernel)⟩
theorem lw_p6 : lw_okq (⟨"RealSteps$Real", "power", "()I"⟩, 2) := ⟨⟨by decide +kernel, by decide +kernel⟩, List.mem_of_getElem? (i := 151) (by decide +kernel), List.mem_of_getElem? (i := 225) (by decide +kernel), List.mem_of_getElem? (i := 226) (by decide +kernel)⟩
theorem lw_p7 : lw_okq (⟨"RealSteps", "tellAtFirst", "(I)V"⟩, 7) := ⟨⟨by decide +kernel, by decide +kernel⟩, List.mem_of_getElem? (i := 15) (by decide +kernel), List.mem_of_getElem? (i := 240) (by decide +kernel), List.mem_of_getElem? (i := 241) (by decide +kernel)⟩
theorem lw_p8 : lw_okq (⟨"RealSteps", "isMasked", "(I)Z"⟩, 7) := ⟨⟨by decide +kernel, by decide +kernel⟩, List.mem_of_getElem? (i := 15) (by decide +kernel), List.mem_of_getElem? (i := 244) (by decide +kernel), List.mem_of_getElem? (i := 245) (by decide +kernel)⟩
theorem lw_p9 : lw_okq (⟨"RealSteps", "wholeOf", "(LRealSteps$Real;)LRealSteps$Real;"⟩, 7) := ⟨⟨by decide +kernel, by decide +kernel⟩, List.mem_of_getElem? (i := 15) (by decide +kernel), List.mem_of_getElem? (i := 249) (by decide +kernel), List.mem_of_getElem? (i := 250) (by decide +kernel)⟩
theorem lw_p10 : lw_okq (⟨"RealSteps$Real", "isNegative", "()Z"⟩, 2) := ⟨⟨by decide +kernel, by decide +kernel⟩, List.mem_of_getElem? (i := 151) (by decide +kernel), List.mem_of_getElem? (i := 254) (by decide +kernel), List.mem_of_getElem? (i := 255) (by decide +kernel)⟩
theorem lw_p11 : lw_okq (⟨"RealSteps$Real", "exponent", "()I"⟩, 2) := ⟨⟨by decide +kernel, by decide +kernel⟩, List.mem_of_getElem? (i := 151) (by decide +kernel), List.mem_of_getElem? (i := 259) (by decide +kernel), List.mem_of_getElem? (i := 260) (by decide +kernel)⟩
theorem lw_p12 : lw_okq (⟨"RealSteps$Real", "unit", "()I"⟩, 2) := ⟨⟨by decide +kernel, by decide +kernel⟩, List.mem_of_getElem? (i := 151) (by decide +kernel), List.mem_of_getElem? (i := 263) (by decide +kernel), List.mem_of_getElem? (i := 264) (by decide +kernel)⟩
theorem lw_p13 : lw_okq (⟨"RealSteps$Real", "isNought", "()Z"⟩, 2) := ⟨⟨by decide +kernel, by decide +kernel⟩, List.mem_of_getElem? (i := 151) (by decide +kernel), List.mem_of_getElem? (i := 277) (by decide +kernel), List.mem_of_getElem? (i := 278) (by decide +kernel)⟩
theorem lw_p14 : lw_okq (⟨"RealSteps", "make", "(ZJI)LRealSteps$Real;"⟩, 7) := ⟨⟨by decide +kernel, by decide +kernel⟩, List.mem_of_getElem? (i := 15) (by decide +kernel), List.mem_of_getElem? (i := 282) (by decide +kernel), List.mem_of_getElem? (i := 283) (by decide +kernel)⟩
theorem lw_p15 : lw_okq (⟨"RealSteps", "makeUnder", "(ZIJ)LRealSteps$Real;"⟩, 7) := ⟨⟨by decide +kernel, by decide +kernel⟩, List.mem_of_getElem? (i := 15) (by decide +kernel), List.mem_of_getElem? (i := 293) (by decide +kernel), List.mem_of_getElem? (i := 294) (by decide +kernel)⟩
def lw_privs_1 : List (MethodName × Nat) := [(⟨"java/lang/Throwable", "fillInStackTrace", "(I)Ljava/lang/Throwable;"⟩, 6), (⟨"RealSteps", "write", "(ILRealSteps$Real;)V"⟩, 7), (⟨"RealSteps", "read", "(I)LRealSteps$Real;"⟩, 7), (⟨"RealSteps", "goesOn", "(LRealSteps$Real;LRealSteps$Real;ZZ)Z"⟩, 7), (⟨"RealSteps$Real", "isOf", "(LRealSteps$Kind;)Z"⟩, 2), (⟨"RealSteps$Real", "kind", "()LRealSteps$Kind;"⟩, 2), (⟨"RealSteps$Real", "power", "()I"⟩, 2), (⟨"RealSteps", "tellAtFirst", "(I)V"⟩, 7), (⟨"RealSteps", "isMasked", "(I)Z"⟩, 7), (⟨"RealSteps", "wholeOf", "(LRealSteps$Real;)LRealSteps$Real;"⟩, 7), (⟨"RealSteps$Real", "isNegative", "()Z"⟩, 2), (⟨"RealSteps$Real", "exponent", "()I"⟩, 2), (⟨"RealSteps$Real", "unit", "()I"⟩, 2), (⟨"RealSteps$Real", "isNought", "()Z"⟩, 2), (⟨"RealSteps", "make", "(ZJI)LRealSteps$Real;"⟩, 7), (⟨"RealSteps", "makeUnder", "(ZIJ)LRealSteps$Real;"⟩, 7)]
theorem lw_r1 : ∀ q ∈ lw_privs_1, lw_okq q := List.forall_mem_cons.mpr ⟨lw_p0, List.forall_mem_cons.mpr ⟨lw_p1, List.forall_mem_cons.mpr ⟨lw_p2, List.forall_mem_cons.mpr ⟨lw_p3, List.forall_mem_cons.mpr ⟨lw_p4, List.forall_mem_cons.mpr ⟨lw_p5, List.forall_mem_cons.mpr ⟨lw_p6, List.forall_mem_cons.mpr ⟨lw_p7, List.forall_mem_cons.mpr ⟨lw_p8, List.forall_mem_cons.mpr ⟨lw_p9, List.forall_mem_cons.mpr ⟨lw_p10, List.forall_mem_cons.mpr ⟨lw_p11, List.forall_mem_cons.mpr ⟨lw_p12, List.forall_mem_cons.mpr ⟨lw_p13, List.forall_mem_cons.mpr ⟨lw_p14, List.forall_mem_cons.mpr ⟨lw_p15, fun _ h => absurd h List.not_mem_nil⟩⟩⟩⟩⟩⟩⟩⟩⟩⟩⟩⟩⟩⟩⟩⟩
theorem lw_p16 : lw_okq (⟨"RealSteps", "rounded", "(ZJI)J"⟩, 7) := ⟨⟨by decide +kernel, by decide +kernel⟩, List.mem_of_getElem? (i := 15) (by decide +kernel), List.mem_of_getElem? (i := 303) (by decide +kernel), List.mem_of_getElem? (i := 304) (by decide +kernel)⟩
theorem lw_p17 : lw_okq (⟨"RealSteps", "isRoundedAway", "(ZJIJ)Z"⟩, 7) := ⟨⟨by decide +kernel, by decide +kernel⟩, List.mem_of_getElem? (i := 15) (by decide +kernel), List.mem_of_getElem? (i := 307) (by decide +kernel), List.mem_of_getElem? (i := 308) (by decide +kernel)⟩
theorem lw_p18 : lw_okq (⟨"RealSteps", "rounding", "()I"⟩, 7) := ⟨⟨by decide +kernel, by decide +kernel⟩, List.mem_of_getElem? (i := 15) (by decide +kernel), List.mem_of_getElem? (i := 311) (by decide +kernel), List.mem_of_getElem? (i := 312) (by decide +kernel)⟩
theorem lw_p19 : lw_okq (⟨"RealSteps", "makeOver", "(ZIJ)LRealSteps$Real;"⟩, 7) := ⟨⟨by decide +kernel, by decide +kernel⟩, List.mem_of_getElem? (i := 15) (by decide +kernel), List.mem_of_getElem? (i := 325) (by decide +kernel), List.mem_of_getElem? (i := 326) (by decide +kernel)⟩
theorem lw_p20 : lw_okq (⟨"RealSteps$Real", "normalised", "()J"⟩, 2) := ⟨⟨by decide +kernel, by decide +kernel⟩, List.mem_of_getElem? (i := 151) (by decide +kernel), List.mem_of_getElem? (i := 334) (by decide +kernel), List.mem_of_getElem? (i := 335) (by decide +kernel)⟩
theorem lw_p21 : lw_okq (⟨"RealSteps", "scaled", "(LRealSteps$Real;LRealSteps$Real;)LRealSteps$Real;"⟩, 7) := ⟨⟨by decide +kernel, by decide +kernel⟩, List.mem_of_getElem? (i := 15) (by decide +kernel), List.mem_of_getElem? (i := 355) (by decide +kernel), List.mem_of_getElem? (i := 356) (by decide +kernel)⟩
theorem lw_p22 : lw_okq (⟨"RealSteps", "powerOf", "(LRealSteps$Real;)LRealSteps$Real;"⟩, 7) := ⟨⟨by decide +kernel, by decide +kernel⟩, List.mem_of_getElem? (i := 15) (by decide +kernel), List.mem_of_getElem? (i := 370) (by decide +kernel), List.mem_of_getElem? (i := 371) (by decide +kernel)⟩
theorem lw_p23 : lw_okq (⟨"RealSteps", "fractionOf", "(LRealSteps$Real;)LRealSteps$Real;"⟩, 7) := ⟨⟨by decide +kernel, by decide +kernel⟩, List.mem_of_getElem? (i := 15) (by decide +kernel), List.mem_of_getElem? (i := 377) (by decide +kernel), List.mem_of_getElem? (i := 378) (by decide +kernel)⟩
theorem lw_p24 : lw_okq (⟨"RealSteps", "leftOver", "(LRealSteps$Real;LRealSteps$Real;)LRealSteps$Real;"⟩, 7) := ⟨⟨by decide +kernel, by decide +kernel⟩, List.mem_of_getElem? (i := 15) (by decide +kernel), List.mem_of_getElem? (i := 389) (by decide +kernel), List.mem_of_getElem? (i := 390) (by decide +kernel)⟩
theorem lw_p25 : lw_okq (⟨"RealSteps", "divide", "(JJI)J"⟩, 7) := ⟨⟨by decide +kernel, by decide +kernel⟩, List.mem_of_getElem? (i := 15) (by decide +kernel), List.mem_of_getElem? (i := 393) (by decide +kernel), List.mem_of_getElem? (i := 394) (by decide +kernel)⟩
theorem lw_p26 : lw_okq (⟨"RealSteps", "order", "(LRealSteps$Real;LRealSteps$Real;)I"⟩, 7) := ⟨⟨by decide +kernel, by decide +kernel⟩, List.mem_of_getElem? (i := 15) (by decide +kernel), List.mem_of_getElem? (i := 404) (by decide +kernel), List.mem_of_getElem? (i := 405) (by decide +kernel)⟩
theorem lw_p27 : lw_okq (⟨"RealSteps$Real", "side", "()I"⟩, 2) := ⟨⟨by decide +kernel, by decide +kernel⟩, List.mem_of_getElem? (i := 151) (by decide +kernel), List.mem_of_getElem? (i := 408) (by decide +kernel), List.mem_of_getElem? (i := 409) (by decide +kernel)⟩
theorem lw_p28 : lw_okq (⟨"RealStepsModel", "begin", "()V"⟩, 13) := ⟨⟨by decide +kernel, by decide +kernel⟩, List.mem_of_getElem? (i := 440) (by decide +kernel), List.mem_of_getElem? (i := 527) (by decide +kernel), List.mem_of_getElem? (i := 528) (by decide +kernel)⟩
theorem lw_p29 : lw_okq (⟨"RealStepsModel", "goesOn", "(IIZ)Z"⟩, 13) := ⟨⟨by decide +kernel, by decide +kernel⟩, List.mem_of_getElem? (i := 440) (by decide +kernel), List.mem_of_getElem? (i := 531) (by decide +kernel), List.mem_of_getElem? (i := 532) (by decide +kernel)⟩
theorem lw_p30 : lw_okq (⟨"RealStepsModel", "kind", "(I)I"⟩, 13) := ⟨⟨by decide +kernel, by decide +kernel⟩, List.mem_of_getElem? (i := 440) (by decide +kernel), List.mem_of_getElem? (i := 535) (by decide +kernel), List.mem_of_getElem? (i := 536) (by decide +kernel)⟩
theorem lw_p31 : lw_okq (⟨"RealStepsModel", "minus", "(I)Z"⟩, 13) := ⟨⟨by decide +kernel, by decide +kernel⟩, List.mem_of_getElem? (i := 440) (by decide +kernel), List.mem_of_getElem? (i := 542) (by decide +kernel), List.mem_of_getElem? (i := 543) (by decide +kernel)⟩
def lw_privs_2 : List (MethodName × Nat) := [(⟨"RealSteps", "rounded", "(ZJI)J"⟩, 7), (⟨"RealSteps", "isRoundedAway", "(ZJIJ)Z"⟩, 7), (⟨"RealSteps", "rounding", "()I"⟩, 7), (⟨"RealSteps", "makeOver", "(ZIJ)LRealSteps$Real;"⟩, 7), (⟨"RealSteps$Real", "normalised", "()J"⟩, 2), (⟨"RealSteps", "scaled", "(LRealSteps$Real;LRealSteps$Real;)LRealSteps$Real;"⟩, 7), (⟨"RealSteps", "powerOf", "(LRealSteps$Real;)LRealSteps$Real;"⟩, 7), (⟨"RealSteps", "fractionOf", "(LRealSteps$Real;)LRealSteps$Real;"⟩, 7), (⟨"RealSteps", "leftOver", "(LRealSteps$Real;LRealSteps$Real;)LRealSteps$Real;"⟩, 7), (⟨"RealSteps", "divide", "(JJI)J"⟩, 7), (⟨"RealSteps", "order", "(LRealSteps$Real;LRealSteps$Real;)I"⟩, 7), (⟨"RealSteps$Real", "side", "()I"⟩, 2), (⟨"RealStepsModel", "begin", "()V"⟩, 13), (⟨"RealStepsModel", "goesOn", "(IIZ)Z"⟩, 13), (⟨"RealStepsModel", "kind", "(I)I"⟩, 13), (⟨"RealStepsModel", "minus", "(I)Z"⟩, 13)]
theorem lw_r2 : ∀ q ∈ lw_privs_2, lw_okq q := List.forall_mem_cons.mpr ⟨lw_p16, List.forall_mem_cons.mpr ⟨lw_p17, List.forall_mem_cons.mpr ⟨lw_p18, List.forall_mem_cons.mpr ⟨lw_p19, List.forall_mem_cons.mpr ⟨lw_p20, List.forall_mem_cons.mpr ⟨lw_p21, List.forall_mem_cons.mpr ⟨lw_p22, List.forall_mem_cons.mpr ⟨lw_p23, List.forall_mem_cons.mpr ⟨lw_p24, List.forall_mem_cons.mpr ⟨lw_p25, List.forall_mem_cons.mpr ⟨lw_p26, List.forall_mem_cons.mpr ⟨lw_p27, List.forall_mem_cons.mpr ⟨lw_p28, List.forall_mem_cons.mpr ⟨lw_p29, List.forall_mem_cons.mpr ⟨lw_p30, List.forall_mem_cons.mpr ⟨lw_p31, fun _ h => absurd h List.not_mem_nil⟩⟩⟩⟩⟩⟩⟩⟩⟩⟩⟩⟩⟩⟩⟩⟩
theorem lw_p32 : lw_okq (⟨"RealStepsModel", "tell", "(I)Z"⟩, 13) := ⟨⟨by decide +kernel, by decide +kernel⟩, List.mem_of_getElem? (i := 440) (by decide +kernel), List.mem_of_getElem? (i := 546) (by decide +kernel), List.mem_of_getElem? (i := 547) (by decide +kernel)⟩
theorem lw_p33 : lw_okq (⟨"RealStepsModel", "masked", "(I)Z"⟩, 13) := ⟨⟨by decide +kernel, by decide +kernel⟩, List.mem_of_getElem? (i := 440) (by decide +kernel), List.mem_of_getElem? (i := 550) (by decide +kernel), List.mem_of_getElem? (i := 551) (by decide +kernel)⟩
theorem lw_p34 : lw_okq (⟨"RealStepsModel", "answer", "(IJ)V"⟩, 13) := ⟨⟨by decide +kernel, by decide +kernel⟩, List.mem_of_getElem? (i := 440) (by decide +kernel), List.mem_of_getElem? (i := 554) (by decide +kernel), List.mem_of_getElem? (i := 555) (by decide +kernel)⟩
theorem lw_p35 : lw_okq (⟨"RealStepsModel", "unit", "(I)I"⟩, 13) := ⟨⟨by decide +kernel, by decide +kernel⟩, List.mem_of_getElem? (i := 440) (by decide +kernel), List.mem_of_getElem? (i := 559) (by decide +kernel), List.mem_of_getElem? (i := 560) (by decide +kernel)⟩
theorem lw_p36 : lw_okq (⟨"RealStepsModel", "make", "(ZJI)V"⟩, 13) := ⟨⟨by decide +kernel, by decide +kernel⟩, List.mem_of_getElem? (i := 440) (by decide +kernel), List.mem_of_getElem? (i := 563) (by decide +kernel), List.mem_of_getElem? (i := 564) (by decide +kernel)⟩
theorem lw_p37 : lw_okq (⟨"RealStepsModel", "rounded", "(JIZ)J"⟩, 13) := ⟨⟨by decide +kernel, by decide +kernel⟩, List.mem_of_getElem? (i := 440) (by decide +kernel), List.mem_of_getElem? (i := 568) (by decide +kernel), List.mem_of_getElem? (i := 569) (by decide +kernel)⟩
theorem lw_p38 : lw_okq (⟨"RealStepsModel", "way", "()I"⟩, 13) := ⟨⟨by decide +kernel, by decide +kernel⟩, List.mem_of_getElem? (i := 440) (by decide +kernel), List.mem_of_getElem? (i := 573) (by decide +kernel), List.mem_of_getElem? (i := 574) (by decide +kernel)⟩
theorem lw_p39 : lw_okq (⟨"RealStepsModel", "keep", "(I)V"⟩, 13) := ⟨⟨by decide +kernel, by decide +kernel⟩, List.mem_of_getElem? (i := 440) (by decide +kernel), List.mem_of_getElem? (i := 578) (by decide +kernel), List.mem_of_getElem? (i := 579) (by decide +kernel)⟩
theorem lw_p40 : lw_okq (⟨"RealStepsModel", "nothing", "(I)Z"⟩, 13) := ⟨⟨by decide +kernel, by decide +kernel⟩, List.mem_of_getElem? (i := 440) (by decide +kernel), List.mem_of_getElem? (i := 586) (by decide +kernel), List.mem_of_getElem? (i := 587) (by decide +kernel)⟩
theorem lw_p41 : lw_okq (⟨"RealStepsModel", "apart", "(I)V"⟩, 13) := ⟨⟨by decide +kernel, by decide +kernel⟩, List.mem_of_getElem? (i := 440) (by decide +kernel), List.mem_of_getElem? (i := 590) (by decide +kernel), List.mem_of_getElem? (i := 591) (by decide +kernel)⟩
theorem lw_p42 : lw_okq (⟨"RealStepsModel", "divide", "(II)V"⟩, 13) := ⟨⟨by decide +kernel, by decide +kernel⟩, List.mem_of_getElem? (i := 440) (by decide +kernel), List.mem_of_getElem? (i := 602) (by decide +kernel), List.mem_of_getElem? (i := 603) (by decide +kernel)⟩
theorem lw_p43 : lw_okq (⟨"RealStepsModel", "compared", "(IZI)I"⟩, 13) := ⟨⟨by decide +kernel, by decide +kernel⟩, List.mem_of_getElem? (i := 440) (by decide +kernel), List.mem_of_getElem? (i := 610) (by decide +kernel), List.mem_of_getElem? (i := 611) (by decide +kernel)⟩
theorem lw_p44 : lw_okq (⟨"RealStepsModel", "order", "(IZI)I"⟩, 13) := ⟨⟨by decide +kernel, by decide +kernel⟩, List.mem_of_getElem? (i := 440) (by decide +kernel), List.mem_of_getElem? (i := 614) (by decide +kernel), List.mem_of_getElem? (i := 615) (by decide +kernel)⟩
def lw_privs_3 : List (MethodName × Nat) := [(⟨"RealStepsModel", "tell", "(I)Z"⟩, 13), (⟨"RealStepsModel", "masked", "(I)Z"⟩, 13), (⟨"RealStepsModel", "answer", "(IJ)V"⟩, 13), (⟨"RealStepsModel", "unit", "(I)I"⟩, 13), (⟨"RealStepsModel", "make", "(ZJI)V"⟩, 13), (⟨"RealStepsModel", "rounded", "(JIZ)J"⟩, 13), (⟨"RealStepsModel", "way", "()I"⟩, 13), (⟨"RealStepsModel", "keep", "(I)V"⟩, 13), (⟨"RealStepsModel", "nothing", "(I)Z"⟩, 13), (⟨"RealStepsModel", "apart", "(I)V"⟩, 13), (⟨"RealStepsModel", "divide", "(II)V"⟩, 13), (⟨"RealStepsModel", "compared", "(IZI)I"⟩, 13), (⟨"RealStepsModel", "order", "(IZI)I"⟩, 13)]
theorem lw_r3 : ∀ q ∈ lw_privs_3, lw_okq q := List.forall_mem_cons.mpr ⟨lw_p32, List.forall_mem_cons.mpr ⟨lw_p33, List.forall_mem_cons.mpr ⟨lw_p34, List.forall_mem_cons.mpr ⟨lw_p35, List.forall_mem_cons.mpr ⟨lw_p36, List.forall_mem_cons.mpr ⟨lw_p37, List.forall_mem_cons.mpr ⟨lw_p38, List.forall_mem_cons.mpr ⟨lw_p39, List.forall_mem_cons.mpr ⟨lw_p40, List.forall_mem_cons.mpr ⟨lw_p41, List.forall_mem_cons.mpr ⟨lw_p42, List.forall_mem_cons.mpr ⟨lw_p43, List.forall_mem_cons.mpr ⟨lw_p44, fun _ h => absurd h List.not_mem_nil⟩⟩⟩⟩⟩⟩⟩⟩⟩⟩⟩⟩⟩
def lw_privs : List (MethodName × Nat) := lw_privs_1 ++ (lw_privs_2 ++ (lw_privs_3))
def lw_tbl : List Cond := k2_sels lw_privs ++ tables_1
theorem lw_privs_ok : ∀ q ∈ lw_privs, lw_okq q := by
  show ∀ q ∈ lw_privs_1 ++ (lw_privs_2 ++ (lw_privs_3)), lw_okq q
  exact List.forall_mem_append.mpr ⟨lw_r1, List.forall_mem_append.mpr ⟨lw_r2, lw_r3⟩⟩
end
section
/-! ===== BEGIN words of one list among another's, by their places ===== -/
theorem goodIn_r {big : List Cond} (ws : List Cond) (ps : List Nat) (hp : ws = ps.filterMap (fun i => big[i]?)) (h : ws.all goodWord = true) : GoodIn big ws := by
  intro w hw
  have h1 := List.all_eq_true.mp h w hw
  rw [hp] at hw
  obtain ⟨i, -, hi⟩ := List.mem_filterMap.mp hw
  have hm : w ∈ big := by first | exact List.mem_of_getElem? hi | exact List.getElem?_mem hi
  exact ⟨hm, good_of_word h1⟩
theorem goodIn_app {big a b : List Cond} (ha : GoodIn big a) (hb : GoodIn big b) : GoodIn big (a ++ b) := fun w h => (List.mem_append.mp h).elim (ha w) (hb w)
theorem goodIn_ca {big a b : List Cond} {c : Cond} (ha : GoodIn big (c :: a)) (hb : GoodIn big b) : GoodIn big (c :: (a ++ b)) := fun w h => (List.mem_cons.mp h).elim (fun e => ha w (List.mem_cons.mpr (Or.inl e))) (fun h => (List.mem_append.mp h).elim (fun h => ha w (List.mem_cons.mpr (Or.inr h))) (hb w))
theorem goodIn_sub {big ws : List Cond} (hm : ∀ w ∈ ws, w ∈ big) (h : ws.all goodWord = true) : GoodIn big ws := fun w hw => ⟨hm w hw, good_of_word (List.all_eq_true.mp h w hw)⟩
/-! ===== END ===== -/

/-! ===== BEGIN exceptions that leave a method, and their catching by the caller (launches without stack traces) ===== -/
section VXA
/-! The laws vx_back, vx_callV, vx_callS, vx_callSW, vx_throw0, vx_throwS follow proofs of the library, with one case more: JvmDerived/Free/Laws.lean (Back.of_free), Shelf42/LK1.lean (callV, callS), Shelf/KitTraced.lean (throwNew0V, throwNewS). -/
/-- where a method has thrown q: the class by its name, the cell, what was written, the world -/
def vx_T (XC : String → State → State → Prop) (st : State) (q : Addr) (t : State) (mc ms : Nat) (free : Addr → Prop) : Prop :=
  ∃ (E : String) (ce : Cell) (L : List Loc), XC E st t ∧ t.heap[q]? = some ce ∧ ce.vm = .none ∧ st.vm.findClass E = some ce.cls ∧ st.WarmedH t.vm ∧ st.sameButNew ({ t with vm := st.vm } : State) L mc ms ∧ ∀ z ∈ L, free z.base
def vx_Q (Qc : Array Value → State → Outcome → State → Prop) (XC : String → State → State → Prop) (mc ms : Nat) (free : Addr → Prop) : Array Value → State → Outcome → State → Prop := fun a st o t =>
  (Qc a st o t ∧ ∃ L, FrameEnd st o t L mc ms ∧ ∀ q ∈ L, free q.base) ∨ ∃ q, o = .threw q ∧ vx_T XC st q t mc ms free
/-- a callee that returns or throws -/
def vx_Met (l : Launch) (y : MethodName) (ws : List Cond) (rm : Room) (Pc : Array Value → State → Prop) (Qc : Array Value → State → Outcome → State → Prop) (XC : String → State → State → Prop) (mc ms : Nat) (free : Addr → Prop) : Prop :=
  MetFree l y (headSpec ws rm) Pc (fun _ _ _ _ _ => True) (vx_Q Qc XC mc ms free)
def vx_Post (XC : String → State → State → Prop) (mc ms : Nat) (free : Addr → Prop) : Pt → Array Value → Addr → Pt → Prop := fun A a q B =>
  ∃ (g : JFrame) (mk : MethodId) (t : State) (L : List Loc) (E : String) (ce : Cell), B.U.heap = t.heap ∧ B.U.vm = t.vm ∧ XC E (A.U.calling g mk a) t ∧ t.heap[q]? = some ce ∧ ce.vm = .none ∧ A.U.vm.findClass E = some ce.cls ∧ B.locs = A.locs ++ L ∧ (∀ z ∈ L, free z.base) ∧ B.cells = A.cells + mc ∧ B.slots = A.slots + ms
def vx_Back (l : Launch) (R : Room) (p : Program) (e : Env) (below : List Frame) (s : State) (sargs : Array Value) (y : MethodName) (len W9 : Nat)
    (Pre : Pt → Array Value → Prop) (Post : Pt → Array Value → Option Value → Pt → Prop) (PostX : Pt → Array Value → Addr → Pt → Prop) : Prop :=
  ∀ (m : MethodId) (meth : Method) (c : Code) (A : Pt) (g : JFrame) (ig : Instr) (mk : MethodId) (a : Array Value),
    Stand p l e R s m sargs below meth c A.U A.locs A.cells A.slots → g.method = m → g.locals.size = c.maxLocals → decode c.code g.pc = .ok (ig, len) →
    2 * g.monitorRoom + (g.stack.map fun v => v.category).sum ≤ W9 → A.U.methodNamed? y = some mk → Pre A a →
    (∃ (v : Option Value) (B : Pt), Stand p l e R s m sargs below meth c B.U B.locs B.cells B.slots ∧ Post A a v B ∧
      Steps p.tables e below (doInvoke e (A.U.setTop g) [] mk a).1 (B.U.setTop { g with pc := g.pc + len, stack := v.toList ++ g.stack })) ∨
    (∃ (q : Addr) (B : Pt), Stand p l e R s m sargs below meth c B.U B.locs B.cells B.slots ∧ PostX A a q B ∧
      Steps p.tables e below (doInvoke e (A.U.setTop g) [] mk a).1 ((B.U.setTop g).pushFrame (.throwing q)))
section Payer
variable {l : Launch} {R : Room} {p : Program} {e : Env} {below : List Frame} {s : State} {sargs : Array Value} {y : MethodName} {len W9 : Nat}
theorem vx_back {ws : List Cond} {rm : Room} {Pc : Array Value → State → Prop} {Qc : Array Value → State → Outcome → State → Prop} {XC : String → State → State → Prop} {mc ms : Nat} {free : Addr → Prop} {bytes : ByteArray} {maxL : Nat} {ret : Option FieldType}
    (hM : vx_Met l y ws rm Pc Qc XC mc ms free) (hblind : FrameBlind Pc) (hrc : rm.cells = mc) (hrs : rm.slots = ms)
    (hframes : rm.frames + 1 ≤ R.frames) (hlocals : W9 + (maxL + 11) + rm.locals ≤ R.locals)
    (hws : ∀ w ∈ ws, ∀ a' U, s.WarmedH U.vm → w.before a' U = true) (hcode : Cond.code y bytes maxL ret ∈ ws) (hinit : ∀ a' U, s.WarmedH U.vm → (Cond.initialized y.cls).before a' U = true) :
    vx_Back l R p e below s sargs y len W9 (PreOf R mc ms Pc) (PostOf Qc mc ms free) (vx_Post XC mc ms free) := by
  intro m meth c A g ig mk a X hg hsize hdg hW hn hp
  have h1 : (headSpec ws rm).pre.before a A.U = true := atoms_intro fun w hw => hws w hw _ _ X.warmed
  have h2 : (Cond.code y bytes maxL ret).before a A.U = true := hws _ hcode _ _ X.warmed
  have h3 : (Cond.initialized y.cls).before a A.U = true := hinit _ _ X.warmed
  have h4 : A.cells + (headSpec ws rm).room.cells ≤ R.cells := by rw [show (headSpec ws rm).room.cells = mc from hrc]; exact hp.1
  have h5 : A.slots + (headSpec ws rm).room.slots ≤ R.slots := by rw [show (headSpec ws rm).room.slots = ms from hrs]; exact hp.2.1
  have hPc : Pc a (A.U.calling g mk a) := hblind _ _ _ _ hp.2.2
  obtain ⟨U, Ls, c0, s0⟩ := A
  dsimp only [Pt.U, Pt.locs, Pt.cells, Pt.slots] at h1 h2 h3 h4 h5 X hn hPc ⊢
  obtain ⟨methY, cY, hmY, hcY, -, hlY, -, -, -, -⟩ := Cond.code_spec hn h2
  obtain ⟨kY, hkY, -⟩ := className_of_methodNamed hn
  have hinitY : kY.init = .initialized := Cond.initialized_spec (findClass_of_methodNamed hn) hkY h3
  have h : At U g.method c below := by rw [hg]; exact X.here
  have hlocals9 : W9 + (maxL + 11) + (headSpec ws rm).room.locals ≤ R.locals := hlocals
  have happ : (headSpec ws rm).appliesLoose y e.platform (U.calling g mk a) = true :=
    Spec.appliesLoose_calling (g := g) h hdg hn hkY hinitY
      (X.room_calling (g := g) (R' := (headSpec ws rm).room) hsize hmY hcY hframes (by rw [hlY]; omega) h4 h5) h1
  obtain ⟨mid, hmid⟩ := h.above
  have hfr : (U.setTop g).frames = (.java g :: mid) ++ below := by rw [State.frames_setTop' g h.top, hmid]; rfl
  obtain ⟨o, s₂, hsteps, -, hend, hq⟩ := Steps.callFree hM p X.admits X.cas X.clock (acts := []) hfr happ hPc trivial
  have hq' : vx_Q Qc XC mc ms free a (U.calling g mk a) o s₂ := hq
  rw [State.frames_setTop' g h.top] at hend
  obtain ⟨g₀, hg0⟩ := Option.isSome_iff_exists.mp h.top
  obtain ⟨r, hr⟩ := State.topJava?_eq_some.mp hg0
  have hr' : (({ U with heap := s₂.heap, slotsUsed := s₂.slotsUsed } : State).setVm s₂.vm).frames = .java g₀ :: r := hr
  rcases hq' with ⟨hqc, L, hfe, hL⟩ | ⟨q, rfl, E, ce, L, hx, hce, hcv, hcl, hW₂, hsm, hL⟩
  · obtain ⟨⟨v, rfl⟩, hW₂, e2, q2, q3, q4, q5, q6⟩ := id hfe
    have e3 : s₂ = ({ (U.calling g mk a).setFrames s₂.frames with heap := s₂.heap, slotsUsed := s₂.slotsUsed } : State).setVm s₂.vm := by
      have : s₂ = ({ s₂ with vm := (U.calling g mk a).vm } : State).setVm s₂.vm := rfl
      rw [e2] at this
      exact this
    obtain ⟨c₂, i₂, len₂, hc₂, hd₂, hf₂⟩ := hend
    have hW' : U.WarmedH s₂.vm := hW₂
    have hcc : c₂ = c := by
      have h1 : s₂.code? g.method = U.code? g.method := by
        rw [State.code?_eq, State.code?_eq, hW'.alike.method?]
      exact Option.some.inj (hc₂.symm.trans (h1.trans h.code))
    subst hcc
    have hlen : len₂ = len := by rw [hdg] at hd₂; cases hd₂; rfl
    subst hlen
    have hs₂ : s₂ = (({ U with heap := s₂.heap, slotsUsed := s₂.slotsUsed } : State).setVm s₂.vm).setTop { g with pc := g.pc + len₂, stack := v.toList ++ g.stack } := by
      refine e3.trans ?_
      rw [hf₂, State.calling_eq h.top, State.setFrames_setFrames, State.setTop_of_frames _ hr', hr]
      rfl
    have hsame : U.sameButNew ({ U with heap := s₂.heap, slotsUsed := s₂.slotsUsed } : State) L mc ms := by
      refine ⟨?_, q2, q3, q4, q5, q6⟩
      obtain ⟨t, ht, -⟩ := State.frames_cons hr
      show ({ U with heap := s₂.heap, slotsUsed := s₂.slotsUsed } : State) = { U.setFrames U.frames with heap := s₂.heap, slotsUsed := s₂.slotsUsed }
      rw [State.setFrames_self ht]
    subst hg
    refine Or.inl ⟨v, ⟨(({ U with heap := s₂.heap, slotsUsed := s₂.slotsUsed } : State).setVm s₂.vm), Ls ++ L, c0 + mc, s0 + ms⟩,
      ⟨X.admits, X.cas, X.clock, X.frames, X.room, X.hears, X.method, X.code, (X.here.setHeapUsed s₂.heap s₂.slotsUsed).setVm hW'.alike, X.tail, State.WarmedH.trans X.warmed hW', X.limits, X.bytes, X.same.trans (hsame.setVm s.vm)⟩,
      ⟨g, mk, s₂, L, rfl, rfl, hqc, rfl, hL, rfl, rfl⟩, ?_⟩
    show Steps p.tables e below _ ((({ U with heap := s₂.heap, slotsUsed := s₂.slotsUsed } : State).setVm s₂.vm).setTop { g with pc := g.pc + len₂, stack := v.toList ++ g.stack })
    rw [← hs₂]
    exact hsteps
  · obtain ⟨e2, q2, q3, q4, q5, q6⟩ := id hsm
    have e3 : s₂ = ({ (U.calling g mk a).setFrames s₂.frames with heap := s₂.heap, slotsUsed := s₂.slotsUsed } : State).setVm s₂.vm := by
      have : s₂ = ({ s₂ with vm := (U.calling g mk a).vm } : State).setVm s₂.vm := rfl
      rw [e2] at this
      exact this
    have hf₂ : s₂.frames = .throwing q :: .java g :: U.frames.tail := hend
    have hW' : U.WarmedH s₂.vm := hW₂
    have hs₂ : s₂ = ((({ U with heap := s₂.heap, slotsUsed := s₂.slotsUsed } : State).setVm s₂.vm).setTop g).pushFrame (.throwing q) := by
      refine e3.trans ?_
      rw [hf₂, State.calling_eq h.top, State.setFrames_setFrames, State.pushFrame, State.frames_setTop _ hr', State.setTop_of_frames _ hr', State.setFrames_setFrames, hr]
      rfl
    have hsame : U.sameButNew ({ U with heap := s₂.heap, slotsUsed := s₂.slotsUsed } : State) L mc ms := by
      refine ⟨?_, q2, q3, q4, q5, q6⟩
      obtain ⟨t, ht, -⟩ := State.frames_cons hr
      show ({ U with heap := s₂.heap, slotsUsed := s₂.slotsUsed } : State) = { U.setFrames U.frames with heap := s₂.heap, slotsUsed := s₂.slotsUsed }
      rw [State.setFrames_self ht]
    subst hg
    refine Or.inr ⟨q, ⟨(({ U with heap := s₂.heap, slotsUsed := s₂.slotsUsed } : State).setVm s₂.vm), Ls ++ L, c0 + mc, s0 + ms⟩,
      ⟨X.admits, X.cas, X.clock, X.frames, X.room, X.hears, X.method, X.code, (X.here.setHeapUsed s₂.heap s₂.slotsUsed).setVm hW'.alike, X.tail, State.WarmedH.trans X.warmed hW', X.limits, X.bytes, X.same.trans (hsame.setVm s.vm)⟩,
      ⟨g, mk, s₂, L, E, ce, rfl, rfl, hx, hce, hcv, hcl, rfl, hL, rfl, rfl⟩, ?_⟩
    show Steps p.tables e below _ (((({ U with heap := s₂.heap, slotsUsed := s₂.slotsUsed } : State).setVm s₂.vm).setTop g).pushFrame (.throwing q))
    rw [← hs₂]
    exact hsteps
end Payer
section Calls
variable {p : Program} {l : Launch} {e : Env} {R : Room} {s : State} {m : MethodId} {args : Array Value} {below : List Frame} {meth : Method} {c : Code} {T : State} {locs : List Loc} {cells slots : Nat}
theorem vx_callV (X : Stand p l e R s m args below meth c T locs cells slots) (hexec : p.tables.exec = Jvm.exec) {own C : String} {index : Nat} {y : MethodName} {bytes : ByteArray} {maxL : Nat} {ret : Option FieldType}
    (hown : s.vm.findClass own = some m.cls) (hlink : (Cond.methodLink own index y).before args s = true) (hinst : (Cond.instanceMethod y).before args s = true) (hsel : (Cond.selects C y y).before args s = true)
    (hcode : (Cond.code y bytes maxL ret).before args s = true) (hy : y.cls ≠ "java/lang/invoke/MethodHandle" ∧ y.cls ≠ "java/lang/invoke/VarHandle")
    {W9 : Nat} {Pre : Pt → Array Value → Prop} {Post : Pt → Array Value → Option Value → Pt → Prop} {PostX : Pt → Array Value → Addr → Pt → Prop} (hK : vx_Back l R p e below s args y 3 W9 Pre Post PostX)
    {b : Addr} {cellB : Cell} (hcell : T.heap[b]? = some cellB) (hobj : cellB.vm.isStatics = false) (hcls : s.vm.findClass C = some cellB.cls)
    {g : JFrame} (hg : g.method = m) (hsize : g.locals.size = c.maxLocals) {argsL rest : List Value} (hlen : ∀ sig, parseMethodDescriptor y.desc = some sig → argsL.length = sig.parameters.length)
    (hstack : g.stack = argsL.reverse ++ .ref b :: rest) (hW : 2 * g.monitorRoom + (rest.map fun v => v.category).sum ≤ W9) (hdg : decode c.code g.pc = .ok (.invokevirtual index, 3))
    (hpre : ∀ vm₁, s.WarmedH vm₁ → Pre ⟨T.setVm vm₁, locs, cells, slots⟩ (Value.ref b :: argsL).toArray) :
    (∃ (v : Option Value) (vm₁ : Vm) (B : Pt), s.WarmedH vm₁ ∧ Stand p l e R s m args below meth c B.U B.locs B.cells B.slots ∧ Post ⟨T.setVm vm₁, locs, cells, slots⟩ (Value.ref b :: argsL).toArray v B ∧
      ∀ target, Steps p.tables e below (B.U.setTop { g with pc := g.pc + 3, stack := v.toList ++ rest }) target → Steps p.tables e below (T.setTop g) target) ∨
    (∃ (q : Addr) (vm₁ : Vm) (B : Pt), s.WarmedH vm₁ ∧ Stand p l e R s m args below meth c B.U B.locs B.cells B.slots ∧ PostX ⟨T.setVm vm₁, locs, cells, slots⟩ (Value.ref b :: argsL).toArray q B ∧
      Steps p.tables e below (T.setTop g) ((B.U.setTop { g with stack := rest }).pushFrame (.throwing q))) := by
  obtain ⟨mk, methM, hnamed, hmethM, hstM, habM⟩ := Cond.instanceMethod_spec hinst
  obtain ⟨methM', cM, hmethM', -, -, -, -, -, -, hsigM⟩ := Cond.code_spec hnamed hcode
  cases hmethM.symm.trans hmethM'
  obtain ⟨c2, r2, m2, q1, q2, q3, q4, kP, hkP, hkPi⟩ := Cond.selects_spec hsel
  cases hcls.symm.trans q1
  cases (State.methodFound?_of_named hnamed hy).symm.trans q2
  cases hnamed.symm.trans q3
  have hselP : selectMethod e.platform s.vm cellB.cls mk = .method mk := by rw [Launch.admits_selectMethod X.admits]; exact q4
  obtain ⟨vm₁, X₁, hstep₁⟩ := X.invokevirtual hexec hown hlink hnamed hmethM hstM hkP hkPi hy (a := b) (cell := cellB) hcell
    (fun z h => by rw [h] at hobj; cases hobj) hselP hmethM habM hkP hkPi (g := g) hg (argsL := argsL) (rest := rest) (hlen _ hsigM) hstack hdg
  rcases hK m meth c ⟨T.setVm vm₁, locs, cells, slots⟩ { g with stack := rest } (.invokevirtual index) mk (Value.ref b :: argsL).toArray X₁ hg hsize hdg hW (X₁.named hnamed) (hpre vm₁ X₁.warmed) with ⟨v, B, X', hpost, hsteps⟩ | ⟨q, B, X', hpost, hsteps⟩
  · exact Or.inl ⟨v, vm₁, B, X₁.warmed, X', hpost, fun target h => hstep₁ _ fun acts => by rw [doInvoke_state]; exact hsteps.trans h⟩
  · exact Or.inr ⟨q, vm₁, B, X₁.warmed, X', hpost, hstep₁ _ fun acts => by rw [doInvoke_state]; exact hsteps⟩
theorem vx_callS (X : Stand p l e R s m args below meth c T locs cells slots) (hexec : p.tables.exec = Jvm.exec) {own : String} {index : Nat} {y : MethodName} {bytes : ByteArray} {maxL : Nat} {ret : Option FieldType}
    (hown : s.vm.findClass own = some m.cls) (hlink : (Cond.methodLink own index y).before args s = true) (hstat : (Cond.static y).before args s = true) (hinit : (Cond.initialized y.cls).before args s = true)
    (hcode : (Cond.code y bytes maxL ret).before args s = true) (hy : y.cls ≠ "java/lang/invoke/MethodHandle" ∧ y.cls ≠ "java/lang/invoke/VarHandle")
    {W9 : Nat} {Pre : Pt → Array Value → Prop} {Post : Pt → Array Value → Option Value → Pt → Prop} {PostX : Pt → Array Value → Addr → Pt → Prop} (hK : vx_Back l R p e below s args y 3 W9 Pre Post PostX)
    {g : JFrame} (hg : g.method = m) (hsize : g.locals.size = c.maxLocals) {argsL rest : List Value} (hlen : ∀ sig, parseMethodDescriptor y.desc = some sig → argsL.length = sig.parameters.length)
    (hstack : g.stack = argsL.reverse ++ rest) (hW : 2 * g.monitorRoom + (rest.map fun v => v.category).sum ≤ W9) (hdg : decode c.code g.pc = .ok (.invokestatic index, 3))
    (hpre : ∀ vm₁, s.WarmedH vm₁ → Pre ⟨T.setVm vm₁, locs, cells, slots⟩ argsL.toArray) :
    (∃ (v : Option Value) (vm₁ : Vm) (B : Pt), s.WarmedH vm₁ ∧ Stand p l e R s m args below meth c B.U B.locs B.cells B.slots ∧ Post ⟨T.setVm vm₁, locs, cells, slots⟩ argsL.toArray v B ∧
      ∀ target, Steps p.tables e below (B.U.setTop { g with pc := g.pc + 3, stack := v.toList ++ rest }) target → Steps p.tables e below (T.setTop g) target) ∨
    (∃ (q : Addr) (vm₁ : Vm) (B : Pt), s.WarmedH vm₁ ∧ Stand p l e R s m args below meth c B.U B.locs B.cells B.slots ∧ PostX ⟨T.setVm vm₁, locs, cells, slots⟩ argsL.toArray q B ∧
      Steps p.tables e below (T.setTop g) ((B.U.setTop { g with stack := rest }).pushFrame (.throwing q))) := by
  obtain ⟨mk, hnamed⟩ := Cond.code_named hcode
  obtain ⟨methM, cM, hmethM, -, -, -, -, -, -, hsigM⟩ := Cond.code_spec hnamed hcode
  have hstatic : methM.isStatic = true := Cond.static_spec hnamed hmethM hstat
  obtain ⟨kP, hkP, -⟩ := className_of_methodNamed hnamed
  have hinitP : kP.init = .initialized := Cond.initialized_spec (findClass_of_methodNamed hnamed) hkP hinit
  obtain ⟨vm₁, X₁, hstep₁⟩ := X.invokestatic hexec hown hlink hnamed hmethM hstatic hkP hinitP hy (g := g) hg (argsL := argsL) (rest := rest) (hlen _ hsigM) hstack hdg
  rcases hK m meth c ⟨T.setVm vm₁, locs, cells, slots⟩ { g with stack := rest } (.invokestatic index) mk argsL.toArray X₁ hg hsize hdg hW (X₁.named hnamed) (hpre vm₁ X₁.warmed) with ⟨v, B, X', hpost, hsteps⟩ | ⟨q, B, X', hpost, hsteps⟩
  · exact Or.inl ⟨v, vm₁, B, X₁.warmed, X', hpost, fun target h => hstep₁ _ fun acts => by rw [doInvoke_state]; exact hsteps.trans h⟩
  · exact Or.inr ⟨q, vm₁, B, X₁.warmed, X', hpost, hstep₁ _ fun acts => by rw [doInvoke_state]; exact hsteps⟩
end Calls
theorem vx_cls {s : State} {T : State} {vm₁ : Vm} {E : String} {k : ClassId} (hW : s.WarmedH vm₁) (h : (T.setVm vm₁).vm.findClass E = some k) : s.vm.findClass E = some k := by
  have h1 : vm₁.findClass E = some k := h
  rw [hW.alike.findClass] at h1
  exact h1
/-- the method's frame g, with q thrown over it -/
def vx_W (p : Program) (l : Launch) (e : Env) (R : Room) (s : State) (m : MethodId) (args : Array Value) (below : List Frame) (meth : Method) (c : Code) (H : Heap) (locs : List Loc) (cells slots : Nat) (Q : State → Prop) (g : JFrame) (q : Addr) : Prop :=
  ∀ T : State, T.heap = H → Stand p l e R s m args below meth c T locs cells slots → ∃ t, Steps p.tables e below ((T.setTop g).pushFrame (.throwing q)) t ∧ Q t
def vx_Run (p : Program) (l : Launch) (e : Env) (R : Room) (s : State) (m : MethodId) (args : Array Value) (below : List Frame) (meth : Method) (c : Code) (H : Heap) (locs : List Loc) (cells slots mc ms : Nat) (g : JFrame) (rest : List Value) (Qa : State → Outcome → State → Prop) (XC : String → State → State → Prop) (free : Addr → Prop) : Prop :=
  ∀ T : State, T.heap = H → Stand p l e R s m args below meth c T locs cells slots →
    (∃ (v : Option Value) (st₀ t T' : State) (L : List Loc), st₀.heap = H ∧ Stand p l e R s m args below meth c T' (locs ++ L) (cells + mc) (slots + ms) ∧ (∀ q ∈ L, free q.base) ∧ T'.heap = t.heap ∧ T'.vm = t.vm ∧ Qa st₀ (.returned v) t ∧
      Goes p e below T g T' { g with pc := g.pc + 3, stack := v.toList ++ rest }) ∨
    (∃ (q : Addr) (st₀ t T' : State) (L : List Loc) (E : String) (ce : Cell), st₀.heap = H ∧ Stand p l e R s m args below meth c T' (locs ++ L) (cells + mc) (slots + ms) ∧ (∀ z ∈ L, free z.base) ∧ T'.heap = t.heap ∧ T'.vm = t.vm ∧ XC E st₀ t ∧ t.heap[q]? = some ce ∧ ce.vm = .none ∧ s.vm.findClass E = some ce.cls ∧
      Steps p.tables e below (T.setTop g) ((T'.setTop { g with stack := rest }).pushFrame (.throwing q)))
def vx_X {S : Type} (px : S → Prop) (B : String → S → State → Prop) (A : Nat → Prop) : String → State → State → Prop := fun E st t => ∃ u : S, px u ∧ B E u t ∧ va_F A st t
section Runs
variable {p : Program} {l : Launch} {e : Env} {R : Room} {s : State} {m : MethodId} {args : Array Value} {below : List Frame} {meth : Method} {c : Code} {H : Heap} {locs : List Loc} {cells slots : Nat}
variable {y : MethodName} {bytes cc : ByteArray} {maxL nL mc ms n index : Nat} {ret : Option FieldType} {ws : List Cond} {rm : Room} {Pc : Array Value → State → Prop} {Qc : Array Value → State → Outcome → State → Prop} {XC : String → State → State → Prop} {free : Addr → Prop} {Ts : List Cond} {own C : String} {b : Addr} {As rest : List Value} {g : JFrame}
theorem vx_callBack (cb : CallB R s args own index y bytes maxL ret ws rm mc ms n) (hM : vx_Met l y ws rm Pc Qc XC mc ms free) (hbl : FrameBlind Pc) : vx_Back l R p e below s args y 3 8 (PreOf R mc ms Pc) (PostOf Qc mc ms free) (vx_Post XC mc ms free) := by
  obtain ⟨hrc, hrs, hfr, hlo, hws, hcw, -, hini, -⟩ := cb
  exact vx_back (bytes := bytes) (maxL := maxL) (ret := ret) hM hbl hrc hrs hfr hlo hws hcw (fun a' U hW => word_at hW (Or.inl (by first | rfl | simp [Cond.onTables, Cond.keeps, Cond.steady])) hini)
theorem vx_runV (S : CallFix p m c cc nL s args Ts own) (hM : vx_Met l y ws rm Pc Qc XC mc ms free) (cw : CallW R s args own C index y bytes maxL ret ws rm mc ms n) (hp : PreV s H C b Pc As)
    (hg : g.method = m) (hn : As.length = n) (hsize : g.locals.size = nL) (hstack : g.stack = As.reverse ++ .ref b :: rest) (hW : 2 * g.monitorRoom + (rest.map fun v => v.category).sum ≤ 8) (hdg : decode cc g.pc = .ok (.invokevirtual index, 3)) (hf : cells + mc ≤ R.cells ∧ slots + ms ≤ R.slots) :
    vx_Run p l e R s m args below meth c H locs cells slots mc ms g rest (Qc (Value.ref b :: As).toArray) XC free := by
  have hK : vx_Back l R p e below s args y 3 8 (PreOf R mc ms Pc) (PostOf Qc mc ms free) (vx_Post XC mc ms free) := vx_callBack cw.1 hM hp.1
  obtain ⟨⟨-, -, -, -, -, -, hcode, -, hy, hlen, hl⟩, hin, hse⟩ := cw
  obtain ⟨hx, hb, hml, ho, -⟩ := S
  obtain ⟨-, ⟨cellB, hcB, hoB, hclB⟩, hPc⟩ := hp
  intro T hT X
  rcases vx_callV X hx (C := C) (bytes := bytes) (maxL := maxL) (ret := ret) ho hl hin hse hcode hy hK (by rw [hT]; exact hcB) hoB hclB hg (hsize.trans hml.symm) (argsL := As) (rest := rest) (fun sig h => hn.trans (hlen sig h)) hstack hW (by rw [hb]; exact hdg)
    (fun vm₁ hW₁ => ⟨hf.1, hf.2, hPc (T.setVm vm₁) hT hW₁⟩) with ⟨v, vm₁, ⟨U', l2, c2, s2⟩, hW₁, X', ⟨g', mk, t, L, e1, e2, hq, h1, hL, h2, h3⟩, st⟩ | ⟨q, vm₁, ⟨U', l2, c2, s2⟩, hW₁, X', ⟨g', mk, t, L, E, ce, e1, e2, hq, hce, hcv, hcl, h1, hL, h2, h3⟩, st⟩
  · dsimp only [Pt.U, Pt.locs, Pt.cells, Pt.slots] at X' e1 e2 h1 h2 h3 st
    subst h1; subst h2; subst h3
    exact Or.inl ⟨v, (T.setVm vm₁).calling g' mk (Value.ref b :: As).toArray, t, U', L, hT, X', hL, e1, e2, hq, st⟩
  · dsimp only [Pt.U, Pt.locs, Pt.cells, Pt.slots] at X' e1 e2 h1 h2 h3 st hcl
    subst h1; subst h2; subst h3
    exact Or.inr ⟨q, (T.setVm vm₁).calling g' mk (Value.ref b :: As).toArray, t, U', L, E, ce, hT, X', hL, e1, e2, hq, hce, hcv, vx_cls hW₁ hcl, st⟩
theorem vx_runS (S : CallFix p m c cc nL s args Ts own) (hM : vx_Met l y ws rm Pc Qc XC mc ms free) (cw : CallB R s args own index y bytes maxL ret ws rm mc ms n ∧ (Cond.static y).before args s = true) (hp : PreS s H Pc As)
    (hg : g.method = m) (hn : As.length = n) (hsize : g.locals.size = nL) (hstack : g.stack = As.reverse ++ rest) (hW : 2 * g.monitorRoom + (rest.map fun v => v.category).sum ≤ 8) (hdg : decode cc g.pc = .ok (.invokestatic index, 3)) (hf : cells + mc ≤ R.cells ∧ slots + ms ≤ R.slots) :
    vx_Run p l e R s m args below meth c H locs cells slots mc ms g rest (Qc As.toArray) XC free := by
  have hK : vx_Back l R p e below s args y 3 8 (PreOf R mc ms Pc) (PostOf Qc mc ms free) (vx_Post XC mc ms free) := vx_callBack cw.1 hM hp.1
  obtain ⟨⟨-, -, -, -, -, -, hcode, hini, hy, hlen, hl⟩, hstt⟩ := cw
  obtain ⟨hx, hb, hml, ho, -⟩ := S
  intro T hT X
  rcases vx_callS X hx (bytes := bytes) (maxL := maxL) (ret := ret) ho hl hstt hini hcode hy hK hg (hsize.trans hml.symm) (argsL := As) (rest := rest) (fun sig h => hn.trans (hlen sig h)) hstack hW (by rw [hb]; exact hdg)
    (fun vm₁ hW₁ => ⟨hf.1, hf.2, hp.2 (T.setVm vm₁) hT hW₁⟩) with ⟨v, vm₁, ⟨U', l2, c2, s2⟩, hW₁, X', ⟨g', mk, t, L, e1, e2, hq, h1, hL, h2, h3⟩, st⟩ | ⟨q, vm₁, ⟨U', l2, c2, s2⟩, hW₁, X', ⟨g', mk, t, L, E, ce, e1, e2, hq, hce, hcv, hcl, h1, hL, h2, h3⟩, st⟩
  · dsimp only [Pt.U, Pt.locs, Pt.cells, Pt.slots] at X' e1 e2 h1 h2 h3 st
    subst h1; subst h2; subst h3
    exact Or.inl ⟨v, (T.setVm vm₁).calling g' mk As.toArray, t, U', L, hT, X', hL, e1, e2, hq, st⟩
  · dsimp only [Pt.U, Pt.locs, Pt.cells, Pt.slots] at X' e1 e2 h1 h2 h3 st hcl
    subst h1; subst h2; subst h3
    exact Or.inr ⟨q, (T.setVm vm₁).calling g' mk As.toArray, t, U', L, E, ce, hT, X', hL, e1, e2, hq, hce, hcv, vx_cls hW₁ hcl, st⟩
end Runs
section Rows
variable {p : Program} {l : Launch} {e : Env} {R : Room} {s : State} {m : MethodId} {args : Array Value} {below : List Frame} {meth : Method} {c : Code} {H : Heap} {locs : List Loc} {cells slots : Nat} {Q : State → Prop}
variable {mc ms : Nat} {free : Addr → Prop} {A0 A1 : Nat → Prop} {H0 : Heap} {a : Array Value} {pc : Nat} {ls : Array Slot} {st0 rest : List Value}
theorem vx_keep {st₀ t T' : State} {L : List Loc} (h0 : st₀.heap = H) (e1 : T'.heap = t.heap) (hS : va_S A0 H0 H locs) (hA : ∀ q, q < H.size → A1 q → A0 q) (hf : ∀ q, free q → A0 q) (hL : ∀ q ∈ L, free q.base) (hF : va_F A1 st₀ t) :
    H.size ≤ T'.heap.size ∧ (∀ q : Nat, q < H.size → ¬ A1 q → T'.heap[q]? = H[q]?) ∧ va_S A0 H0 T'.heap (locs ++ L) := by
  obtain ⟨hz, hk⟩ := hF
  rw [h0] at hz hk
  exact ⟨by rw [e1]; exact hz, fun q h1 h2 => by rw [e1]; exact hk q h1 h2,
    ⟨Nat.le_trans hS.1 (by rw [e1]; exact hz), fun q h1 h2 => by rw [e1, hk q (Nat.lt_of_lt_of_le h1 hS.1) (fun z => h2 (hA q (Nat.lt_of_lt_of_le h1 hS.1) z))]; exact hS.2.1 q h1 h2, fun q hq => by
      rcases List.mem_append.mp hq with h | h
      · exact hS.2.2 q h
      · exact hf _ (hL q h)⟩⟩
theorem vx_calli {S SX : Type} {post : Int32 → S → Prop} {px : SX → Prop} {B : S → State → Prop} {BX : String → SX → State → Prop} {AX : Nat → Prop} (hr : vx_Run p l e R s m args below meth c H locs cells slots mc ms (F0 m pc ls st0) rest (va_Qi post B A1 a) (vx_X px BX AX) free) (hS : va_S A0 H0 H locs) (hA : ∀ q, q < H.size → A1 q → A0 q) (hf : ∀ q, free q → A0 q) (hAX : ∀ q, q < H.size → AX q → A0 q)
    (kx : ∀ (E : String) (ce : Cell) (q9 : Addr) (u : SX) (t : State) (H1 : Heap) (locs1 : List Loc), t.heap = H1 → s.vm.Alike t.vm → px u → BX E u t → H.size ≤ H1.size → (∀ q : Nat, q < H.size → ¬ AX q → H1[q]? = H[q]?) → va_S A0 H0 H1 locs1 → H1[q9]? = some ce → ce.vm = .none → s.vm.findClass E = some ce.cls → vx_W p l e R s m args below meth c H1 locs1 (cells + mc) (slots + ms) Q (F0 m pc ls rest) q9)
    (kk : ∀ (r : Int32) (u : S) (t : State) (H1 : Heap) (locs1 : List Loc), t.heap = H1 → s.vm.Alike t.vm → post r u → B u t → H.size ≤ H1.size → (∀ q : Nat, q < H.size → ¬ A1 q → H1[q]? = H[q]?) → va_S A0 H0 H1 locs1 → W p l e R s m args below meth c H1 locs1 (cells + mc) (slots + ms) Q (F0 m (pc + 3) ls (.int r :: rest))) : W p l e R s m args below meth c H locs cells slots Q (F0 m pc ls st0) := by
  intro T hT X
  rcases hr T hT X with ⟨v, st₀, t, T', L, h0, X', hL, e1, e2, ⟨⟨r, u, hv, hp, hb⟩, hF⟩, st⟩ | ⟨q, st₀, t, T', L, E, ce, h0, X', hL, e1, e2, ⟨u, hp, hb, hF⟩, hce, hcv, hcl, st⟩
  · cases hv
    obtain ⟨k1, k2, k3⟩ := vx_keep h0 e1 hS hA hf hL hF
    obtain ⟨t2, a1, b1⟩ := kk r u t T'.heap (locs ++ L) e1.symm (by rw [← e2]; exact X'.warmed.alike) hp hb k1 k2 k3 T' rfl X'
    exact ⟨t2, st t2 a1, b1⟩
  · obtain ⟨k1, k2, k3⟩ := vx_keep h0 e1 hS hAX hf hL hF
    obtain ⟨t2, a1, b1⟩ := kx E ce q u t T'.heap (locs ++ L) e1.symm (by rw [← e2]; exact X'.warmed.alike) hp hb k1 k2 k3 (by rw [e1]; exact hce) hcv hcl T' rfl X'
    exact ⟨t2, st.trans a1, b1⟩
theorem vx_calll {S SX : Type} {post : Int64 → S → Prop} {px : SX → Prop} {B : S → State → Prop} {BX : String → SX → State → Prop} {AX : Nat → Prop} (hr : vx_Run p l e R s m args below meth c H locs cells slots mc ms (F0 m pc ls st0) rest (va_Ql post B A1 a) (vx_X px BX AX) free) (hS : va_S A0 H0 H locs) (hA : ∀ q, q < H.size → A1 q → A0 q) (hf : ∀ q, free q → A0 q) (hAX : ∀ q, q < H.size → AX q → A0 q)
    (kx : ∀ (E : String) (ce : Cell) (q9 : Addr) (u : SX) (t : State) (H1 : Heap) (locs1 : List Loc), t.heap = H1 → s.vm.Alike t.vm → px u → BX E u t → H.size ≤ H1.size → (∀ q : Nat, q < H.size → ¬ AX q → H1[q]? = H[q]?) → va_S A0 H0 H1 locs1 → H1[q9]? = some ce → ce.vm = .none → s.vm.findClass E = some ce.cls → vx_W p l e R s m args below meth c H1 locs1 (cells + mc) (slots + ms) Q (F0 m pc ls rest) q9)
    (kk : ∀ (r : Int64) (u : S) (t : State) (H1 : Heap) (locs1 : List Loc), t.heap = H1 → s.vm.Alike t.vm → post r u → B u t → H.size ≤ H1.size → (∀ q : Nat, q < H.size → ¬ A1 q → H1[q]? = H[q]?) → va_S A0 H0 H1 locs1 → W p l e R s m args below meth c H1 locs1 (cells + mc) (slots + ms) Q (F0 m (pc + 3) ls (.long r :: rest))) : W p l e R s m args below meth c H locs cells slots Q (F0 m pc ls st0) := by
  intro T hT X
  rcases hr T hT X with ⟨v, st₀, t, T', L, h0, X', hL, e1, e2, ⟨⟨r, u, hv, hp, hb⟩, hF⟩, st⟩ | ⟨q, st₀, t, T', L, E, ce, h0, X', hL, e1, e2, ⟨u, hp, hb, hF⟩, hce, hcv, hcl, st⟩
  · cases hv
    obtain ⟨k1, k2, k3⟩ := vx_keep h0 e1 hS hA hf hL hF
    obtain ⟨t2, a1, b1⟩ := kk r u t T'.heap (locs ++ L) e1.symm (by rw [← e2]; exact X'.warmed.alike) hp hb k1 k2 k3 T' rfl X'
    exact ⟨t2, st t2 a1, b1⟩
  · obtain ⟨k1, k2, k3⟩ := vx_keep h0 e1 hS hAX hf hL hF
    obtain ⟨t2, a1, b1⟩ := kx E ce q u t T'.heap (locs ++ L) e1.symm (by rw [← e2]; exact X'.warmed.alike) hp hb k1 k2 k3 (by rw [e1]; exact hce) hcv hcl T' rfl X'
    exact ⟨t2, st.trans a1, b1⟩
theorem vx_callf {S SX : Type} {post : UInt32 → S → Prop} {px : SX → Prop} {B : S → State → Prop} {BX : String → SX → State → Prop} {AX : Nat → Prop} (hr : vx_Run p l e R s m args below meth c H locs cells slots mc ms (F0 m pc ls st0) rest (va_Qf post B A1 a) (vx_X px BX AX) free) (hS : va_S A0 H0 H locs) (hA : ∀ q, q < H.size → A1 q → A0 q) (hf : ∀ q, free q → A0 q) (hAX : ∀ q, q < H.size → AX q → A0 q)
    (kx : ∀ (E : String) (ce : Cell) (q9 : Addr) (u : SX) (t : State) (H1 : Heap) (locs1 : List Loc), t.heap = H1 → s.vm.Alike t.vm → px u → BX E u t → H.size ≤ H1.size → (∀ q : Nat, q < H.size → ¬ AX q → H1[q]? = H[q]?) → va_S A0 H0 H1 locs1 → H1[q9]? = some ce → ce.vm = .none → s.vm.findClass E = some ce.cls → vx_W p l e R s m args below meth c H1 locs1 (cells + mc) (slots + ms) Q (F0 m pc ls rest) q9)
    (kk : ∀ (r : UInt32) (u : S) (t : State) (H1 : Heap) (locs1 : List Loc), t.heap = H1 → s.vm.Alike t.vm → post r u → B u t → H.size ≤ H1.size → (∀ q : Nat, q < H.size → ¬ A1 q → H1[q]? = H[q]?) → va_S A0 H0 H1 locs1 → W p l e R s m args below meth c H1 locs1 (cells + mc) (slots + ms) Q (F0 m (pc + 3) ls (.float r :: rest))) : W p l e R s m args below meth c H locs cells slots Q (F0 m pc ls st0) := by
  intro T hT X
  rcases hr T hT X with ⟨v, st₀, t, T', L, h0, X', hL, e1, e2, ⟨⟨r, u, hv, hp, hb⟩, hF⟩, st⟩ | ⟨q, st₀, t, T', L, E, ce, h0, X', hL, e1, e2, ⟨u, hp, hb, hF⟩, hce, hcv, hcl, st⟩
  · cases hv
    obtain ⟨k1, k2, k3⟩ := vx_keep h0 e1 hS hA hf hL hF
    obtain ⟨t2, a1, b1⟩ := kk r u t T'.heap (locs ++ L) e1.symm (by rw [← e2]; exact X'.warmed.alike) hp hb k1 k2 k3 T' rfl X'
    exact ⟨t2, st t2 a1, b1⟩
  · obtain ⟨k1, k2, k3⟩ := vx_keep h0 e1 hS hAX hf hL hF
    obtain ⟨t2, a1, b1⟩ := kx E ce q u t T'.heap (locs ++ L) e1.symm (by rw [← e2]; exact X'.warmed.alike) hp hb k1 k2 k3 (by rw [e1]; exact hce) hcv hcl T' rfl X'
    exact ⟨t2, st.trans a1, b1⟩
theorem vx_calld {S SX : Type} {post : UInt64 → S → Prop} {px : SX → Prop} {B : S → State → Prop} {BX : String → SX → State → Prop} {AX : Nat → Prop} (hr : vx_Run p l e R s m args below meth c H locs cells slots mc ms (F0 m pc ls st0) rest (va_Qd post B A1 a) (vx_X px BX AX) free) (hS : va_S A0 H0 H locs) (hA : ∀ q, q < H.size → A1 q → A0 q) (hf : ∀ q, free q → A0 q) (hAX : ∀ q, q < H.size → AX q → A0 q)
    (kx : ∀ (E : String) (ce : Cell) (q9 : Addr) (u : SX) (t : State) (H1 : Heap) (locs1 : List Loc), t.heap = H1 → s.vm.Alike t.vm → px u → BX E u t → H.size ≤ H1.size → (∀ q : Nat, q < H.size → ¬ AX q → H1[q]? = H[q]?) → va_S A0 H0 H1 locs1 → H1[q9]? = some ce → ce.vm = .none → s.vm.findClass E = some ce.cls → vx_W p l e R s m args below meth c H1 locs1 (cells + mc) (slots + ms) Q (F0 m pc ls rest) q9)
    (kk : ∀ (r : UInt64) (u : S) (t : State) (H1 : Heap) (locs1 : List Loc), t.heap = H1 → s.vm.Alike t.vm → post r u → B u t → H.size ≤ H1.size → (∀ q : Nat, q < H.size → ¬ A1 q → H1[q]? = H[q]?) → va_S A0 H0 H1 locs1 → W p l e R s m args below meth c H1 locs1 (cells + mc) (slots + ms) Q (F0 m (pc + 3) ls (.double r :: rest))) : W p l e R s m args below meth c H locs cells slots Q (F0 m pc ls st0) := by
  intro T hT X
  rcases hr T hT X with ⟨v, st₀, t, T', L, h0, X', hL, e1, e2, ⟨⟨r, u, hv, hp, hb⟩, hF⟩, st⟩ | ⟨q, st₀, t, T', L, E, ce, h0, X', hL, e1, e2, ⟨u, hp, hb, hF⟩, hce, hcv, hcl, st⟩
  · cases hv
    obtain ⟨k1, k2, k3⟩ := vx_keep h0 e1 hS hA hf hL hF
    obtain ⟨t2, a1, b1⟩ := kk r u t T'.heap (locs ++ L) e1.symm (by rw [← e2]; exact X'.warmed.alike) hp hb k1 k2 k3 T' rfl X'
    exact ⟨t2, st t2 a1, b1⟩
  · obtain ⟨k1, k2, k3⟩ := vx_keep h0 e1 hS hAX hf hL hF
    obtain ⟨t2, a1, b1⟩ := kx E ce q u t T'.heap (locs ++ L) e1.symm (by rw [← e2]; exact X'.warmed.alike) hp hb k1 k2 k3 (by rw [e1]; exact hce) hcv hcl T' rfl X'
    exact ⟨t2, st.trans a1, b1⟩
theorem vx_callv {S SX : Type} {post : S → Prop} {px : SX → Prop} {B : S → State → Prop} {BX : String → SX → State → Prop} {AX : Nat → Prop} (hr : vx_Run p l e R s m args below meth c H locs cells slots mc ms (F0 m pc ls st0) rest (va_Qv post B A1 a) (vx_X px BX AX) free) (hS : va_S A0 H0 H locs) (hA : ∀ q, q < H.size → A1 q → A0 q) (hf : ∀ q, free q → A0 q) (hAX : ∀ q, q < H.size → AX q → A0 q)
    (kx : ∀ (E : String) (ce : Cell) (q9 : Addr) (u : SX) (t : State) (H1 : Heap) (locs1 : List Loc), t.heap = H1 → s.vm.Alike t.vm → px u → BX E u t → H.size ≤ H1.size → (∀ q : Nat, q < H.size → ¬ AX q → H1[q]? = H[q]?) → va_S A0 H0 H1 locs1 → H1[q9]? = some ce → ce.vm = .none → s.vm.findClass E = some ce.cls → vx_W p l e R s m args below meth c H1 locs1 (cells + mc) (slots + ms) Q (F0 m pc ls rest) q9)
    (kk : ∀ (u : S) (t : State) (H1 : Heap) (locs1 : List Loc), t.heap = H1 → s.vm.Alike t.vm → post u → B u t → H.size ≤ H1.size → (∀ q : Nat, q < H.size → ¬ A1 q → H1[q]? = H[q]?) → va_S A0 H0 H1 locs1 → W p l e R s m args below meth c H1 locs1 (cells + mc) (slots + ms) Q (F0 m (pc + 3) ls (rest))) : W p l e R s m args below meth c H locs cells slots Q (F0 m pc ls st0) := by
  intro T hT X
  rcases hr T hT X with ⟨v, st₀, t, T', L, h0, X', hL, e1, e2, ⟨⟨u, hv, hp, hb⟩, hF⟩, st⟩ | ⟨q, st₀, t, T', L, E, ce, h0, X', hL, e1, e2, ⟨u, hp, hb, hF⟩, hce, hcv, hcl, st⟩
  · cases hv
    obtain ⟨k1, k2, k3⟩ := vx_keep h0 e1 hS hA hf hL hF
    obtain ⟨t2, a1, b1⟩ := kk u t T'.heap (locs ++ L) e1.symm (by rw [← e2]; exact X'.warmed.alike) hp hb k1 k2 k3 T' rfl X'
    exact ⟨t2, st t2 a1, b1⟩
  · obtain ⟨k1, k2, k3⟩ := vx_keep h0 e1 hS hAX hf hL hF
    obtain ⟨t2, a1, b1⟩ := kx E ce q u t T'.heap (locs ++ L) e1.symm (by rw [← e2]; exact X'.warmed.alike) hp hb k1 k2 k3 (by rw [e1]; exact hce) hcv hcl T' rfl X'
    exact ⟨t2, st.trans a1, b1⟩
/-- caught by the row x of this method's table; the rows ahead don't take it -/
theorem vx_catch {own name : String} {E : String} {ce : Cell} {q : Addr} (hown : s.vm.findClass own = some m.cls) (pre : List ExceptionTableEntry) (x : ExceptionTableEntry) (suf : List ExceptionTableEntry) (hsplit : c.exceptionTable.toList = pre ++ x :: suf)
    (hpass : ∀ z ∈ pre, covers z pc = false ∨ (z.catchType ≠ 0 ∧ ∃ nm : String, (Cond.classLink own z.catchType nm).before args s = true ∧ va_Nc E nm s)) (hx : covers x pc = true) (h0 : x.catchType ≠ 0)
    (hlink : (Cond.classLink own x.catchType name).before args s = true) (hcast : (Cond.castable E name).before args s = true) (hcell : H[q]? = some ce) (hv : ce.vm = .none) (hcl : s.vm.findClass E = some ce.cls)
    (kk : W p l e R s m args below meth c H locs cells slots Q (F0 m x.handlerPc ls [.ref q])) : vx_W p l e R s m args below meth c H locs cells slots Q (F0 m pc ls rest) q := by
  intro T hT X
  have hpl : e.platform.magicAccessors = ({} : Platform).magicAccessors := by rw [X.admits.platform]
  obtain ⟨c3, c4, hc3, hc4, hasg⟩ := Cond.castable_spec hcast
  cases Option.some.inj (hc3.symm.trans hcl)
  obtain ⟨c5, hc5, hcl5⟩ := Cond.classLink_spec hown hlink e.platform hpl
  cases Option.some.inj (hc4.symm.trans hc5)
  obtain ⟨vm', X', st⟩ := X.thenCaughtThrough q (g := F0 m pc ls rest) rfl (Steps.refl _) (by rw [hT]; exact hcell) (by rw [hv]; rfl) (by obtain ⟨k9, h9, -⟩ := Vm.findClass_spec hcl; exact ⟨k9, h9⟩) pre x suf hsplit
    (fun z hz => by
      rcases hpass z hz with h | ⟨hz0, nm, hl1, hn1⟩
      · exact Or.inl h
      · obtain ⟨c6, hc6, hcl6⟩ := Cond.classLink_spec hown hl1 e.platform hpl
        obtain ⟨a8, b8, h1, h2, h3⟩ := hn1
        cases Option.some.inj (h1.symm.trans hcl)
        cases Option.some.inj (h2.symm.trans hc6)
        exact Or.inr ⟨hz0, _, hcl6, h3⟩) hx (Or.inr ⟨h0, c4, hcl5, hasg⟩)
  obtain ⟨t, a1, b1⟩ := kk (T.setVm vm') hT X'
  exact ⟨t, st.trans a1, b1⟩
end Rows
section Ends
variable {p : Program} {l : Launch} {e : Env} {R : Room} {s : State} {m : MethodId} {args : Array Value} {below : List Frame} {meth : Method} {c : Code} {H : Heap} {locs : List Loc} {cells slots : Nat} {Q : State → Prop}
variable {mc ms : Nat} {free : Addr → Prop} {A0 A1 : Nat → Prop} {H0 : Heap} {a : Array Value} {ls : Array Slot} {st0 rest : List Value}
variable {Qc : Array Value → State → Outcome → State → Prop} {XC : String → State → State → Prop}
/-- what a body that may throw owes at its end -/
def vx_MQ (below : List Frame) (Qc : Array Value → State → Outcome → State → Prop) (XC : String → State → State → Prop) (a : Array Value) (s : State) (mc ms : Nat) (free : Addr → Prop) : State → Prop := fun t =>
  ∃ o, t.status = .running ∧ Ended t below o ∧ vx_Q Qc XC mc ms free a s o t
theorem vx_ret {g : JFrame} {mc ms : Nat} (k : W p l e R s m args below meth c H locs cells slots (MQ below Qc args s mc ms free) g) : W p l e R s m args below meth c H locs cells slots (vx_MQ below Qc XC args s mc ms free) g := by
  intro T hT X
  obtain ⟨t, a1, o, b1, b2, b3, b4⟩ := k T hT X
  exact ⟨t, a1, o, b1, b2, Or.inl ⟨b3, b4⟩⟩
/-- not caught here: it goes on to the caller -/
theorem vx_widen {g : JFrame} {q : Addr} {k n : Nat} (h1 : cells ≤ k) (h2 : slots ≤ n) (kk : vx_W p l e R s m args below meth c H locs k n Q g q) : vx_W p l e R s m args below meth c H locs cells slots Q g q := fun T hT X => kk T hT (stand_widen X h1 h2)
theorem vx_out {pc : Nat} {E : String} {ce : Cell} {q : Addr} {mc ms : Nat} (hout : ∀ x ∈ c.exceptionTable.toList, covers x pc = false) (hlocks : meth.locks = false) (hcell : H[q]? = some ce) (hv : ce.vm = .none) (hcl : s.vm.findClass E = some ce.cls)
    (hx : ∀ t : State, t.heap = H → s.vm.Alike t.vm → XC E s t) (hf : ∀ z ∈ locs, free z.base) (hc : cells ≤ mc) (hs : slots ≤ ms) :
    vx_W p l e R s m args below meth c H locs cells slots (vx_MQ below Qc XC args s mc ms free) (F0 m pc ls rest) q := by
  intro T hT X
  obtain ⟨st1, hrun, hend, hW, hsm⟩ := X.leaveThrown q (g := F0 m pc ls rest) rfl rfl rfl hout hlocks
  have hcell9 : (T.setFrames (.throwing q :: below)).heap[q]? = some ce := by
    show T.heap[q]? = some ce
    rw [hT]; exact hcell
  exact ⟨_, st1, .threw q, hrun, hend, Or.inr ⟨q, rfl, E, ce, locs, hx _ hT hW.alike, hcell9, hv, hcl, hW, hsm.mono hc hs, hf⟩⟩
theorem vx_frame {U : State} {k n : Nat} (h : s.sameButNew ({ U with vm := s.vm } : State) locs k n) : s.heap.size ≤ U.heap.size ∧ ∀ q : Nat, q < s.heap.size → (∀ z ∈ locs, z.base ≠ q) → U.heap[q]? = s.heap[q]? := by
  obtain ⟨-, h2, -, -, -, h6⟩ := h
  refine ⟨h2, fun q hq hz => ?_⟩
  obtain ⟨c9, e1, e2, e3, e4⟩ := h6 q _ (Array.getElem?_eq_getElem hq)
  have hs : c9.slots = (s.heap[q]).slots := Array.ext_getElem? fun i => e4 i fun hm => hz _ hm rfl
  have h9 : c9 = s.heap[q] := by
    rw [hs] at e2
    exact e2
  have e5 : U.heap[q]? = some c9 := e1
  rw [e5, h9, Array.getElem?_eq_getElem hq]
/-- the words of a throw but the four that speak of the heap -/
def vx_no (w : Cond) : Bool := decide (w ≠ .isRef (.static Bundle.tN "UNASSIGNED_STACK" Bundle.steD)) && decide (w ≠ .isRef (.static Bundle.tN "SUPPRESSED_SENTINEL" Bundle.listD)) && decide (w ≠ .laysStatic Bundle.tN "UNASSIGNED_STACK" Bundle.steD) && decide (w ≠ .laysStatic Bundle.tN "SUPPRESSED_SENTINEL" Bundle.listD)
def vx_at0 (own : String) (ic : Nat) (X : String) (names : List String) : List Cond := (Bundle.ownAtoms0 own ic X names).filter vx_no
def vx_atS (own : String) (ic : Nat) (X : String) (names : List String) : List Cond := (Bundle.ownAtoms own ic X names).filter vx_no
/-- a word that the tables alone decide, or a good one -/
def vx_ot (w : Cond) : Bool := w.onTables || goodWord w
theorem vx_ot_at {args a' : Array Value} {s U : State} {w : Cond} (hW : s.WarmedH U.vm) (hvm : s.vm = U.vm) (hg : vx_ot w = true) (h : w.before args s = true) : w.before a' U = true := by
  simp only [vx_ot, Bool.or_eq_true] at hg
  rcases hg with hg | hg
  · exact va_tabs hg hvm h
  · exact word_at hW (good_of_word hg) h
/-- a list's words: the good ones out of the method's own list, the others by premises of their own -/
theorem vx_hat {args : Array Value} {s : State} {L B : List Cond} (h1 : ∀ w ∈ L.filter goodWord, w.before args s = true) (h2 : ∀ w ∈ L.filter (fun w => !goodWord w), w ∈ B) (h3 : ∀ w ∈ B, w.before args s = true) : ∀ w ∈ L, w.before args s = true := by
  intro w hw
  by_cases g : goodWord w = true
  · exact h1 w (List.mem_filter.mpr ⟨hw, g⟩)
  · refine h3 w (h2 w (List.mem_filter.mpr ⟨hw, ?_⟩))
    show (!goodWord w) = true
    cases hgw : goodWord w
    · rfl
    · exact absurd hgw g
theorem vx_c {args : Array Value} {s : State} {w : Cond} {B : List Cond} (h : w.before args s = true) (t : ∀ w ∈ B, w.before args s = true) : ∀ w' ∈ w :: B, w'.before args s = true := fun w' h' => (List.mem_cons.mp h').elim (fun e => by rw [e]; exact h) (t w')
theorem vx_n {args : Array Value} {s : State} : ∀ w ∈ ([] : List Cond), w.before args s = true := fun _ h => nomatch h
theorem vx_own {args : Array Value} {s : State} {L : List Cond} (h1 : ∀ w ∈ L.filter vx_no, w.before args s = true)
    (hU : (Cond.isRef (.static Bundle.tN "UNASSIGNED_STACK" Bundle.steD)).before args s = true) (hN : (Cond.isRef (.static Bundle.tN "SUPPRESSED_SENTINEL" Bundle.listD)).before args s = true)
    (lU : (Cond.laysStatic Bundle.tN "UNASSIGNED_STACK" Bundle.steD).before args s = true) (lN : (Cond.laysStatic Bundle.tN "SUPPRESSED_SENTINEL" Bundle.listD).before args s = true) : ∀ w ∈ L, w.before args s = true := by
  intro w hw
  by_cases e1 : w = .isRef (.static Bundle.tN "UNASSIGNED_STACK" Bundle.steD)
  · rw [e1]; exact hU
  · by_cases e2 : w = .isRef (.static Bundle.tN "SUPPRESSED_SENTINEL" Bundle.listD)
    · rw [e2]; exact hN
    · by_cases e3 : w = .laysStatic Bundle.tN "UNASSIGNED_STACK" Bundle.steD
      · rw [e3]; exact lU
      · by_cases e4 : w = .laysStatic Bundle.tN "SUPPRESSED_SENTINEL" Bundle.listD
        · rw [e4]; exact lN
        · exact h1 w (List.mem_filter.mpr ⟨hw, by unfold vx_no; rw [decide_eq_true e1, decide_eq_true e2, decide_eq_true e3, decide_eq_true e4]; rfl⟩)
/-- where a static field lies, its class's statics cell in H -/
def vx_L (C n d : String) (A : Nat → Prop) (U : State) (H : Heap) : Prop := ∃ (c : ClassId) (k : Class) (i : Nat) (f : Field) (a : Nat) (cell : Cell), U.vm.findClass C = some c ∧ U.fieldFound? C n d = some (c, k, i, f) ∧ f.isStatic = true ∧ k.statics = some a ∧ H[a]? = some cell ∧ cell.vm.isStatics = true ∧ cell.cls = c ∧ f.slot < cell.slots.size ∧ k.staticTypes[f.slot]? = some f.type ∧ ¬ A a
theorem vx_L.moved {C n d : String} {A : Nat → Prop} {u U : State} {H : Heap} (hvm : u.vm.Alike U.vm) (h : vx_L C n d A u H) : vx_L C n d A U H := by
  obtain ⟨c, k, i, f, a, cell, h1, h2, h3, h4, h5, h6, h7, h8, h9, h10⟩ := h
  obtain ⟨k', hi', he⟩ := State.fieldFound?_setVm hvm h2
  exact ⟨c, k', i, f, a, cell, by rw [hvm.findClass]; exact h1, hi', h3, by rw [he]; exact h4, h5, h6, h7, h8, by rw [he]; exact h9, h10⟩
theorem vx_L.kept {C n d : String} {A : Nat → Prop} {U : State} {H H1 : Heap} (h : vx_L C n d A U H) (hq : ∀ a : Nat, a < H.size → ¬ A a → H1[a]? = H[a]?) : vx_L C n d A U H1 := by
  obtain ⟨c, k, i, f, a, cell, h1, h2, h3, h4, h5, h6, h7, h8, h9, h10⟩ := h
  exact ⟨c, k, i, f, a, cell, h1, h2, h3, h4, by rw [hq a (Array.getElem?_eq_some_iff.mp h5).1 h10]; exact h5, h6, h7, h8, h9, h10⟩
theorem vx_L.narrow {C n d : String} {A B : Nat → Prop} {U : State} {H : Heap} (h : vx_L C n d A U H) (hAB : ∀ q, B q → A q) : vx_L C n d B U H := by
  obtain ⟨c, k, i, f, a, cell, h1, h2, h3, h4, h5, h6, h7, h8, h9, h10⟩ := h
  exact ⟨c, k, i, f, a, cell, h1, h2, h3, h4, h5, h6, h7, h8, h9, fun z => h10 (hAB _ z)⟩
theorem vx_L.word {C n d : String} {A : Nat → Prop} {s : State} {args : Array Value} (h : vx_L C n d A s s.heap) : (Cond.laysStatic C n d).before args s = true := by
  obtain ⟨c, k, i, f, a, cell, h1, h2, h3, h4, h5, h6, h7, h8, h9, -⟩ := h
  show (Cond.laysStatic C n d).holds args s none s [] = true
  exact Cond.laysStatic_of h1 h2 h3 h4 h5 h6 h7 h8 h9
/-- .. and what it holds: null or some reference -/
def vx_Zq (C n d : String) (A : Nat → Prop) (U : State) (H : Heap) : Prop := va_Zq C n d A U H ∧ vx_L C n d A U H
theorem vx_Zq.moved {C n d : String} {A : Nat → Prop} {u U : State} {H : Heap} (hvm : u.vm.Alike U.vm) (h : vx_Zq C n d A u H) : vx_Zq C n d A U H := ⟨va_Zq.moved hvm h.1, vx_L.moved hvm h.2⟩
theorem vx_Zq.kept {C n d : String} {A : Nat → Prop} {U : State} {H H1 : Heap} (h : vx_Zq C n d A U H) (hq : ∀ a : Nat, a < H.size → ¬ A a → H1[a]? = H[a]?) : vx_Zq C n d A U H1 := ⟨va_Zq.kept h.1 hq, vx_L.kept h.2 hq⟩
theorem vx_Zq.narrow {C n d : String} {A B : Nat → Prop} {U : State} {H : Heap} (h : vx_Zq C n d A U H) (hAB : ∀ q, B q → A q) : vx_Zq C n d B U H := ⟨va_Zq.narrow h.1 hAB, vx_L.narrow h.2 hAB⟩
theorem vx_Zqof {args : Array Value} {s : State} {C n d : String} {A : Nat → Prop} (hl : (Cond.laysStatic C n d).before args s = true) (hini : (Cond.initialized C).before args s = true) (h : (Cond.isRef (.static C n d)).before args s = true) (hA : ∀ a : Nat, a < s.heap.size → ¬ A a) : vx_Zq C n d A s s.heap := by
  refine ⟨va_Zqof hl hini h hA, ?_⟩
  obtain ⟨c, k, i, f, a, cell, h1, h2, h3, h4, h5, h6, h7, h8, h9⟩ := Cond.laysStatic_spec hl
  exact ⟨c, k, i, f, a, cell, h1, h2, h3, h4, h5, h6, h7, h8, h9, hA a (Array.getElem?_eq_some_iff.mp h5).1⟩
theorem vx_isRef {C n d : String} {v : Value} {A : Nat → Prop} {s : State} {args : Array Value} (h : va_Z C n d v A s s.heap) (hv : v.isRef = true) : (Cond.isRef (.static C n d)).before args s = true := by
  obtain ⟨cf, kf, fi, f, a, cell, h1, h2, h3, h4, h5, h6, h7, -⟩ := h
  have he : (Term.static C n d).eval args s none [] s = some v := by
    simp [Term.eval, State.fieldNamed?, h1, h2, h4, h5, h6, h7]
  simp only [Cond.before, Cond.holds, Cond.value, he]
  cases v <;> simp_all [Value.isRef]
theorem vx_isRefq {C n d : String} {A : Nat → Prop} {s : State} {args : Array Value} (h : va_Zq C n d A s s.heap) : (Cond.isRef (.static C n d)).before args s = true := by
  rcases h with h | ⟨t, h⟩
  · exact vx_isRef h rfl
  · exact vx_isRef h rfl
/-- the same frame, seen from here: as if the method were called anew in this heap -/
theorem vx_rebase {T : State} (X : Stand p l e R s m args below meth c T locs cells slots) {R' : Room} (hf : R'.frames ≤ R.frames) (hl : R'.locals ≤ R.locals) (hc : cells + R'.cells ≤ R.cells) (hs : slots + R'.slots ≤ R.slots) :
    Stand p l e R' ((T.setVm s.vm).setFrames (.invoking m args :: below)) m args below meth c T [] 0 0 := by
  have htop : (T.setVm s.vm).topJava?.isSome := X.here.top
  have hF : ((T.setVm s.vm).setFrames (.invoking m args :: below)).frames = .invoking m args :: below := State.frames_setFrames _ (State.cur_lt_of_top htop)
  obtain ⟨g₀, hg0⟩ := Option.isSome_iff_exists.mp htop
  obtain ⟨r, hr⟩ := State.topJava?_eq_some.mp hg0
  have hl9 : e.platform.stackLimits (T.setVm s.vm).me = e.platform.stackLimits s.me := X.limits
  have hb9 : (T.setVm s.vm).me.stackBytes = s.me.stackBytes := X.bytes
  refine ⟨X.admits, X.cas, X.clock, hF, ?_, X.hears, X.method, X.code, X.here, X.tail, X.warmed, ?_, ?_, ?_⟩
  · have h := X.room
    have hU : ((T.setVm s.vm).setFrames (.invoking m args :: below)).localsInUse = s.localsInUse := by
      rw [State.localsInUse_invoking hF (meth := meth) (c := c) X.method X.code, State.localsInUse_invoking X.frames X.method X.code]
    simp only [State.hasRoom, Bool.and_eq_true, decide_eq_true_eq] at h ⊢
    obtain ⟨⟨⟨⟨h1, h2, h3, h4, h5, h6⟩, h7⟩, h8⟩, h9⟩ := h
    rw [X.frames, List.length_cons] at h2 h3
    have q1 := X.heapSize
    have q2 := X.used
    simp only [hF, hU, List.length_cons, State.stackLimits_setFrames, State.stackBytes_setFrames, hl9, hb9]
    refine ⟨⟨⟨⟨by omega, by omega, by omega, by omega, by omega, h6⟩, ?_⟩, ?_⟩, X.book⟩
    · show T.heap.size + R'.cells ≤ e.platform.maxCells
      omega
    · show T.slotsUsed + R'.slots ≤ e.platform.maxSlots
      omega
  · rw [State.stackLimits_setFrames]; rfl
  · rw [State.stackBytes_setFrames]; rfl
  · refine ⟨?_, Nat.le_refl _, Nat.le_refl _, ?_, ?_, fun a c9 h9 => ⟨c9, h9, rfl, rfl, fun _ _ => rfl⟩⟩
    · obtain ⟨t, ht, -⟩ := State.frames_cons hr
      show T.setVm s.vm = { ((T.setVm s.vm).setFrames (.invoking m args :: below)).setFrames (T.setVm s.vm).frames with heap := T.heap, slotsUsed := T.slotsUsed }
      rw [State.setFrames_setFrames, State.setFrames_self ht]
      rfl
    · show T.slotsUsed = T.slotsUsed + ((T.heap.toList.drop T.heap.size).map (·.slots.size)).sum
      rw [List.drop_eq_nil_of_le (Nat.le_of_eq Array.length_toList)]
      rfl
    · show ((T.heap.toList.drop T.heap.size).map (·.slots.size)).sum ≤ 0
      rw [List.drop_eq_nil_of_le (Nat.le_of_eq Array.length_toList)]
      exact Nat.le_refl _
/-- 'throw new E()': new; dup; invokespecial; athrow -/
theorem vx_throw0 {cc : ByteArray} {pc : Nat} (hexec : p.tables.exec = Jvm.exec) (hb : c.code = cc) (hl : l.stackTraces = false) {own cls : String} {names : List String} {ik ic mc ms : Nat} {A : Nat → Prop}
    (hown : s.vm.findClass own = some m.cls) (hcls : Bundle.fit cls = true) (hnames : ∀ n ∈ names, Bundle.fit n = true)
    (hk : (Cond.classLink own ik cls).before args s = true) (hini : (Cond.initialized cls).before args s = true) (hat : ∀ w ∈ vx_at0 own ic cls names, w.before args s = true)
    (hgood : ∀ w ∈ Cond.classLink own ik cls :: Cond.initialized cls :: vx_at0 own ic cls names, vx_ot w = true)
    (hU : vx_Zq Bundle.tN "UNASSIGNED_STACK" Bundle.steD A s s.heap) (hN : vx_Zq Bundle.tN "SUPPRESSED_SENTINEL" Bundle.listD A s s.heap) (hS : va_S A s.heap H locs) (hsize : ls.size = c.maxLocals)
    (d0 : decode cc pc = .ok (.new ik, 3)) (d3 : decode cc (pc + 3) = .ok (.dup, 1)) (d4 : decode cc (pc + 4) = .ok (.invokespecial ic, 3)) (d7 : decode cc (pc + 7) = .ok (.athrow, 1))
    (hout : ∀ x ∈ c.exceptionTable.toList, covers x (pc + 7) = false)
    (hRframes : names.length + 3 < R.frames) (hRlocals : (rest.map fun v => v.category).sum + (13 * (names.length + 1) + 42) ≤ R.locals) (hRcells : cells + 1 ≤ R.cells) (hRslots : slots + 6 ≤ R.slots) (hlocks : meth.locks = false)
    (hx : ∀ t : State, s.vm.Alike t.vm → H.size ≤ t.heap.size → (∀ q : Nat, q < H.size → t.heap[q]? = H[q]?) → XC cls s t)
    (hf : ∀ z ∈ locs, free z.base) (hc : cells + 1 ≤ mc) (hs : slots + 6 ≤ ms) :
    W p l e R s m args below meth c H locs cells slots (vx_MQ below Qc XC args s mc ms free) (F0 m pc ls rest) := by
  intro T hT X
  have htr : e.platform.stackTraces = false := (show e.platform.stackTraces = l.stackTraces by rw [X.admits.platform]).trans hl
  have Y := vx_rebase X (R' := { frames := R.frames, locals := R.locals, cells := 1, slots := 6 }) (Nat.le_refl _) (Nat.le_refl _) hRcells hRslots
  obtain ⟨s', hA⟩ : ∃ z, z = (T.setVm s.vm).setFrames (.invoking m args :: below) := ⟨_, rfl⟩
  rw [← hA] at Y
  have hvm : s'.vm = s.vm := by rw [hA]; rfl
  have hhp : s'.heap = H := by rw [hA]; exact hT
  have hW0 : s.WarmedH s'.vm := by rw [hvm]; exact State.WarmedH.refl s
  have hat' : ∀ w ∈ vx_at0 own ic cls names, w.before args s' = true := fun w hw => vx_ot_at hW0 hvm.symm (hgood w (List.mem_cons_of_mem _ (List.mem_cons_of_mem _ hw))) (hat w hw)
  have hk' : (Cond.classLink own ik cls).before args s' = true := vx_ot_at hW0 hvm.symm (hgood _ List.mem_cons_self) hk
  have hini' : (Cond.initialized cls).before args s' = true := vx_ot_at hW0 hvm.symm (hgood _ (List.mem_cons_of_mem _ List.mem_cons_self)) hini
  have hU' : vx_Zq Bundle.tN "UNASSIGNED_STACK" Bundle.steD A s' s'.heap := by rw [hhp]; exact vx_Zq.moved hW0.alike (hU.kept hS.2.1)
  have hN' : vx_Zq Bundle.tN "SUPPRESSED_SENTINEL" Bundle.listD A s' s'.heap := by rw [hhp]; exact vx_Zq.moved hW0.alike (hN.kept hS.2.1)
  have h : ∀ w ∈ Bundle.ownAtoms0 own ic cls names, w.before args s' = true := vx_own hat' (vx_isRefq hU'.1) (vx_isRefq hN'.1) hU'.2.word hN'.2.word
  have hown' : s'.vm.findClass own = some m.cls := by rw [hvm]; exact hown
  have hins : (Cond.instantiable cls 6).before args s' = true := h _ (by simp [Bundle.ownAtoms0])
  obtain ⟨vm₁, cX, kX, hfX, hkX, -, -, X₁, st1⟩ := Y.newCold hexec (own := own) (C := cls) (index := ik) (n := 6) hown' hk' hins hini'
    (g := F0 m pc ls rest) rfl (by rw [hb]; exact d0) (Nat.le_refl _) (Nat.le_refl _)
  generalize hT1 : (T.setVm vm₁).pushCell { cls := cX, slots := kX.instanceTypes.map defaultValue, vm := .none } = T1 at X₁ st1
  have hcat : (Value.ref T.heap.size).category = 1 := rfl
  have hcellA : T1.heap[T.heap.size]? = some (freshCell cX kX) := by rw [← hT1]; exact State.heap_pushCell_size _ _
  have d3' : decode c.code (pc + 3) = .ok (.dup, 1) := by rw [hb]; exact d3
  obtain ⟨U, hsteps, hrun, hend, hW, hsame, ce, hce, hO⟩ := X₁.ctorThrow0 hexec htr (own := own) (cls := cls) (names := names) (ic := ic) hown' hcls hnames h (fun x hx => nomatch hx) hfX hkX hcellA (by rw [hhp, hT]; exact Nat.le_refl _)
    (g := { method := m, pc := pc + 4, locals := ls, stack := .ref T.heap.size :: .ref T.heap.size :: rest, locked := none }) rfl hsize rfl rfl (rest := rest) rfl
    (by rw [hb]; exact d4) (by rw [hb]; exact d7) hout hRframes (by simp only [List.map_cons, List.sum_cons, hcat]; omega) hlocks
  obtain ⟨f1, f2⟩ := vx_frame hsame
  rw [hhp] at f1 f2
  have hWs : s.WarmedH U.vm := State.WarmedH.trans hW0 hW
  have hcl : s.vm.findClass cls = some ce.cls := by
    have h9 := hO.cls
    rw [hvm] at h9
    exact h9
  have hall : s.sameButNew ({ U with vm := s.vm } : State) locs mc ms := by
    subst hA
    obtain ⟨e1, e2⟩ := hsame
    rw [State.setFrames_setFrames] at e1
    have h2 : (T.setVm s.vm).sameButNew ({ U with vm := s.vm } : State) [] (0 + 1) (0 + 6) := ⟨e1, e2⟩
    have h3 := X.same.trans h2
    rw [List.append_nil] at h3
    exact h3.mono hc hs
  refine ⟨U, ?_, .threw T.heap.size, hrun, hend, Or.inr ⟨T.heap.size, rfl, cls, ce, locs, hx U hWs.alike f1 (fun q hq => f2 q hq (fun z hz => nomatch hz)), hce, hO.vm, hcl, hWs, hall, hf⟩⟩
  refine st1 _ ?_
  show Steps p.tables e below (T1.setTop { method := m, pc := pc + 3, locals := ls, stack := .ref T.heap.size :: rest, locked := none }) _
  jvm_step X₁.here [X₁.here.top, hexec, d3', Value.category]
  exact hsteps
/-- 'throw new E("text")': new; dup; ldc; invokespecial; athrow -/
theorem vx_throwS {cc : ByteArray} {pc : Nat} (hexec : p.tables.exec = Jvm.exec) (hb : c.code = cc) (hl : l.stackTraces = false) {own cls text : String} {names : List String} {ik is ic mc ms sa : Nat} {A : Nat → Prop}
    (hown : s.vm.findClass own = some m.cls) (hcls : Bundle.fit cls = true) (hnames : ∀ n ∈ names, Bundle.fit n = true)
    (hk : (Cond.classLink own ik cls).before args s = true) (hini : (Cond.initialized cls).before args s = true) (hstr : vk_R own is text sa s) (hat : ∀ w ∈ vx_atS own ic cls names, w.before args s = true)
    (hgood : ∀ w ∈ Cond.classLink own ik cls :: Cond.initialized cls :: vx_atS own ic cls names, vx_ot w = true)
    (hU : vx_Zq Bundle.tN "UNASSIGNED_STACK" Bundle.steD A s s.heap) (hN : vx_Zq Bundle.tN "SUPPRESSED_SENTINEL" Bundle.listD A s s.heap) (hS : va_S A s.heap H locs) (hsize : ls.size = c.maxLocals)
    (d0 : decode cc pc = .ok (.new ik, 3)) (d3 : decode cc (pc + 3) = .ok (.dup, 1)) (d4 : decode cc (pc + 4) = .ok (.ldc is, 2)) (d6 : decode cc (pc + 6) = .ok (.invokespecial ic, 3)) (d9 : decode cc (pc + 9) = .ok (.athrow, 1))
    (hout : ∀ x ∈ c.exceptionTable.toList, covers x (pc + 9) = false)
    (hRframes : names.length + 3 < R.frames) (hRlocals : (rest.map fun v => v.category).sum + (13 * (names.length + 1) + 43) ≤ R.locals) (hRcells : cells + 1 ≤ R.cells) (hRslots : slots + 6 ≤ R.slots) (hlocks : meth.locks = false)
    (hx : ∀ t : State, s.vm.Alike t.vm → H.size ≤ t.heap.size → (∀ q : Nat, q < H.size → t.heap[q]? = H[q]?) → XC cls s t)
    (hf : ∀ z ∈ locs, free z.base) (hc : cells + 1 ≤ mc) (hs : slots + 6 ≤ ms) :
    W p l e R s m args below meth c H locs cells slots (vx_MQ below Qc XC args s mc ms free) (F0 m pc ls rest) := by
  intro T hT X
  have htr : e.platform.stackTraces = false := (show e.platform.stackTraces = l.stackTraces by rw [X.admits.platform]).trans hl
  have Y := vx_rebase X (R' := { frames := R.frames, locals := R.locals, cells := 1, slots := 6 }) (Nat.le_refl _) (Nat.le_refl _) hRcells hRslots
  obtain ⟨s', hA⟩ : ∃ z, z = (T.setVm s.vm).setFrames (.invoking m args :: below) := ⟨_, rfl⟩
  rw [← hA] at Y
  have hvm : s'.vm = s.vm := by rw [hA]; rfl
  have hhp : s'.heap = H := by rw [hA]; exact hT
  have hW0 : s.WarmedH s'.vm := by rw [hvm]; exact State.WarmedH.refl s
  have hat' : ∀ w ∈ vx_atS own ic cls names, w.before args s' = true := fun w hw => vx_ot_at hW0 hvm.symm (hgood w (List.mem_cons_of_mem _ (List.mem_cons_of_mem _ hw))) (hat w hw)
  have hk' : (Cond.classLink own ik cls).before args s' = true := vx_ot_at hW0 hvm.symm (hgood _ List.mem_cons_self) hk
  have hini' : (Cond.initialized cls).before args s' = true := vx_ot_at hW0 hvm.symm (hgood _ (List.mem_cons_of_mem _ List.mem_cons_self)) hini
  have hU' : vx_Zq Bundle.tN "UNASSIGNED_STACK" Bundle.steD A s' s'.heap := by rw [hhp]; exact vx_Zq.moved hW0.alike (hU.kept hS.2.1)
  have hN' : vx_Zq Bundle.tN "SUPPRESSED_SENTINEL" Bundle.listD A s' s'.heap := by rw [hhp]; exact vx_Zq.moved hW0.alike (hN.kept hS.2.1)
  have h : ∀ w ∈ Bundle.ownAtoms own ic cls names, w.before args s' = true := vx_own hat' (vx_isRefq hU'.1) (vx_isRefq hN'.1) hU'.2.word hN'.2.word
  have hown' : s'.vm.findClass own = some m.cls := by rw [hvm]; exact hown
  have hins : (Cond.instantiable cls 6).before args s' = true := h _ (by simp [Bundle.ownAtoms])
  obtain ⟨vm₁, cX, kX, hfX, hkX, -, -, X₁, st1⟩ := Y.newCold hexec (own := own) (C := cls) (index := ik) (n := 6) hown' hk' hins hini'
    (g := F0 m pc ls rest) rfl (by rw [hb]; exact d0) (Nat.le_refl _) (Nat.le_refl _)
  generalize hT1 : (T.setVm vm₁).pushCell { cls := cX, slots := kX.instanceTypes.map defaultValue, vm := .none } = T1 at X₁ st1
  have hcat : (Value.ref T.heap.size).category = 1 := rfl
  have hcellA : T1.heap[T.heap.size]? = some (freshCell cX kX) := by rw [← hT1]; exact State.heap_pushCell_size _ _
  have d3' : decode c.code (pc + 3) = .ok (.dup, 1) := by rw [hb]; exact d3
  have d4' : decode c.code (pc + 4) = .ok (.ldc is, 2) := by rw [hb]; exact d4
  have hstr' : vk_R own is text sa s' := vk_R.warm hW0 hstr
  obtain ⟨U, hsteps, hrun, hend, hW, hsame, ce, hce, hO⟩ := X₁.ctorThrowS hexec htr (own := own) (cls := cls) (names := names) (ic := ic) hown' hcls hnames h (fun x hx => nomatch hx) hfX hkX hcellA (by rw [hhp, hT]; exact Nat.le_refl _) (msg := .ref sa) rfl
    (g := { method := m, pc := pc + 6, locals := ls, stack := .ref sa :: .ref T.heap.size :: .ref T.heap.size :: rest, locked := none }) rfl hsize rfl rfl (rest := rest) rfl
    (by rw [hb]; exact d6) (by rw [hb]; exact d9) hout hRframes (by simp only [List.map_cons, List.sum_cons, hcat]; omega) hlocks
  obtain ⟨f1, f2⟩ := vx_frame hsame
  rw [hhp] at f1 f2
  have hWs : s.WarmedH U.vm := State.WarmedH.trans hW0 hW
  have hcl : s.vm.findClass cls = some ce.cls := by
    have h9 := hO.cls
    rw [hvm] at h9
    exact h9
  have hall : s.sameButNew ({ U with vm := s.vm } : State) locs mc ms := by
    subst hA
    obtain ⟨e1, e2⟩ := hsame
    rw [State.setFrames_setFrames] at e1
    have h2 : (T.setVm s.vm).sameButNew ({ U with vm := s.vm } : State) [] (0 + 1) (0 + 6) := ⟨e1, e2⟩
    have h3 := X.same.trans h2
    rw [List.append_nil] at h3
    exact h3.mono hc hs
  refine ⟨U, ?_, .threw T.heap.size, hrun, hend, Or.inr ⟨T.heap.size, rfl, cls, ce, locs, hx U hWs.alike f1 (fun q hq => f2 q hq (fun z hz => nomatch hz)), hce, hO.vm, hcl, hWs, hall, hf⟩⟩
  refine st1 _ ?_
  show Steps p.tables e below (T1.setTop { method := m, pc := pc + 3, locals := ls, stack := .ref T.heap.size :: rest, locked := none }) _
  jvm_step X₁.here [X₁.here.top, hexec, d3', Value.category]
  exact X₁.ldcString hexec (own := own) (text := text) (index := is) (a := sa) hown' hstr'.1 hstr'.2
    (g := { method := m, pc := pc + 4, locals := ls, stack := .ref T.heap.size :: .ref T.heap.size :: rest, locked := none }) rfl d4' _ hsteps
/-- 'throw new E("text")', the text by a wide index -/
theorem vx_throwSW {cc : ByteArray} {pc : Nat} (hexec : p.tables.exec = Jvm.exec) (hb : c.code = cc) (hl : l.stackTraces = false) {own cls text : String} {names : List String} {ik is ic mc ms sa : Nat} {A : Nat → Prop}
    (hown : s.vm.findClass own = some m.cls) (hcls : Bundle.fit cls = true) (hnames : ∀ n ∈ names, Bundle.fit n = true)
    (hk : (Cond.classLink own ik cls).before args s = true) (hini : (Cond.initialized cls).before args s = true) (hstr : vk_R own is text sa s) (hat : ∀ w ∈ vx_atS own ic cls names, w.before args s = true)
    (hgood : ∀ w ∈ Cond.classLink own ik cls :: Cond.initialized cls :: vx_atS own ic cls names, vx_ot w = true)
    (hU : vx_Zq Bundle.tN "UNASSIGNED_STACK" Bundle.steD A s s.heap) (hN : vx_Zq Bundle.tN "SUPPRESSED_SENTINEL" Bundle.listD A s s.heap) (hS : va_S A s.heap H locs) (hsize : ls.size = c.maxLocals)
    (d0 : decode cc pc = .ok (.new ik, 3)) (d3 : decode cc (pc + 3) = .ok (.dup, 1)) (d4 : decode cc (pc + 4) = .ok (.ldc_w is, 3)) (d7 : decode cc (pc + 7) = .ok (.invokespecial ic, 3)) (d10 : decode cc (pc + 10) = .ok (.athrow, 1))
    (hout : ∀ x ∈ c.exceptionTable.toList, covers x (pc + 10) = false)
    (hRframes : names.length + 3 < R.frames) (hRlocals : (rest.map fun v => v.category).sum + (13 * (names.length + 1) + 43) ≤ R.locals) (hRcells : cells + 1 ≤ R.cells) (hRslots : slots + 6 ≤ R.slots) (hlocks : meth.locks = false)
    (hx : ∀ t : State, s.vm.Alike t.vm → H.size ≤ t.heap.size → (∀ q : Nat, q < H.size → t.heap[q]? = H[q]?) → XC cls s t)
    (hf : ∀ z ∈ locs, free z.base) (hc : cells + 1 ≤ mc) (hs : slots + 6 ≤ ms) :
    W p l e R s m args below meth c H locs cells slots (vx_MQ below Qc XC args s mc ms free) (F0 m pc ls rest) := by
  intro T hT X
  have htr : e.platform.stackTraces = false := (show e.platform.stackTraces = l.stackTraces by rw [X.admits.platform]).trans hl
  have Y := vx_rebase X (R' := { frames := R.frames, locals := R.locals, cells := 1, slots := 6 }) (Nat.le_refl _) (Nat.le_refl _) hRcells hRslots
  obtain ⟨s', hA⟩ : ∃ z, z = (T.setVm s.vm).setFrames (.invoking m args :: below) := ⟨_, rfl⟩
  rw [← hA] at Y
  have hvm : s'.vm = s.vm := by rw [hA]; rfl
  have hhp : s'.heap = H := by rw [hA]; exact hT
  have hW0 : s.WarmedH s'.vm := by rw [hvm]; exact State.WarmedH.refl s
  have hat' : ∀ w ∈ vx_atS own ic cls names, w.before args s' = true := fun w hw => vx_ot_at hW0 hvm.symm (hgood w (List.mem_cons_of_mem _ (List.mem_cons_of_mem _ hw))) (hat w hw)
  have hk' : (Cond.classLink own ik cls).before args s' = true := vx_ot_at hW0 hvm.symm (hgood _ List.mem_cons_self) hk
  have hini' : (Cond.initialized cls).before args s' = true := vx_ot_at hW0 hvm.symm (hgood _ (List.mem_cons_of_mem _ List.mem_cons_self)) hini
  have hU' : vx_Zq Bundle.tN "UNASSIGNED_STACK" Bundle.steD A s' s'.heap := by rw [hhp]; exact vx_Zq.moved hW0.alike (hU.kept hS.2.1)
  have hN' : vx_Zq Bundle.tN "SUPPRESSED_SENTINEL" Bundle.listD A s' s'.heap := by rw [hhp]; exact vx_Zq.moved hW0.alike (hN.kept hS.2.1)
  have h : ∀ w ∈ Bundle.ownAtoms own ic cls names, w.before args s' = true := vx_own hat' (vx_isRefq hU'.1) (vx_isRefq hN'.1) hU'.2.word hN'.2.word
  have hown' : s'.vm.findClass own = some m.cls := by rw [hvm]; exact hown
  have hins : (Cond.instantiable cls 6).before args s' = true := h _ (by simp [Bundle.ownAtoms])
  obtain ⟨vm₁, cX, kX, hfX, hkX, -, -, X₁, st1⟩ := Y.newCold hexec (own := own) (C := cls) (index := ik) (n := 6) hown' hk' hins hini'
    (g := F0 m pc ls rest) rfl (by rw [hb]; exact d0) (Nat.le_refl _) (Nat.le_refl _)
  generalize hT1 : (T.setVm vm₁).pushCell { cls := cX, slots := kX.instanceTypes.map defaultValue, vm := .none } = T1 at X₁ st1
  have hcat : (Value.ref T.heap.size).category = 1 := rfl
  have hcellA : T1.heap[T.heap.size]? = some (freshCell cX kX) := by rw [← hT1]; exact State.heap_pushCell_size _ _
  have d3' : decode c.code (pc + 3) = .ok (.dup, 1) := by rw [hb]; exact d3
  have d4' : decode c.code (pc + 4) = .ok (.ldc_w is, 3) := by rw [hb]; exact d4
  have hstr' : vk_R own is text sa s' := vk_R.warm hW0 hstr
  obtain ⟨U, hsteps, hrun, hend, hW, hsame, ce, hce, hO⟩ := X₁.ctorThrowS hexec htr (own := own) (cls := cls) (names := names) (ic := ic) hown' hcls hnames h (fun x hx => nomatch hx) hfX hkX hcellA (by rw [hhp, hT]; exact Nat.le_refl _) (msg := .ref sa) rfl
    (g := { method := m, pc := pc + 7, locals := ls, stack := .ref sa :: .ref T.heap.size :: .ref T.heap.size :: rest, locked := none }) rfl hsize rfl rfl (rest := rest) rfl
    (by rw [hb]; exact d7) (by rw [hb]; exact d10) hout hRframes (by simp only [List.map_cons, List.sum_cons, hcat]; omega) hlocks
  obtain ⟨f1, f2⟩ := vx_frame hsame
  rw [hhp] at f1 f2
  have hWs : s.WarmedH U.vm := State.WarmedH.trans hW0 hW
  have hcl : s.vm.findClass cls = some ce.cls := by
    have h9 := hO.cls
    rw [hvm] at h9
    exact h9
  have hall : s.sameButNew ({ U with vm := s.vm } : State) locs mc ms := by
    subst hA
    obtain ⟨e1, e2⟩ := hsame
    rw [State.setFrames_setFrames] at e1
    have h2 : (T.setVm s.vm).sameButNew ({ U with vm := s.vm } : State) [] (0 + 1) (0 + 6) := ⟨e1, e2⟩
    have h3 := X.same.trans h2
    rw [List.append_nil] at h3
    exact h3.mono hc hs
  refine ⟨U, ?_, .threw T.heap.size, hrun, hend, Or.inr ⟨T.heap.size, rfl, cls, ce, locs, hx U hWs.alike f1 (fun q hq => f2 q hq (fun z hz => nomatch hz)), hce, hO.vm, hcl, hWs, hall, hf⟩⟩
  refine st1 _ ?_
  show Steps p.tables e below (T1.setTop { method := m, pc := pc + 3, locals := ls, stack := .ref T.heap.size :: rest, locked := none }) _
  jvm_step X₁.here [X₁.here.top, hexec, d3', Value.category]
  exact X₁.ldcStringW hexec (own := own) (text := text) (index := is) (a := sa) hown' hstr'.1 hstr'.2
    (g := { method := m, pc := pc + 4, locals := ls, stack := .ref T.heap.size :: .ref T.heap.size :: rest, locked := none }) rfl d4' _ hsteps
end Ends
section Bodies
variable {l : Launch}
theorem vx_ofW {y : MethodName} {ws ws' : List Cond} {rm : Room} {Pc : Array Value → State → Prop} {Qc : Array Value → State → Outcome → State → Prop} {XC : String → State → State → Prop} {mc ms : Nat} {free : Addr → Prop} {cc : ByteArray} {maxL : Nat} {ret : Option FieldType}
    (hy : plainName y.cls = true) (hw : ws = Cond.code y cc maxL ret :: ws')
    (body : ∀ p e s m args below meth c s₁, BodyLoose p l y (headSpec ws rm) cc maxL ret e s m args below meth c s₁ → c.maxLocals = maxL → (∀ x ∈ c.exceptionTable.toList, False) → Pc args s →
      W p l e (headSpec ws rm).room s m args below meth c s.heap [] 0 0 (vx_MQ below Qc XC args s mc ms free) (entryFrame m args maxL)) : vx_Met l y ws rm Pc Qc XC mc ms free := by
  refine MetFree.of_bodyS (code := cc) (maxLocals := maxL) (ret := ret) hy ?_ ?_
  · intro args s m h hn
    obtain ⟨meth, c, h1, h2, h3, h4, h5, h6, -, -⟩ := Cond.code_spec hn (atoms_spec (ws := ws) h _ (by rw [hw]; exact List.mem_cons_self))
    exact ⟨meth, c, h1, h2, h3, h4, h5, h6⟩
  · intro p e s m args below meth c s₁ B hml hP _
    have hh0 : s₁.heap = s.heap := by rw [B.state]; rfl
    have ht : ∀ x ∈ c.exceptionTable.toList, False := by
      obtain ⟨meth9, c9, h1, h2, -, -, -, -, h7, -⟩ := Cond.code_spec B.named (atoms_spec (ws := ws) B.pre _ (by rw [hw]; exact List.mem_cons_self))
      cases Option.some.inj (h1.symm.trans B.method)
      cases Option.some.inj (h2.symm.trans (Stand.of_body B).code)
      intro x hx
      rw [Array.isEmpty_iff.mp h7] at hx
      cases hx
    obtain ⟨t, a1, o, b1, b2, b3⟩ := body p e s m args below meth c s₁ B hml ht hP s₁ hh0 (Stand.of_body B)
    exact ⟨t, o, a1, b1, b2, b3⟩
/-- the table of a body with handlers -/
theorem vx_table {p : Program} {x y : MethodName} {S : Spec} {cc bytes : ByteArray} {maxL maxL' : Nat} {ret ret' : Option FieldType} {e : Env} {s s₁ : State} {m : MethodId} {args : Array Value} {below : List Frame} {meth : Method} {c : Code} {hh : List (Nat × Nat × Nat × Nat)}
    (B : BodyLoose p l y S cc maxL ret e s m args below meth c s₁) (h : (Cond.codeWith y bytes maxL' ret' hh).before args s = true) : c.exceptionTable.toList = tableOf hh := by
  obtain ⟨m9, meth9, c9, hn9, h1, h2, -, -, h6, -⟩ := Cond.codeWith_spec h
  cases Option.some.inj (hn9.symm.trans B.named)
  cases Option.some.inj (h1.symm.trans B.method)
  cases Option.some.inj (h2.symm.trans (Stand.of_body B).code)
  rw [← h6, table_eq]
end Bodies
end VXA
/-! ===== END ===== -/
/-! ===== BEGIN a static call of a method with an exception table ===== -/
section VXS
variable {p : Program} {l : Launch} {e : Env} {R : Room} {s : State} {m : MethodId} {args : Array Value} {below : List Frame} {meth : Method} {c : Code} {T : State} {H : Heap} {locs : List Loc} {cells slots : Nat}
abbrev vx_CSW (R : Room) (s : State) (args : Array Value) (own : String) (index : Nat) (y : MethodName) (bytes : ByteArray) (maxL : Nat) (ret : Option FieldType) (hh : List (Nat × Nat × Nat × Nat)) (ws : List Cond) (rm : Room) (mc ms n : Nat) : Prop :=
  (rm.cells = mc ∧ rm.slots = ms ∧ rm.frames + 1 ≤ R.frames ∧ 8 + (maxL + 11) + rm.locals ≤ R.locals ∧ (∀ w ∈ ws, ∀ (a' : Array Value) (U : State), s.WarmedH U.vm → w.before a' U = true) ∧ Cond.codeWith y bytes maxL ret hh ∈ ws) ∧
  (Cond.codeWith y bytes maxL ret hh).before args s = true ∧ (Cond.initialized y.cls).before args s = true ∧ (y.cls ≠ "java/lang/invoke/MethodHandle" ∧ y.cls ≠ "java/lang/invoke/VarHandle") ∧
  (∀ sig, parseMethodDescriptor y.desc = some sig → n = sig.parameters.length) ∧ (Cond.methodLink own index y).before args s = true ∧ (Cond.static y).before args s = true
theorem vx_cwSW {own : String} {index maxL mc ms : Nat} {y : MethodName} {bytes : ByteArray} {ret : Option FieldType} {hh : List (Nat × Nat × Nat × Nat)} {Ts ws ws' : List Cond} {rm : Room} (n : Nat) (ht : ∀ w ∈ Ts, w.before args s = true) (hT : GoodIn Ts (va_wsS own index y ws)) (hw : ws = Cond.codeWith y bytes maxL ret hh :: ws') (hrc : rm.cells = mc) (hrs : rm.slots = ms)
    (hd : y.cls ≠ "java/lang/invoke/MethodHandle" ∧ y.cls ≠ "java/lang/invoke/VarHandle" ∧ (parseMethodDescriptor y.desc).map (fun d => d.parameters.length) = some n) (hR : rm.frames + 1 ≤ R.frames ∧ 8 + (maxL + 11) + rm.locals ≤ R.locals) :
    vx_CSW R s args own index y bytes maxL ret hh ws rm mc ms n := by
  have ok : ∀ w ∈ va_wsS own index y ws, w.before args s = true := fun w h => ht w (hT w h).1
  have hG : GoodIn Ts ws := fun w h => hT w (by unfold va_wsS; exact List.mem_append_right _ h)
  have hc : Cond.codeWith y bytes maxL ret hh ∈ ws := by rw [hw]; exact List.mem_cons_self
  refine ⟨⟨hrc, hrs, hR.1, hR.2, pay_in ht hG, hc⟩, ht _ (hG _ hc).1, ok _ (by simp [va_wsS]), ⟨hd.1, hd.2.1⟩, fun sig h => ?_, ok _ (by simp [va_wsS]), ok _ (by simp [va_wsS])⟩
  have h2 := hd.2.2
  rw [h] at h2
  exact (Option.some.inj h2).symm
theorem vx_callSW (X : Stand p l e R s m args below meth c T locs cells slots) (hexec : p.tables.exec = Jvm.exec) {own : String} {index : Nat} {y : MethodName} {bytes : ByteArray} {maxL : Nat} {ret : Option FieldType} {hh : List (Nat × Nat × Nat × Nat)}
    (hown : s.vm.findClass own = some m.cls) (hlink : (Cond.methodLink own index y).before args s = true) (hstat : (Cond.static y).before args s = true) (hinit : (Cond.initialized y.cls).before args s = true)
    (hcode : (Cond.codeWith y bytes maxL ret hh).before args s = true) (hy : y.cls ≠ "java/lang/invoke/MethodHandle" ∧ y.cls ≠ "java/lang/invoke/VarHandle")
    {W9 : Nat} {Pre : Pt → Array Value → Prop} {Post : Pt → Array Value → Option Value → Pt → Prop} (hK : Back l R p e below s args y 3 W9 Pre Post)
    {g : JFrame} (hg : g.method = m) (hsize : g.locals.size = c.maxLocals) {argsL rest : List Value} (hlen : ∀ sig, parseMethodDescriptor y.desc = some sig → argsL.length = sig.parameters.length)
    (hstack : g.stack = argsL.reverse ++ rest) (hW : 2 * g.monitorRoom + (rest.map fun v => v.category).sum ≤ W9) (hdg : decode c.code g.pc = .ok (.invokestatic index, 3))
    (hpre : ∀ vm₁, s.WarmedH vm₁ → Pre ⟨T.setVm vm₁, locs, cells, slots⟩ argsL.toArray) :
    ∃ (v : Option Value) (vm₁ : Vm) (B : Pt), s.WarmedH vm₁ ∧ Stand p l e R s m args below meth c B.U B.locs B.cells B.slots ∧ Post ⟨T.setVm vm₁, locs, cells, slots⟩ argsL.toArray v B ∧
      ∀ target, Steps p.tables e below (B.U.setTop { g with pc := g.pc + 3, stack := v.toList ++ rest }) target → Steps p.tables e below (T.setTop g) target := by
  obtain ⟨mk, methM, cM, hnamed, hmethM, -, -, -, -, -, -, hsigM⟩ := Cond.codeWith_spec hcode
  have hstatic : methM.isStatic = true := Cond.static_spec hnamed hmethM hstat
  obtain ⟨kP, hkP, -⟩ := className_of_methodNamed hnamed
  have hinitP : kP.init = .initialized := Cond.initialized_spec (findClass_of_methodNamed hnamed) hkP hinit
  obtain ⟨vm₁, X₁, hstep₁⟩ := X.invokestatic hexec hown hlink hnamed hmethM hstatic hkP hinitP hy (g := g) hg (argsL := argsL) (rest := rest) (hlen _ hsigM) hstack hdg
  obtain ⟨v, B, X', hpost, hsteps⟩ := hK m meth c ⟨T.setVm vm₁, locs, cells, slots⟩ { g with stack := rest } (.invokestatic index) mk argsL.toArray X₁ hg hsize hdg hW (X₁.named hnamed) (hpre vm₁ X₁.warmed)
  exact ⟨v, vm₁, B, X₁.warmed, X', hpost, fun target h => hstep₁ _ fun acts => by rw [doInvoke_state]; exact hsteps.trans h⟩
theorem vx_runSW {y : MethodName} {bytes cc : ByteArray} {maxL nL mc ms n index : Nat} {ret : Option FieldType} {hh : List (Nat × Nat × Nat × Nat)} {ws : List Cond} {rm : Room} {Pc : Array Value → State → Prop} {Qc : Array Value → State → Outcome → State → Prop} {free : Addr → Prop} {Ts : List Cond} {own : String} {As rest : List Value} {g : JFrame}
    (S : CallFix p m c cc nL s args Ts own) (hM : Met l y ws rm Pc Qc mc ms free) (cw : vx_CSW R s args own index y bytes maxL ret hh ws rm mc ms n) (hp : PreS s H Pc As)
    (hg : g.method = m) (hn : As.length = n) (hsize : g.locals.size = nL) (hstack : g.stack = As.reverse ++ rest) (hW : 2 * g.monitorRoom + (rest.map fun v => v.category).sum ≤ 8) (hdg : decode cc g.pc = .ok (.invokestatic index, 3)) (hf : cells + mc ≤ R.cells ∧ slots + ms ≤ R.slots) :
    va_Run p l e R s m args below meth c H locs cells slots mc ms g rest (Qc As.toArray) (free) := by
  obtain ⟨⟨hrc, hrs, hfr, hlo, hws, hcw⟩, hcode, hini, hy, hlen, hl, hstt⟩ := cw
  have hK : Back l R p e below s args y 3 8 (PreOf R mc ms Pc) (PostOf Qc mc ms free) := va_backW (hh := hh) (bytes := bytes) (maxL := maxL) (ret := ret) hM hp.1 hrc hrs hfr hlo hws hcw (fun a' U hW => word_at hW (Or.inl (by first | rfl | simp [Cond.onTables, Cond.keeps, Cond.steady])) hini)
  obtain ⟨hx, hb, hml, ho, -⟩ := S
  intro T hT X
  obtain ⟨v, vm₁, ⟨U', l2, c2, s2⟩, hW₁, X', ⟨g', mk, t, L, e1, e2, hq, h1, hL, h2, h3⟩, st⟩ := vx_callSW X hx (hh := hh) (bytes := bytes) (maxL := maxL) (ret := ret) ho hl hstt hini hcode hy hK hg (hsize.trans hml.symm) (argsL := As) (rest := rest) (fun sig h => hn.trans (hlen sig h)) hstack hW (by rw [hb]; exact hdg)
    (fun vm₁ hW₁ => ⟨hf.1, hf.2, hp.2 (T.setVm vm₁) hT hW₁⟩)
  dsimp only [Pt.U, Pt.locs, Pt.cells, Pt.slots] at X' e1 e2 h1 h2 h3 st
  subst h1; subst h2; subst h3
  exact ⟨v, (T.setVm vm₁).calling g' mk As.toArray, t, U', L, hT, X', hL, e1, e2, hq, st⟩
/-- not caught here, past rows that name other classes: it goes on to the caller -/
theorem vx_outP {p : Program} {l : Launch} {e : Env} {R : Room} {s : State} {m : MethodId} {args : Array Value} {below : List Frame} {meth : Method} {c : Code} {H : Heap} {locs : List Loc} {cells slots : Nat} {free : Addr → Prop} {ls : Array Slot} {rest : List Value} {Qc : Array Value → State → Outcome → State → Prop} {XC : String → State → State → Prop}
    {pc : Nat} {own E : String} {ce : Cell} {q : Addr} {mc ms : Nat} (hown : s.vm.findClass own = some m.cls) (hlocks : meth.locks = false)
    (hpass : ∀ z ∈ c.exceptionTable.toList, covers z pc = false ∨ (z.catchType ≠ 0 ∧ ∃ nm : String, (Cond.classLink own z.catchType nm).before args s = true ∧ va_Nc E nm s)) (hcell : H[q]? = some ce) (hv : ce.vm = .none) (hcl : s.vm.findClass E = some ce.cls)
    (hx : ∀ t : State, t.heap = H → s.vm.Alike t.vm → XC E s t) (hf : ∀ z ∈ locs, free z.base) (hc : cells ≤ mc) (hs : slots ≤ ms) :
    vx_W p l e R s m args below meth c H locs cells slots (vx_MQ below Qc XC args s mc ms free) (F0 m pc ls rest) q := by
  intro T hT X
  have hpl : e.platform.magicAccessors = ({} : Platform).magicAccessors := by rw [X.admits.platform]
  obtain ⟨vm', hW', X', st⟩ := X.outThrough hlocks q (g := F0 m pc ls rest) rfl rfl rfl (cell := ce) (by rw [hT]; exact hcell) (by rw [hv]; rfl)
    (by obtain ⟨k9, h9, -⟩ := Vm.findClass_spec hcl; exact ⟨k9, h9⟩) (fun z hz => by
      rcases hpass z hz with h | ⟨hz0, nm, hl1, hn1⟩
      · exact Or.inl h
      · obtain ⟨c6, hc6, hcl6⟩ := Cond.classLink_spec hown hl1 e.platform hpl
        obtain ⟨a8, b8, h1, h2, h3⟩ := hn1
        cases Option.some.inj (h1.symm.trans hcl)
        cases Option.some.inj (h2.symm.trans hc6)
        exact Or.inr ⟨hz0, _, hcl6, h3⟩)
  obtain ⟨g₀, hfr⟩ := X'.frames_eq
  have hcell9 : ((T.setVm vm').setFrames (.throwing q :: below)).heap[q]? = some ce := by
    show T.heap[q]? = some ce
    rw [hT]; exact hcell
  have hend : Ended ((T.setVm vm').setFrames (.throwing q :: below)) below (.threw q) := State.frames_setFrames _ (State.cur_lt_of_frames hfr)
  refine ⟨(T.setVm vm').setFrames (.throwing q :: below), ?_, .threw q, X'.here.running, hend, Or.inr ⟨q, rfl, E, ce, locs, hx _ hT (X'.ends _).1.alike, hcell9, hv, hcl, (X'.ends _).1, (X'.ends _).2.mono hc hs, hf⟩⟩
  rw [X.pushThrowing_eq]
  exact st
/-- a thing of a world lies in the heap -/
theorem vx_lt {D : va_G} {cl : List vw_C} {ws : va_W} {H1 : Heap} (h : va_P D cl ws H1) {k : Nat} {q : Nat × va_E} (hk : ws[k]? = some q) : q.1 < H1.size := (h k q hk).lt
end VXS
/-! ===== END ===== -/
/-! ===== BEGIN methods with a table of their own: called by a name, returning or throwing ===== -/
section VXH
/-! vx_backW, vx_callVX, vx_callSX, vx_callVW, vx_runVW, vx_runVX, vx_runSX, vx_ofWH follow the same proofs as their sisters above (Free/Laws.lean, Shelf42/LK1.lean); vx_outP calls Shelf42/NT130.lean (outThrough). -/
section
variable {l : Launch} {R : Room} {p : Program} {e : Env} {below : List Frame} {s : State} {sargs : Array Value} {y : MethodName} {len W9 : Nat}
theorem vx_backW {ws : List Cond} {rm : Room} {Pc : Array Value → State → Prop} {Qc : Array Value → State → Outcome → State → Prop} {XC : String → State → State → Prop} {mc ms : Nat} {free : Addr → Prop} {bytes : ByteArray} {maxL : Nat} {ret : Option FieldType} {hh : List (Nat × Nat × Nat × Nat)}
    (hM : vx_Met l y ws rm Pc Qc XC mc ms free) (hblind : FrameBlind Pc) (hrc : rm.cells = mc) (hrs : rm.slots = ms)
    (hframes : rm.frames + 1 ≤ R.frames) (hlocals : W9 + (maxL + 11) + rm.locals ≤ R.locals)
    (hws : ∀ w ∈ ws, ∀ a' U, s.WarmedH U.vm → w.before a' U = true) (hcode : Cond.codeWith y bytes maxL ret hh ∈ ws) (hinit : ∀ a' U, s.WarmedH U.vm → (Cond.initialized y.cls).before a' U = true) :
    vx_Back l R p e below s sargs y len W9 (PreOf R mc ms Pc) (PostOf Qc mc ms free) (vx_Post XC mc ms free) := by
  intro m meth c A g ig mk a X hg hsize hdg hW hn hp
  have h1 : (headSpec ws rm).pre.before a A.U = true := atoms_intro fun w hw => hws w hw _ _ X.warmed
  have h2 : (Cond.codeWith y bytes maxL ret hh).before a A.U = true := hws _ hcode _ _ X.warmed
  have h3 : (Cond.initialized y.cls).before a A.U = true := hinit _ _ X.warmed
  have h4 : A.cells + (headSpec ws rm).room.cells ≤ R.cells := by rw [show (headSpec ws rm).room.cells = mc from hrc]; exact hp.1
  have h5 : A.slots + (headSpec ws rm).room.slots ≤ R.slots := by rw [show (headSpec ws rm).room.slots = ms from hrs]; exact hp.2.1
  have hPc : Pc a (A.U.calling g mk a) := hblind _ _ _ _ hp.2.2
  obtain ⟨U, Ls, c0, s0⟩ := A
  dsimp only [Pt.U, Pt.locs, Pt.cells, Pt.slots] at h1 h2 h3 h4 h5 X hn hPc ⊢
  obtain ⟨m9, methY, cY, hn9, hmY, hcY, -, hlY, -⟩ := Cond.codeWith_spec h2
  cases Option.some.inj (hn9.symm.trans hn)
  obtain ⟨kY, hkY, -⟩ := className_of_methodNamed hn
  have hinitY : kY.init = .initialized := Cond.initialized_spec (findClass_of_methodNamed hn) hkY h3
  have h : At U g.method c below := by rw [hg]; exact X.here
  have hlocals9 : W9 + (maxL + 11) + (headSpec ws rm).room.locals ≤ R.locals := hlocals
  have happ : (headSpec ws rm).appliesLoose y e.platform (U.calling g mk a) = true :=
    Spec.appliesLoose_calling (g := g) h hdg hn hkY hinitY
      (X.room_calling (g := g) (R' := (headSpec ws rm).room) hsize hmY hcY hframes (by rw [hlY]; omega) h4 h5) h1
  obtain ⟨mid, hmid⟩ := h.above
  have hfr : (U.setTop g).frames = (.java g :: mid) ++ below := by rw [State.frames_setTop' g h.top, hmid]; rfl
  obtain ⟨o, s₂, hsteps, -, hend, hq⟩ := Steps.callFree hM p X.admits X.cas X.clock (acts := []) hfr happ hPc trivial
  have hq' : vx_Q Qc XC mc ms free a (U.calling g mk a) o s₂ := hq
  rw [State.frames_setTop' g h.top] at hend
  obtain ⟨g₀, hg0⟩ := Option.isSome_iff_exists.mp h.top
  obtain ⟨r, hr⟩ := State.topJava?_eq_some.mp hg0
  have hr' : (({ U with heap := s₂.heap, slotsUsed := s₂.slotsUsed } : State).setVm s₂.vm).frames = .java g₀ :: r := hr
  rcases hq' with ⟨hqc, L, hfe, hL⟩ | ⟨q, rfl, E, ce, L, hx, hce, hcv, hcl, hW₂, hsm, hL⟩
  · obtain ⟨⟨v, rfl⟩, hW₂, e2, q2, q3, q4, q5, q6⟩ := id hfe
    have e3 : s₂ = ({ (U.calling g mk a).setFrames s₂.frames with heap := s₂.heap, slotsUsed := s₂.slotsUsed } : State).setVm s₂.vm := by
      have : s₂ = ({ s₂ with vm := (U.calling g mk a).vm } : State).setVm s₂.vm := rfl
      rw [e2] at this
      exact this
    obtain ⟨c₂, i₂, len₂, hc₂, hd₂, hf₂⟩ := hend
    have hW' : U.WarmedH s₂.vm := hW₂
    have hcc : c₂ = c := by
      have h1 : s₂.code? g.method = U.code? g.method := by
        rw [State.code?_eq, State.code?_eq, hW'.alike.method?]
      exact Option.some.inj (hc₂.symm.trans (h1.trans h.code))
    subst hcc
    have hlen : len₂ = len := by rw [hdg] at hd₂; cases hd₂; rfl
    subst hlen
    have hs₂ : s₂ = (({ U with heap := s₂.heap, slotsUsed := s₂.slotsUsed } : State).setVm s₂.vm).setTop { g with pc := g.pc + len₂, stack := v.toList ++ g.stack } := by
      refine e3.trans ?_
      rw [hf₂, State.calling_eq h.top, State.setFrames_setFrames, State.setTop_of_frames _ hr', hr]
      rfl
    have hsame : U.sameButNew ({ U with heap := s₂.heap, slotsUsed := s₂.slotsUsed } : State) L mc ms := by
      refine ⟨?_, q2, q3, q4, q5, q6⟩
      obtain ⟨t, ht, -⟩ := State.frames_cons hr
      show ({ U with heap := s₂.heap, slotsUsed := s₂.slotsUsed } : State) = { U.setFrames U.frames with heap := s₂.heap, slotsUsed := s₂.slotsUsed }
      rw [State.setFrames_self ht]
    subst hg
    refine Or.inl ⟨v, ⟨(({ U with heap := s₂.heap, slotsUsed := s₂.slotsUsed } : State).setVm s₂.vm), Ls ++ L, c0 + mc, s0 + ms⟩,
      ⟨X.admits, X.cas, X.clock, X.frames, X.room, X.hears, X.method, X.code, (X.here.setHeapUsed s₂.heap s₂.slotsUsed).setVm hW'.alike, X.tail, State.WarmedH.trans X.warmed hW', X.limits, X.bytes, X.same.trans (hsame.setVm s.vm)⟩,
      ⟨g, mk, s₂, L, rfl, rfl, hqc, rfl, hL, rfl, rfl⟩, ?_⟩
    show Steps p.tables e below _ ((({ U with heap := s₂.heap, slotsUsed := s₂.slotsUsed } : State).setVm s₂.vm).setTop { g with pc := g.pc + len₂, stack := v.toList ++ g.stack })
    rw [← hs₂]
    exact hsteps
  · obtain ⟨e2, q2, q3, q4, q5, q6⟩ := id hsm
    have e3 : s₂ = ({ (U.calling g mk a).setFrames s₂.frames with heap := s₂.heap, slotsUsed := s₂.slotsUsed } : State).setVm s₂.vm := by
      have : s₂ = ({ s₂ with vm := (U.calling g mk a).vm } : State).setVm s₂.vm := rfl
      rw [e2] at this
      exact this
    have hf₂ : s₂.frames = .throwing q :: .java g :: U.frames.tail := hend
    have hW' : U.WarmedH s₂.vm := hW₂
    have hs₂ : s₂ = ((({ U with heap := s₂.heap, slotsUsed := s₂.slotsUsed } : State).setVm s₂.vm).setTop g).pushFrame (.throwing q) := by
      refine e3.trans ?_
      rw [hf₂, State.calling_eq h.top, State.setFrames_setFrames, State.pushFrame, State.frames_setTop _ hr', State.setTop_of_frames _ hr', State.setFrames_setFrames, hr]
      rfl
    have hsame : U.sameButNew ({ U with heap := s₂.heap, slotsUsed := s₂.slotsUsed } : State) L mc ms := by
      refine ⟨?_, q2, q3, q4, q5, q6⟩
      obtain ⟨t, ht, -⟩ := State.frames_cons hr
      show ({ U with heap := s₂.heap, slotsUsed := s₂.slotsUsed } : State) = { U.setFrames U.frames with heap := s₂.heap, slotsUsed := s₂.slotsUsed }
      rw [State.setFrames_self ht]
    subst hg
    refine Or.inr ⟨q, ⟨(({ U with heap := s₂.heap, slotsUsed := s₂.slotsUsed } : State).setVm s₂.vm), Ls ++ L, c0 + mc, s0 + ms⟩,
      ⟨X.admits, X.cas, X.clock, X.frames, X.room, X.hears, X.method, X.code, (X.here.setHeapUsed s₂.heap s₂.slotsUsed).setVm hW'.alike, X.tail, State.WarmedH.trans X.warmed hW', X.limits, X.bytes, X.same.trans (hsame.setVm s.vm)⟩,
      ⟨g, mk, s₂, L, E, ce, rfl, rfl, hx, hce, hcv, hcl, rfl, hL, rfl, rfl⟩, ?_⟩
    show Steps p.tables e below _ (((({ U with heap := s₂.heap, slotsUsed := s₂.slotsUsed } : State).setVm s₂.vm).setTop g).pushFrame (.throwing q))
    rw [← hs₂]
    exact hsteps
end
variable {p : Program} {l : Launch} {e : Env} {R : Room} {s : State} {m : MethodId} {args : Array Value} {below : List Frame} {meth : Method} {c : Code} {T : State} {H : Heap} {locs : List Loc} {cells slots : Nat}
theorem vx_callVX (X : Stand p l e R s m args below meth c T locs cells slots) (hexec : p.tables.exec = Jvm.exec) {own C : String} {index : Nat} {y : MethodName} {bytes : ByteArray} {maxL : Nat} {ret : Option FieldType} {hh : List (Nat × Nat × Nat × Nat)}
    (hown : s.vm.findClass own = some m.cls) (hlink : (Cond.methodLink own index y).before args s = true) (hinst : (Cond.instanceMethod y).before args s = true) (hsel : (Cond.selects C y y).before args s = true)
    (hcode : (Cond.codeWith y bytes maxL ret hh).before args s = true) (hy : y.cls ≠ "java/lang/invoke/MethodHandle" ∧ y.cls ≠ "java/lang/invoke/VarHandle")
    {W9 : Nat} {Pre : Pt → Array Value → Prop} {Post : Pt → Array Value → Option Value → Pt → Prop} {PostX : Pt → Array Value → Addr → Pt → Prop} (hK : vx_Back l R p e below s args y 3 W9 Pre Post PostX)
    {b : Addr} {cellB : Cell} (hcell : T.heap[b]? = some cellB) (hobj : cellB.vm.isStatics = false) (hcls : s.vm.findClass C = some cellB.cls)
    {g : JFrame} (hg : g.method = m) (hsize : g.locals.size = c.maxLocals) {argsL rest : List Value} (hlen : ∀ sig, parseMethodDescriptor y.desc = some sig → argsL.length = sig.parameters.length)
    (hstack : g.stack = argsL.reverse ++ .ref b :: rest) (hW : 2 * g.monitorRoom + (rest.map fun v => v.category).sum ≤ W9) (hdg : decode c.code g.pc = .ok (.invokevirtual index, 3))
    (hpre : ∀ vm₁, s.WarmedH vm₁ → Pre ⟨T.setVm vm₁, locs, cells, slots⟩ (Value.ref b :: argsL).toArray) :
    (∃ (v : Option Value) (vm₁ : Vm) (B : Pt), s.WarmedH vm₁ ∧ Stand p l e R s m args below meth c B.U B.locs B.cells B.slots ∧ Post ⟨T.setVm vm₁, locs, cells, slots⟩ (Value.ref b :: argsL).toArray v B ∧
      ∀ target, Steps p.tables e below (B.U.setTop { g with pc := g.pc + 3, stack := v.toList ++ rest }) target → Steps p.tables e below (T.setTop g) target) ∨
    (∃ (q : Addr) (vm₁ : Vm) (B : Pt), s.WarmedH vm₁ ∧ Stand p l e R s m args below meth c B.U B.locs B.cells B.slots ∧ PostX ⟨T.setVm vm₁, locs, cells, slots⟩ (Value.ref b :: argsL).toArray q B ∧
      Steps p.tables e below (T.setTop g) ((B.U.setTop { g with stack := rest }).pushFrame (.throwing q))) := by
  obtain ⟨mk, methM, hnamed, hmethM, hstM, habM⟩ := Cond.instanceMethod_spec hinst
  obtain ⟨m8, methM', cM, hn8, hmethM', -, -, -, -, -, -, hsigM⟩ := Cond.codeWith_spec hcode
  cases Option.some.inj (hn8.symm.trans hnamed)
  cases hmethM.symm.trans hmethM'
  obtain ⟨c2, r2, m2, q1, q2, q3, q4, kP, hkP, hkPi⟩ := Cond.selects_spec hsel
  cases hcls.symm.trans q1
  cases (State.methodFound?_of_named hnamed hy).symm.trans q2
  cases hnamed.symm.trans q3
  have hselP : selectMethod e.platform s.vm cellB.cls mk = .method mk := by rw [Launch.admits_selectMethod X.admits]; exact q4
  obtain ⟨vm₁, X₁, hstep₁⟩ := X.invokevirtual hexec hown hlink hnamed hmethM hstM hkP hkPi hy (a := b) (cell := cellB) hcell
    (fun z h => by rw [h] at hobj; cases hobj) hselP hmethM habM hkP hkPi (g := g) hg (argsL := argsL) (rest := rest) (hlen _ hsigM) hstack hdg
  rcases hK m meth c ⟨T.setVm vm₁, locs, cells, slots⟩ { g with stack := rest } (.invokevirtual index) mk (Value.ref b :: argsL).toArray X₁ hg hsize hdg hW (X₁.named hnamed) (hpre vm₁ X₁.warmed) with ⟨v, B, X', hpost, hsteps⟩ | ⟨q, B, X', hpost, hsteps⟩
  · exact Or.inl ⟨v, vm₁, B, X₁.warmed, X', hpost, fun target h => hstep₁ _ fun acts => by rw [doInvoke_state]; exact hsteps.trans h⟩
  · exact Or.inr ⟨q, vm₁, B, X₁.warmed, X', hpost, hstep₁ _ fun acts => by rw [doInvoke_state]; exact hsteps⟩
theorem vx_callSX (X : Stand p l e R s m args below meth c T locs cells slots) (hexec : p.tables.exec = Jvm.exec) {own : String} {index : Nat} {y : MethodName} {bytes : ByteArray} {maxL : Nat} {ret : Option FieldType} {hh : List (Nat × Nat × Nat × Nat)}
    (hown : s.vm.findClass own = some m.cls) (hlink : (Cond.methodLink own index y).before args s = true) (hstat : (Cond.static y).before args s = true) (hinit : (Cond.initialized y.cls).before args s = true)
    (hcode : (Cond.codeWith y bytes maxL ret hh).before args s = true) (hy : y.cls ≠ "java/lang/invoke/MethodHandle" ∧ y.cls ≠ "java/lang/invoke/VarHandle")
    {W9 : Nat} {Pre : Pt → Array Value → Prop} {Post : Pt → Array Value → Option Value → Pt → Prop} {PostX : Pt → Array Value → Addr → Pt → Prop} (hK : vx_Back l R p e below s args y 3 W9 Pre Post PostX)
    {g : JFrame} (hg : g.method = m) (hsize : g.locals.size = c.maxLocals) {argsL rest : List Value} (hlen : ∀ sig, parseMethodDescriptor y.desc = some sig → argsL.length = sig.parameters.length)
    (hstack : g.stack = argsL.reverse ++ rest) (hW : 2 * g.monitorRoom + (rest.map fun v => v.category).sum ≤ W9) (hdg : decode c.code g.pc = .ok (.invokestatic index, 3))
    (hpre : ∀ vm₁, s.WarmedH vm₁ → Pre ⟨T.setVm vm₁, locs, cells, slots⟩ argsL.toArray) :
    (∃ (v : Option Value) (vm₁ : Vm) (B : Pt), s.WarmedH vm₁ ∧ Stand p l e R s m args below meth c B.U B.locs B.cells B.slots ∧ Post ⟨T.setVm vm₁, locs, cells, slots⟩ argsL.toArray v B ∧
      ∀ target, Steps p.tables e below (B.U.setTop { g with pc := g.pc + 3, stack := v.toList ++ rest }) target → Steps p.tables e below (T.setTop g) target) ∨
    (∃ (q : Addr) (vm₁ : Vm) (B : Pt), s.WarmedH vm₁ ∧ Stand p l e R s m args below meth c B.U B.locs B.cells B.slots ∧ PostX ⟨T.setVm vm₁, locs, cells, slots⟩ argsL.toArray q B ∧
      Steps p.tables e below (T.setTop g) ((B.U.setTop { g with stack := rest }).pushFrame (.throwing q))) := by
  obtain ⟨mk, methM, cM, hnamed, hmethM, -, -, -, -, -, -, hsigM⟩ := Cond.codeWith_spec hcode
  have hstatic : methM.isStatic = true := Cond.static_spec hnamed hmethM hstat
  obtain ⟨kP, hkP, -⟩ := className_of_methodNamed hnamed
  have hinitP : kP.init = .initialized := Cond.initialized_spec (findClass_of_methodNamed hnamed) hkP hinit
  obtain ⟨vm₁, X₁, hstep₁⟩ := X.invokestatic hexec hown hlink hnamed hmethM hstatic hkP hinitP hy (g := g) hg (argsL := argsL) (rest := rest) (hlen _ hsigM) hstack hdg
  rcases hK m meth c ⟨T.setVm vm₁, locs, cells, slots⟩ { g with stack := rest } (.invokestatic index) mk argsL.toArray X₁ hg hsize hdg hW (X₁.named hnamed) (hpre vm₁ X₁.warmed) with ⟨v, B, X', hpost, hsteps⟩ | ⟨q, B, X', hpost, hsteps⟩
  · exact Or.inl ⟨v, vm₁, B, X₁.warmed, X', hpost, fun target h => hstep₁ _ fun acts => by rw [doInvoke_state]; exact hsteps.trans h⟩
  · exact Or.inr ⟨q, vm₁, B, X₁.warmed, X', hpost, hstep₁ _ fun acts => by rw [doInvoke_state]; exact hsteps⟩
theorem vx_callVW (X : Stand p l e R s m args below meth c T locs cells slots) (hexec : p.tables.exec = Jvm.exec) {own C : String} {index : Nat} {y : MethodName} {bytes : ByteArray} {maxL : Nat} {ret : Option FieldType} {hh : List (Nat × Nat × Nat × Nat)}
    (hown : s.vm.findClass own = some m.cls) (hlink : (Cond.methodLink own index y).before args s = true) (hinst : (Cond.instanceMethod y).before args s = true) (hsel : (Cond.selects C y y).before args s = true)
    (hcode : (Cond.codeWith y bytes maxL ret hh).before args s = true) (hy : y.cls ≠ "java/lang/invoke/MethodHandle" ∧ y.cls ≠ "java/lang/invoke/VarHandle")
    {W9 : Nat} {Pre : Pt → Array Value → Prop} {Post : Pt → Array Value → Option Value → Pt → Prop} (hK : Back l R p e below s args y 3 W9 Pre Post)
    {b : Addr} {cellB : Cell} (hcell : T.heap[b]? = some cellB) (hobj : cellB.vm.isStatics = false) (hcls : s.vm.findClass C = some cellB.cls)
    {g : JFrame} (hg : g.method = m) (hsize : g.locals.size = c.maxLocals) {argsL rest : List Value} (hlen : ∀ sig, parseMethodDescriptor y.desc = some sig → argsL.length = sig.parameters.length)
    (hstack : g.stack = argsL.reverse ++ .ref b :: rest) (hW : 2 * g.monitorRoom + (rest.map fun v => v.category).sum ≤ W9) (hdg : decode c.code g.pc = .ok (.invokevirtual index, 3))
    (hpre : ∀ vm₁, s.WarmedH vm₁ → Pre ⟨T.setVm vm₁, locs, cells, slots⟩ (Value.ref b :: argsL).toArray) :
    ∃ (v : Option Value) (vm₁ : Vm) (B : Pt), s.WarmedH vm₁ ∧ Stand p l e R s m args below meth c B.U B.locs B.cells B.slots ∧ Post ⟨T.setVm vm₁, locs, cells, slots⟩ (Value.ref b :: argsL).toArray v B ∧
      ∀ target, Steps p.tables e below (B.U.setTop { g with pc := g.pc + 3, stack := v.toList ++ rest }) target → Steps p.tables e below (T.setTop g) target := by
  obtain ⟨mk, methM, hnamed, hmethM, hstM, habM⟩ := Cond.instanceMethod_spec hinst
  obtain ⟨m8, methM', cM, hn8, hmethM', -, -, -, -, -, -, hsigM⟩ := Cond.codeWith_spec hcode
  cases Option.some.inj (hn8.symm.trans hnamed)
  cases hmethM.symm.trans hmethM'
  obtain ⟨c2, r2, m2, q1, q2, q3, q4, kP, hkP, hkPi⟩ := Cond.selects_spec hsel
  cases hcls.symm.trans q1
  cases (State.methodFound?_of_named hnamed hy).symm.trans q2
  cases hnamed.symm.trans q3
  have hselP : selectMethod e.platform s.vm cellB.cls mk = .method mk := by rw [Launch.admits_selectMethod X.admits]; exact q4
  obtain ⟨vm₁, X₁, hstep₁⟩ := X.invokevirtual hexec hown hlink hnamed hmethM hstM hkP hkPi hy (a := b) (cell := cellB) hcell
    (fun z h => by rw [h] at hobj; cases hobj) hselP hmethM habM hkP hkPi (g := g) hg (argsL := argsL) (rest := rest) (hlen _ hsigM) hstack hdg
  obtain ⟨v, B, X', hpost, hsteps⟩ := hK m meth c ⟨T.setVm vm₁, locs, cells, slots⟩ { g with stack := rest } (.invokevirtual index) mk (Value.ref b :: argsL).toArray X₁ hg hsize hdg hW (X₁.named hnamed) (hpre vm₁ X₁.warmed)
  exact ⟨v, vm₁, B, X₁.warmed, X', hpost, fun target h => hstep₁ _ fun acts => by rw [doInvoke_state]; exact hsteps.trans h⟩
abbrev vx_CVW (R : Room) (s : State) (args : Array Value) (own C : String) (index : Nat) (y : MethodName) (bytes : ByteArray) (maxL : Nat) (ret : Option FieldType) (hh : List (Nat × Nat × Nat × Nat)) (ws : List Cond) (rm : Room) (mc ms n : Nat) : Prop :=
  (rm.cells = mc ∧ rm.slots = ms ∧ rm.frames + 1 ≤ R.frames ∧ 8 + (maxL + 11) + rm.locals ≤ R.locals ∧ (∀ w ∈ ws, ∀ (a' : Array Value) (U : State), s.WarmedH U.vm → w.before a' U = true) ∧ Cond.codeWith y bytes maxL ret hh ∈ ws) ∧
  (Cond.codeWith y bytes maxL ret hh).before args s = true ∧ (Cond.initialized y.cls).before args s = true ∧ (y.cls ≠ "java/lang/invoke/MethodHandle" ∧ y.cls ≠ "java/lang/invoke/VarHandle") ∧
  (∀ sig, parseMethodDescriptor y.desc = some sig → n = sig.parameters.length) ∧ (Cond.methodLink own index y).before args s = true ∧ (Cond.instanceMethod y).before args s = true ∧ (Cond.selects C y y).before args s = true
theorem vx_cwVW {own C : String} {index maxL mc ms : Nat} {y : MethodName} {bytes : ByteArray} {ret : Option FieldType} {hh : List (Nat × Nat × Nat × Nat)} {Ts ws ws' : List Cond} {rm : Room} (n : Nat) (ht : ∀ w ∈ Ts, w.before args s = true) (hT : GoodIn Ts (wsV own index C y ws)) (hw : ws = Cond.codeWith y bytes maxL ret hh :: ws') (hrc : rm.cells = mc) (hrs : rm.slots = ms)
    (hd : y.cls = C ∧ y.cls ≠ "java/lang/invoke/MethodHandle" ∧ y.cls ≠ "java/lang/invoke/VarHandle" ∧ (parseMethodDescriptor y.desc).map (fun d => d.parameters.length) = some n) (hR : rm.frames + 1 ≤ R.frames ∧ 8 + (maxL + 11) + rm.locals ≤ R.locals) :
    vx_CVW R s args own C index y bytes maxL ret hh ws rm mc ms n := by
  obtain ⟨hC, hd⟩ := hd
  subst hC
  have ok : ∀ w ∈ wsV own index y.cls y ws, w.before args s = true := fun w h => ht w (hT w h).1
  have hG : GoodIn Ts ws := fun w h => hT w (by unfold wsV; exact List.mem_append_right _ h)
  have hc : Cond.codeWith y bytes maxL ret hh ∈ ws := by rw [hw]; exact List.mem_cons_self
  refine ⟨⟨hrc, hrs, hR.1, hR.2, pay_in ht hG, hc⟩, ht _ (hG _ hc).1, ok _ (by simp [wsV]), ⟨hd.1, hd.2.1⟩, fun sig h => ?_, ok _ (by simp [wsV]), ok _ (by simp [wsV]), ok _ (by simp [wsV])⟩
  have h2 := hd.2.2
  rw [h] at h2
  exact (Option.some.inj h2).symm
theorem vx_runVW {y : MethodName} {bytes cc : ByteArray} {maxL nL mc ms n index : Nat} {ret : Option FieldType} {hh : List (Nat × Nat × Nat × Nat)} {ws : List Cond} {rm : Room} {Pc : Array Value → State → Prop} {Qc : Array Value → State → Outcome → State → Prop} {free : Addr → Prop} {Ts : List Cond} {own C : String} {b : Addr} {As rest : List Value} {g : JFrame}
    (S : CallFix p m c cc nL s args Ts own) (hM : Met l y ws rm Pc Qc mc ms free) (cw : vx_CVW R s args own C index y bytes maxL ret hh ws rm mc ms n) (hp : PreV s H C b Pc As)
    (hg : g.method = m) (hn : As.length = n) (hsize : g.locals.size = nL) (hstack : g.stack = As.reverse ++ .ref b :: rest) (hW : 2 * g.monitorRoom + (rest.map fun v => v.category).sum ≤ 8) (hdg : decode cc g.pc = .ok (.invokevirtual index, 3)) (hf : cells + mc ≤ R.cells ∧ slots + ms ≤ R.slots) :
    va_Run p l e R s m args below meth c H locs cells slots mc ms g rest (Qc (Value.ref b :: As).toArray) free := by
  obtain ⟨⟨hrc, hrs, hfr, hlo, hws, hcw⟩, hcode, hini, hy, hlen, hl, hin, hse⟩ := cw
  have hK : Back l R p e below s args y 3 8 (PreOf R mc ms Pc) (PostOf Qc mc ms free) := va_backW (hh := hh) (bytes := bytes) (maxL := maxL) (ret := ret) hM hp.1 hrc hrs hfr hlo hws hcw (fun a' U hW => word_at hW (Or.inl (by first | rfl | simp [Cond.onTables, Cond.keeps, Cond.steady])) hini)
  obtain ⟨hx, hb, hml, ho, -⟩ := S
  obtain ⟨-, ⟨cellB, hcB, hoB, hclB⟩, hPc⟩ := hp
  intro T hT X
  obtain ⟨v, vm₁, ⟨U', l2, c2, s2⟩, hW₁, X', ⟨g', mk, t, L, e1, e2, hq, h1, hL, h2, h3⟩, st⟩ := vx_callVW X hx (C := C) (hh := hh) (bytes := bytes) (maxL := maxL) (ret := ret) ho hl hin hse hcode hy hK (by rw [hT]; exact hcB) hoB hclB hg (hsize.trans hml.symm) (argsL := As) (rest := rest) (fun sig h => hn.trans (hlen sig h)) hstack hW (by rw [hb]; exact hdg)
    (fun vm₁ hW₁ => ⟨hf.1, hf.2, hPc (T.setVm vm₁) hT hW₁⟩)
  dsimp only [Pt.U, Pt.locs, Pt.cells, Pt.slots] at X' e1 e2 h1 h2 h3 st
  subst h1; subst h2; subst h3
  exact ⟨v, (T.setVm vm₁).calling g' mk (Value.ref b :: As).toArray, t, U', L, hT, X', hL, e1, e2, hq, st⟩
section
variable {y : MethodName} {bytes cc : ByteArray} {maxL nL mc ms n index : Nat} {ret : Option FieldType} {ws : List Cond} {rm : Room} {Pc : Array Value → State → Prop} {Qc : Array Value → State → Outcome → State → Prop} {XC : String → State → State → Prop} {free : Addr → Prop} {Ts : List Cond} {own C : String} {b : Addr} {As rest : List Value} {g : JFrame}
theorem vx_runVX {hh : List (Nat × Nat × Nat × Nat)} (S : CallFix p m c cc nL s args Ts own) (hM : vx_Met l y ws rm Pc Qc XC mc ms free) (cw : vx_CVW R s args own C index y bytes maxL ret hh ws rm mc ms n) (hp : PreV s H C b Pc As)
    (hg : g.method = m) (hn : As.length = n) (hsize : g.locals.size = nL) (hstack : g.stack = As.reverse ++ .ref b :: rest) (hW : 2 * g.monitorRoom + (rest.map fun v => v.category).sum ≤ 8) (hdg : decode cc g.pc = .ok (.invokevirtual index, 3)) (hf : cells + mc ≤ R.cells ∧ slots + ms ≤ R.slots) :
    vx_Run p l e R s m args below meth c H locs cells slots mc ms g rest (Qc (Value.ref b :: As).toArray) XC free := by
  obtain ⟨⟨hrc, hrs, hfr, hlo, hws, hcw⟩, hcode, hini, hy, hlen, hl, hin, hse⟩ := cw
  have hK : vx_Back l R p e below s args y 3 8 (PreOf R mc ms Pc) (PostOf Qc mc ms free) (vx_Post XC mc ms free) := vx_backW (hh := hh) (bytes := bytes) (maxL := maxL) (ret := ret) hM hp.1 hrc hrs hfr hlo hws hcw (fun a' U hW => word_at hW (Or.inl (by first | rfl | simp [Cond.onTables, Cond.keeps, Cond.steady])) hini)
  obtain ⟨hx, hb, hml, ho, -⟩ := S
  obtain ⟨-, ⟨cellB, hcB, hoB, hclB⟩, hPc⟩ := hp
  intro T hT X
  rcases vx_callVX X hx (C := C) (hh := hh) (bytes := bytes) (maxL := maxL) (ret := ret) ho hl hin hse hcode hy hK (by rw [hT]; exact hcB) hoB hclB hg (hsize.trans hml.symm) (argsL := As) (rest := rest) (fun sig h => hn.trans (hlen sig h)) hstack hW (by rw [hb]; exact hdg)
    (fun vm₁ hW₁ => ⟨hf.1, hf.2, hPc (T.setVm vm₁) hT hW₁⟩) with ⟨v, vm₁, ⟨U', l2, c2, s2⟩, hW₁, X', ⟨g', mk, t, L, e1, e2, hq, h1, hL, h2, h3⟩, st⟩ | ⟨q, vm₁, ⟨U', l2, c2, s2⟩, hW₁, X', ⟨g', mk, t, L, E, ce, e1, e2, hq, hce, hcv, hcl, h1, hL, h2, h3⟩, st⟩
  · dsimp only [Pt.U, Pt.locs, Pt.cells, Pt.slots] at X' e1 e2 h1 h2 h3 st
    subst h1; subst h2; subst h3
    exact Or.inl ⟨v, (T.setVm vm₁).calling g' mk (Value.ref b :: As).toArray, t, U', L, hT, X', hL, e1, e2, hq, st⟩
  · dsimp only [Pt.U, Pt.locs, Pt.cells, Pt.slots] at X' e1 e2 h1 h2 h3 st hcl
    subst h1; subst h2; subst h3
    exact Or.inr ⟨q, (T.setVm vm₁).calling g' mk (Value.ref b :: As).toArray, t, U', L, E, ce, hT, X', hL, e1, e2, hq, hce, hcv, vx_cls hW₁ hcl, st⟩
theorem vx_runSX {hh : List (Nat × Nat × Nat × Nat)} (S : CallFix p m c cc nL s args Ts own) (hM : vx_Met l y ws rm Pc Qc XC mc ms free) (cw : vx_CSW R s args own index y bytes maxL ret hh ws rm mc ms n) (hp : PreS s H Pc As)
    (hg : g.method = m) (hn : As.length = n) (hsize : g.locals.size = nL) (hstack : g.stack = As.reverse ++ rest) (hW : 2 * g.monitorRoom + (rest.map fun v => v.category).sum ≤ 8) (hdg : decode cc g.pc = .ok (.invokestatic index, 3)) (hf : cells + mc ≤ R.cells ∧ slots + ms ≤ R.slots) :
    vx_Run p l e R s m args below meth c H locs cells slots mc ms g rest (Qc As.toArray) XC free := by
  obtain ⟨⟨hrc, hrs, hfr, hlo, hws, hcw⟩, hcode, hini, hy, hlen, hl, hstt⟩ := cw
  have hK : vx_Back l R p e below s args y 3 8 (PreOf R mc ms Pc) (PostOf Qc mc ms free) (vx_Post XC mc ms free) := vx_backW (hh := hh) (bytes := bytes) (maxL := maxL) (ret := ret) hM hp.1 hrc hrs hfr hlo hws hcw (fun a' U hW => word_at hW (Or.inl (by first | rfl | simp [Cond.onTables, Cond.keeps, Cond.steady])) hini)
  obtain ⟨hx, hb, hml, ho, -⟩ := S
  intro T hT X
  rcases vx_callSX X hx (hh := hh) (bytes := bytes) (maxL := maxL) (ret := ret) ho hl hstt hini hcode hy hK hg (hsize.trans hml.symm) (argsL := As) (rest := rest) (fun sig h => hn.trans (hlen sig h)) hstack hW (by rw [hb]; exact hdg)
    (fun vm₁ hW₁ => ⟨hf.1, hf.2, hp.2 (T.setVm vm₁) hT hW₁⟩) with ⟨v, vm₁, ⟨U', l2, c2, s2⟩, hW₁, X', ⟨g', mk, t, L, e1, e2, hq, h1, hL, h2, h3⟩, st⟩ | ⟨q, vm₁, ⟨U', l2, c2, s2⟩, hW₁, X', ⟨g', mk, t, L, E, ce, e1, e2, hq, hce, hcv, hcl, h1, hL, h2, h3⟩, st⟩
  · dsimp only [Pt.U, Pt.locs, Pt.cells, Pt.slots] at X' e1 e2 h1 h2 h3 st
    subst h1; subst h2; subst h3
    exact Or.inl ⟨v, (T.setVm vm₁).calling g' mk As.toArray, t, U', L, hT, X', hL, e1, e2, hq, st⟩
  · dsimp only [Pt.U, Pt.locs, Pt.cells, Pt.slots] at X' e1 e2 h1 h2 h3 st hcl
    subst h1; subst h2; subst h3
    exact Or.inr ⟨q, (T.setVm vm₁).calling g' mk As.toArray, t, U', L, E, ce, hT, X', hL, e1, e2, hq, hce, hcv, vx_cls hW₁ hcl, st⟩
end
end VXH
theorem vx_ofWH {l : Launch} {y : MethodName} {ws ws' : List Cond} {rm : Room} {Pc : Array Value → State → Prop} {Qc : Array Value → State → Outcome → State → Prop} {XC : String → State → State → Prop} {mc ms : Nat} {free : Addr → Prop} {cc : ByteArray} {maxL : Nat} {ret : Option FieldType} {hh : List (Nat × Nat × Nat × Nat)}
    (hy : plainName y.cls = true) (hw : ws = Cond.codeWith y cc maxL ret hh :: ws')
    (body : ∀ p e s m args below meth c s₁, BodyLoose p l y (headSpec ws rm) cc maxL ret e s m args below meth c s₁ → c.maxLocals = maxL → Pc args s →
      W p l e (headSpec ws rm).room s m args below meth c s.heap [] 0 0 (vx_MQ below Qc XC args s mc ms free) (entryFrame m args maxL)) : vx_Met l y ws rm Pc Qc XC mc ms free := by
  refine MetFree.of_bodyS (code := cc) (maxLocals := maxL) (ret := ret) hy ?_ ?_
  · intro args s m h hn
    obtain ⟨m9, meth, c, hn9, h1, h2, h3, h4, -, h5, h6, -⟩ := Cond.codeWith_spec (atoms_spec (ws := ws) h _ (by rw [hw]; exact List.mem_cons_self))
    cases hn.symm.trans hn9
    exact ⟨meth, c, h1, h2, h3, h4, h5, h6⟩
  · intro p e s m args below meth c s₁ B hml hP _
    have hh0 : s₁.heap = s.heap := by rw [B.state]; rfl
    obtain ⟨t, a1, o, b1, b2, b3⟩ := body p e s m args below meth c s₁ B hml hP s₁ hh0 (Stand.of_body B)
    exact ⟨t, o, a1, b1, b2, b3⟩
/-! ===== END ===== -/
end
section
/-! ===== BEGIN printed: names, fields, word lists, decode rows ===== -/
def RX0 : String := "RealSteps$Kind"
def TX0 : u_T := fun k => match k with
  | _ => ("", "", "", false)
def tyX0 : Nat → FieldType := fun k => match k with
  | _ => .int
abbrev wsX00 : List Cond := u_ws RX0 TX0 0
theorem nmX0 : ∀ a, a < 0 → ∀ b, b < 0 → a ≠ b → (TX0 a).2.1 ≠ (TX0 b).2.1 := by decide +kernel
theorem tyX0_ok : ∀ k, k < 0 → parseFieldDescriptor (TX0 k).2.2.1 = some (tyX0 k) := by decide +kernel
def RX1 : String := "RealSteps$Real"
def TX1 : u_T := fun k => match k with
  | 0 => ("RealSteps$Real", "top", "I", true)
  | _ => ("RealSteps$Real", "fraction", "J", true)
def tyX1 : Nat → FieldType := fun k => match k with
  | 0 => .int
  | _ => .long
abbrev wsX10 : List Cond := u_ws RX1 TX1 2
theorem nmX1 : ∀ a, a < 2 → ∀ b, b < 2 → a ≠ b → (TX1 a).2.1 ≠ (TX1 b).2.1 := by decide +kernel
theorem tyX1_ok : ∀ k, k < 2 → parseFieldDescriptor (TX1 k).2.2.1 = some (tyX1 k) := by decide +kernel
abbrev cX1_init : ByteArray := prog_3_method_1_code
def yX1_init : MethodName := ⟨RX1, "<init>", "(IJ)V"⟩
abbrev cX1_isNegative : ByteArray := prog_3_method_2_code
def yX1_isNegative : MethodName := ⟨RX1, "isNegative", "()Z"⟩
abbrev cX1_power : ByteArray := prog_3_method_3_code
def yX1_power : MethodName := ⟨RX1, "power", "()I"⟩
abbrev cX1_kind : ByteArray := prog_3_method_4_code
def yX1_kind : MethodName := ⟨RX1, "kind", "()LRealSteps$Kind;"⟩
abbrev cX1_isOf : ByteArray := prog_3_method_5_code
def yX1_isOf : MethodName := ⟨RX1, "isOf", "(LRealSteps$Kind;)Z"⟩
abbrev cX1_isNought : ByteArray := prog_3_method_6_code
def yX1_isNought : MethodName := ⟨RX1, "isNought", "()Z"⟩
abbrev cX1_side : ByteArray := prog_3_method_7_code
def yX1_side : MethodName := ⟨RX1, "side", "()I"⟩
abbrev cX1_unit : ByteArray := prog_3_method_8_code
def yX1_unit : MethodName := ⟨RX1, "unit", "()I"⟩
abbrev cX1_exponent : ByteArray := prog_3_method_9_code
def yX1_exponent : MethodName := ⟨RX1, "exponent", "()I"⟩
abbrev cX1_normalised : ByteArray := prog_3_method_10_code
def yX1_normalised : MethodName := ⟨RX1, "normalised", "()J"⟩
def RX2 : String := "RealSteps"
def TX2 : u_T := fun k => match k with
  | 0 => ("RealSteps", "tops", "[I", true)
  | 1 => ("RealSteps", "fractions", "[J", true)
  | 2 => ("RealSteps", "controlWord", "I", false)
  | 3 => ("RealSteps", "toldBits", "I", false)
  | 4 => ("RealSteps", "answered", "Z", false)
  | 5 => ("RealSteps", "quotientBits", "I", false)
  | _ => ("RealSteps", "partial", "Z", false)
def tyX2 : Nat → FieldType := fun k => match k with
  | 0 => .array .int
  | 1 => .array .long
  | 2 => .int
  | 3 => .int
  | 4 => .boolean
  | 5 => .int
  | _ => .boolean
abbrev wsX20 : List Cond := u_ws RX2 TX2 7
theorem nmX2 : ∀ a, a < 7 → ∀ b, b < 7 → a ≠ b → (TX2 a).2.1 ≠ (TX2 b).2.1 := by decide +kernel
theorem tyX2_ok : ∀ k, k < 7 → parseFieldDescriptor (TX2 k).2.2.1 = some (tyX2 k) := by decide +kernel
abbrev cX2_init : ByteArray := prog_1_method_1_code
def yX2_init : MethodName := ⟨RX2, "<init>", "()V"⟩
abbrev cX2_control : ByteArray := prog_1_method_2_code
def yX2_control : MethodName := ⟨RX2, "control", "(I)V"⟩
abbrev cX2_set : ByteArray := prog_1_method_3_code
def yX2_set : MethodName := ⟨RX2, "set", "(IIII)V"⟩
abbrev cX2_part : ByteArray := prog_1_method_4_code
def yX2_part : MethodName := ⟨RX2, "part", "(II)I"⟩
abbrev cX2_turn : ByteArray := prog_1_method_5_code
def yX2_turn : MethodName := ⟨RX2, "turn", "(IZ)V"⟩
abbrev cX2_constant : ByteArray := prog_1_method_6_code
def yX2_constant : MethodName := ⟨RX2, "constant", "(II)V"⟩
abbrev cX2_whole : ByteArray := prog_1_method_7_code
def yX2_whole : MethodName := ⟨RX2, "whole", "(II)I"⟩
abbrev cX2_scale : ByteArray := prog_1_method_8_code
def yX2_scale : MethodName := ⟨RX2, "scale", "(III)I"⟩
abbrev cX2_extract : ByteArray := prog_1_method_9_code
def yX2_extract : MethodName := ⟨RX2, "extract", "(III)I"⟩
abbrev cX2_remainder : ByteArray := prog_1_method_10_code
def yX2_remainder : MethodName := ⟨RX2, "remainder", "(III)I"⟩
abbrev cX2_compare : ByteArray := prog_1_method_11_code
def yX2_compare : MethodName := ⟨RX2, "compare", "(II)I"⟩
abbrev cX2_test : ByteArray := prog_1_method_12_code
def yX2_test : MethodName := ⟨RX2, "test", "(I)I"⟩
abbrev cX2_examine : ByteArray := prog_1_method_13_code
def yX2_examine : MethodName := ⟨RX2, "examine", "(I)I"⟩
abbrev cX2_told : ByteArray := prog_1_method_14_code
def yX2_told : MethodName := ⟨RX2, "told", "(I)I"⟩
abbrev cX2_needRegister : ByteArray := prog_1_method_15_code
def yX2_needRegister : MethodName := ⟨RX2, "needRegister", "(I)V"⟩
abbrev cX2_read : ByteArray := prog_1_method_16_code
def yX2_read : MethodName := ⟨RX2, "read", "(I)LRealSteps$Real;"⟩
abbrev cX2_write : ByteArray := prog_1_method_17_code
def yX2_write : MethodName := ⟨RX2, "write", "(ILRealSteps$Real;)V"⟩
abbrev cX2_rounding : ByteArray := prog_1_method_18_code
def yX2_rounding : MethodName := ⟨RX2, "rounding", "()I"⟩
abbrev cX2_isMasked : ByteArray := prog_1_method_19_code
def yX2_isMasked : MethodName := ⟨RX2, "isMasked", "(I)Z"⟩
abbrev cX2_goesOn : ByteArray := prog_1_method_20_code
def yX2_goesOn : MethodName := ⟨RX2, "goesOn", "(LRealSteps$Real;LRealSteps$Real;ZZ)Z"⟩
abbrev cX2_tellAtFirst : ByteArray := prog_1_method_21_code
def yX2_tellAtFirst : MethodName := ⟨RX2, "tellAtFirst", "(I)V"⟩
abbrev cX2_substitute : ByteArray := prog_1_method_22_code
def yX2_substitute : MethodName := ⟨RX2, "substitute", "(LRealSteps$Real;LRealSteps$Real;)LRealSteps$Real;"⟩
abbrev cX2_greaterNoNumber : ByteArray := prog_1_method_23_code
def yX2_greaterNoNumber : MethodName := ⟨RX2, "greaterNoNumber", "(LRealSteps$Real;LRealSteps$Real;)LRealSteps$Real;"⟩
abbrev cX2_signOf : ByteArray := prog_1_method_24_code
def yX2_signOf : MethodName := ⟨RX2, "signOf", "(Z)I"⟩
abbrev cX2_zero : ByteArray := prog_1_method_25_code
def yX2_zero : MethodName := ⟨RX2, "zero", "(Z)LRealSteps$Real;"⟩
abbrev cX2_infinite : ByteArray := prog_1_method_26_code
def yX2_infinite : MethodName := ⟨RX2, "infinite", "(Z)LRealSteps$Real;"⟩
abbrev cX2_normal : ByteArray := prog_1_method_27_code
def yX2_normal : MethodName := ⟨RX2, "normal", "(ZIJ)LRealSteps$Real;"⟩
abbrev cX2_make : ByteArray := prog_1_method_28_code
def yX2_make : MethodName := ⟨RX2, "make", "(ZJI)LRealSteps$Real;"⟩
abbrev cX2_makeUnder : ByteArray := prog_1_method_29_code
def yX2_makeUnder : MethodName := ⟨RX2, "makeUnder", "(ZIJ)LRealSteps$Real;"⟩
abbrev cX2_makeOver : ByteArray := prog_1_method_30_code
def yX2_makeOver : MethodName := ⟨RX2, "makeOver", "(ZIJ)LRealSteps$Real;"⟩
abbrev cX2_isCut : ByteArray := prog_1_method_31_code
def yX2_isCut : MethodName := ⟨RX2, "isCut", "(JI)Z"⟩
abbrev cX2_rounded : ByteArray := prog_1_method_32_code
def yX2_rounded : MethodName := ⟨RX2, "rounded", "(ZJI)J"⟩
abbrev cX2_isRoundedAway : ByteArray := prog_1_method_33_code
def yX2_isRoundedAway : MethodName := ⟨RX2, "isRoundedAway", "(ZJIJ)Z"⟩
abbrev cX2_isNearerAbove : ByteArray := prog_1_method_34_code
def yX2_isNearerAbove : MethodName := ⟨RX2, "isNearerAbove", "(JIJ)Z"⟩
abbrev cX2_wholeOf : ByteArray := prog_1_method_35_code
def yX2_wholeOf : MethodName := ⟨RX2, "wholeOf", "(LRealSteps$Real;)LRealSteps$Real;"⟩
abbrev cX2_isBeyondScale : ByteArray := prog_1_method_36_code
def yX2_isBeyondScale : MethodName := ⟨RX2, "isBeyondScale", "(LRealSteps$Real;)Z"⟩
abbrev cX2_scaled : ByteArray := prog_1_method_37_code
def yX2_scaled : MethodName := ⟨RX2, "scaled", "(LRealSteps$Real;LRealSteps$Real;)LRealSteps$Real;"⟩
abbrev cX2_cutOff : ByteArray := prog_1_method_38_code
def yX2_cutOff : MethodName := ⟨RX2, "cutOff", "(LRealSteps$Real;)I"⟩
abbrev cX2_powerOf : ByteArray := prog_1_method_39_code
def yX2_powerOf : MethodName := ⟨RX2, "powerOf", "(LRealSteps$Real;)LRealSteps$Real;"⟩
abbrev cX2_fractionOf : ByteArray := prog_1_method_40_code
def yX2_fractionOf : MethodName := ⟨RX2, "fractionOf", "(LRealSteps$Real;)LRealSteps$Real;"⟩
abbrev cX2_leftOver : ByteArray := prog_1_method_41_code
def yX2_leftOver : MethodName := ⟨RX2, "leftOver", "(LRealSteps$Real;LRealSteps$Real;)LRealSteps$Real;"⟩
abbrev cX2_divide : ByteArray := prog_1_method_42_code
def yX2_divide : MethodName := ⟨RX2, "divide", "(JJI)J"⟩
abbrev cX2_order : ByteArray := prog_1_method_43_code
def yX2_order : MethodName := ⟨RX2, "order", "(LRealSteps$Real;LRealSteps$Real;)I"⟩
abbrev cX2_orderOfSizes : ByteArray := prog_1_method_44_code
def yX2_orderOfSizes : MethodName := ⟨RX2, "orderOfSizes", "(LRealSteps$Real;LRealSteps$Real;)I"⟩
def RX3 : String := "RealStepsModel"
def TX3 : u_T := fun k => match k with
  | 0 => ("RealStepsModel", "code", "I", false)
  | 1 => ("RealStepsModel", "control", "I", false)
  | 2 => ("RealStepsModel", "top", "[I", true)
  | 3 => ("RealStepsModel", "fraction", "[J", true)
  | 4 => ("RealStepsModel", "told", "I", false)
  | 5 => ("RealStepsModel", "answered", "Z", false)
  | 6 => ("RealStepsModel", "quotient", "I", false)
  | 7 => ("RealStepsModel", "partial", "Z", false)
  | 8 => ("RealStepsModel", "answerTop", "I", false)
  | 9 => ("RealStepsModel", "answerFraction", "J", false)
  | 10 => ("RealStepsModel", "digits", "J", false)
  | 11 => ("RealStepsModel", "first", "I", false)
  | _ => ("RealStepsModel", "lost", "Z", false)
def tyX3 : Nat → FieldType := fun k => match k with
  | 0 => .int
  | 1 => .int
  | 2 => .array .int
  | 3 => .array .long
  | 4 => .int
  | 5 => .boolean
  | 6 => .int
  | 7 => .boolean
  | 8 => .int
  | 9 => .long
  | 10 => .long
  | 11 => .int
  | _ => .boolean
abbrev wsX30 : List Cond := u_ws RX3 TX3 13
theorem nmX3 : ∀ a, a < 13 → ∀ b, b < 13 → a ≠ b → (TX3 a).2.1 ≠ (TX3 b).2.1 := by decide +kernel
theorem tyX3_ok : ∀ k, k < 13 → parseFieldDescriptor (TX3 k).2.2.1 = some (tyX3 k) := by decide +kernel
abbrev cX3_init : ByteArray := prog_5_method_1_code
def yX3_init : MethodName := ⟨RX3, "<init>", "()V"⟩
abbrev cX3_thrown : ByteArray := prog_5_method_2_code
def yX3_thrown : MethodName := ⟨RX3, "thrown", "()I"⟩
abbrev cX3_none : ByteArray := prog_5_method_3_code
def yX3_none : MethodName := ⟨RX3, "none", "(I)Z"⟩
abbrev cX3_masked : ByteArray := prog_5_method_4_code
def yX3_masked : MethodName := ⟨RX3, "masked", "(I)Z"⟩
abbrev cX3_way : ByteArray := prog_5_method_5_code
def yX3_way : MethodName := ⟨RX3, "way", "()I"⟩
abbrev cX3_control : ByteArray := prog_5_method_6_code
def yX3_control : MethodName := ⟨RX3, "control", "(I)V"⟩
abbrev cX3_set : ByteArray := prog_5_method_7_code
def yX3_set : MethodName := ⟨RX3, "set", "(IIII)V"⟩
abbrev cX3_part : ByteArray := prog_5_method_8_code
def yX3_part : MethodName := ⟨RX3, "part", "(II)I"⟩
abbrev cX3_turn : ByteArray := prog_5_method_9_code
def yX3_turn : MethodName := ⟨RX3, "turn", "(IZ)V"⟩
abbrev cX3_constant : ByteArray := prog_5_method_10_code
def yX3_constant : MethodName := ⟨RX3, "constant", "(II)V"⟩
abbrev cX3_kind : ByteArray := prog_5_method_11_code
def yX3_kind : MethodName := ⟨RX3, "kind", "(I)I"⟩
abbrev cX3_minus : ByteArray := prog_5_method_12_code
def yX3_minus : MethodName := ⟨RX3, "minus", "(I)Z"⟩
abbrev cX3_nothing : ByteArray := prog_5_method_13_code
def yX3_nothing : MethodName := ⟨RX3, "nothing", "(I)Z"⟩
abbrev cX3_unit : ByteArray := prog_5_method_14_code
def yX3_unit : MethodName := ⟨RX3, "unit", "(I)I"⟩
abbrev cX3_apart : ByteArray := prog_5_method_15_code
def yX3_apart : MethodName := ⟨RX3, "apart", "(I)V"⟩
abbrev cX3_lessSize : ByteArray := prog_5_method_16_code
def yX3_lessSize : MethodName := ⟨RX3, "lessSize", "(JJ)Z"⟩
abbrev cX3_answer : ByteArray := prog_5_method_17_code
def yX3_answer : MethodName := ⟨RX3, "answer", "(IJ)V"⟩
abbrev cX3_tell : ByteArray := prog_5_method_18_code
def yX3_tell : MethodName := ⟨RX3, "tell", "(I)Z"⟩
abbrev cX3_begin : ByteArray := prog_5_method_19_code
def yX3_begin : MethodName := ⟨RX3, "begin", "()V"⟩
abbrev cX3_goesOn : ByteArray := prog_5_method_20_code
def yX3_goesOn : MethodName := ⟨RX3, "goesOn", "(IIZ)Z"⟩
abbrev cX3_rounded : ByteArray := prog_5_method_21_code
def yX3_rounded : MethodName := ⟨RX3, "rounded", "(JIZ)J"⟩
abbrev cX3_make : ByteArray := prog_5_method_22_code
def yX3_make : MethodName := ⟨RX3, "make", "(ZJI)V"⟩
abbrev cX3_keep : ByteArray := prog_5_method_23_code
def yX3_keep : MethodName := ⟨RX3, "keep", "(I)V"⟩
abbrev cX3_whole : ByteArray := prog_5_method_24_code
def yX3_whole : MethodName := ⟨RX3, "whole", "(II)I"⟩
abbrev cX3_scale : ByteArray := prog_5_method_25_code
def yX3_scale : MethodName := ⟨RX3, "scale", "(III)I"⟩
abbrev cX3_extract : ByteArray := prog_5_method_26_code
def yX3_extract : MethodName := ⟨RX3, "extract", "(III)I"⟩
abbrev cX3_remainder : ByteArray := prog_5_method_27_code
def yX3_remainder : MethodName := ⟨RX3, "remainder", "(III)I"⟩
abbrev cX3_divide : ByteArray := prog_5_method_28_code
def yX3_divide : MethodName := ⟨RX3, "divide", "(II)V"⟩
abbrev cX3_order : ByteArray := prog_5_method_29_code
def yX3_order : MethodName := ⟨RX3, "order", "(IZI)I"⟩
abbrev cX3_compared : ByteArray := prog_5_method_30_code
def yX3_compared : MethodName := ⟨RX3, "compared", "(IZI)I"⟩
abbrev cX3_compare : ByteArray := prog_5_method_31_code
def yX3_compare : MethodName := ⟨RX3, "compare", "(II)I"⟩
abbrev cX3_test : ByteArray := prog_5_method_32_code
def yX3_test : MethodName := ⟨RX3, "test", "(I)I"⟩
abbrev cX3_examine : ByteArray := prog_5_method_33_code
def yX3_examine : MethodName := ⟨RX3, "examine", "(I)I"⟩
abbrev cX3_told : ByteArray := prog_5_method_34_code
def yX3_told : MethodName := ⟨RX3, "told", "(I)I"⟩
def RJx29ce0 : String := "java/lang/Enum"
def TJx29ce0 : u_T := fun k => match k with
  | _ => ("", "", "", false)
def tyJx29ce0 : Nat → FieldType := fun k => match k with
  | _ => .int
abbrev wsJx29ce00 : List Cond := u_ws RJx29ce0 TJx29ce0 0
theorem nmJx29ce0 : ∀ a, a < 0 → ∀ b, b < 0 → a ≠ b → (TJx29ce0 a).2.1 ≠ (TJx29ce0 b).2.1 := by decide +kernel
theorem tyJx29ce0_ok : ∀ k, k < 0 → parseFieldDescriptor (TJx29ce0 k).2.2.1 = some (tyJx29ce0 k) := by decide +kernel
def RJ6 : String := "java/lang/Integer"
def TJ6 : u_T := fun k => match k with
  | _ => ("", "", "", false)
def tyJ6 : Nat → FieldType := fun k => match k with
  | _ => .int
abbrev wsJ60 : List Cond := u_ws RJ6 TJ6 0
theorem nmJ6 : ∀ a, a < 0 → ∀ b, b < 0 → a ≠ b → (TJ6 a).2.1 ≠ (TJ6 b).2.1 := by decide +kernel
theorem tyJ6_ok : ∀ k, k < 0 → parseFieldDescriptor (TJ6 k).2.2.1 = some (tyJ6 k) := by decide +kernel
abbrev cJ6_numberOfLeadingZeros_0f7a4 : ByteArray := prog_10_method_47_code
def yJ6_numberOfLeadingZeros_0f7a4 : MethodName := ⟨RJ6, "numberOfLeadingZeros", "(I)I"⟩
def RJ13 : String := "java/lang/Long"
def TJ13 : u_T := fun k => match k with
  | _ => ("", "", "", false)
def tyJ13 : Nat → FieldType := fun k => match k with
  | _ => .int
abbrev wsJ130 : List Cond := u_ws RJ13 TJ13 0
theorem nmJ13 : ∀ a, a < 0 → ∀ b, b < 0 → a ≠ b → (TJ13 a).2.1 ≠ (TJ13 b).2.1 := by decide +kernel
theorem tyJ13_ok : ∀ k, k < 0 → parseFieldDescriptor (TJ13 k).2.2.1 = some (tyJ13 k) := by decide +kernel
abbrev cJ13_compare_74951 : ByteArray := prog_11_method_42_code
def yJ13_compare_74951 : MethodName := ⟨RJ13, "compare", "(JJ)I"⟩
abbrev cJ13_compareUnsigned_74951 : ByteArray := prog_11_method_43_code
def yJ13_compareUnsigned_74951 : MethodName := ⟨RJ13, "compareUnsigned", "(JJ)I"⟩
abbrev cJ13_numberOfLeadingZeros_95d88 : ByteArray := prog_11_method_48_code
def yJ13_numberOfLeadingZeros_95d88 : MethodName := ⟨RJ13, "numberOfLeadingZeros", "(J)I"⟩
def RJ9 : String := "java/lang/Math"
def TJ9 : u_T := fun k => match k with
  | _ => ("", "", "", false)
def tyJ9 : Nat → FieldType := fun k => match k with
  | _ => .int
abbrev wsJ90 : List Cond := u_ws RJ9 TJ9 0
theorem nmJ9 : ∀ a, a < 0 → ∀ b, b < 0 → a ≠ b → (TJ9 a).2.1 ≠ (TJ9 b).2.1 := by decide +kernel
theorem tyJ9_ok : ∀ k, k < 0 → parseFieldDescriptor (TJ9 k).2.2.1 = some (tyJ9 k) := by decide +kernel
abbrev cJ9_abs_0f7a4 : ByteArray := prog_12_method_59_code
def yJ9_abs_0f7a4 : MethodName := ⟨RJ9, "abs", "(I)I"⟩
abbrev cJ9_max_7cf53 : ByteArray := prog_12_method_65_code
def yJ9_max_7cf53 : MethodName := ⟨RJ9, "max", "(II)I"⟩
def RJ0 : String := "java/lang/String"
def TJ0 : u_T := fun k => match k with
  | _ => ("", "", "", false)
def tyJ0 : Nat → FieldType := fun k => match k with
  | _ => .int
abbrev wsJ00 : List Cond := u_ws RJ0 TJ0 0
theorem nmJ0 : ∀ a, a < 0 → ∀ b, b < 0 → a ≠ b → (TJ0 a).2.1 ≠ (TJ0 b).2.1 := by decide +kernel
theorem tyJ0_ok : ∀ k, k < 0 → parseFieldDescriptor (TJ0 k).2.2.1 = some (tyJ0 k) := by decide +kernel
def RL : String := "RealStepsLaw"
abbrev cL_control : ByteArray := method_3_code
def yL_control : MethodName := ⟨RL, "control", "(LRealSteps;I)I"⟩
abbrev cL_set : ByteArray := method_4_code
def yL_set : MethodName := ⟨RL, "set", "(LRealSteps;IIII)I"⟩
abbrev cL_part : ByteArray := method_5_code
def yL_part : MethodName := ⟨RL, "part", "(LRealSteps;II[J)I"⟩
abbrev cL_turn : ByteArray := method_6_code
def yL_turn : MethodName := ⟨RL, "turn", "(LRealSteps;IZ)I"⟩
abbrev cL_constant : ByteArray := method_7_code
def yL_constant : MethodName := ⟨RL, "constant", "(LRealSteps;II)I"⟩
abbrev cL_whole : ByteArray := method_8_code
def yL_whole : MethodName := ⟨RL, "whole", "(LRealSteps;II[J)I"⟩
abbrev cL_scale : ByteArray := method_9_code
def yL_scale : MethodName := ⟨RL, "scale", "(LRealSteps;III[J)I"⟩
abbrev cL_extract : ByteArray := method_10_code
def yL_extract : MethodName := ⟨RL, "extract", "(LRealSteps;III[J)I"⟩
abbrev cL_remainder : ByteArray := method_11_code
def yL_remainder : MethodName := ⟨RL, "remainder", "(LRealSteps;III[J)I"⟩
abbrev cL_compare : ByteArray := method_12_code
def yL_compare : MethodName := ⟨RL, "compare", "(LRealSteps;II[J)I"⟩
abbrev cL_test : ByteArray := method_13_code
def yL_test : MethodName := ⟨RL, "test", "(LRealSteps;I[J)I"⟩
abbrev cL_examine : ByteArray := method_14_code
def yL_examine : MethodName := ⟨RL, "examine", "(LRealSteps;I[J)I"⟩
abbrev cL_told : ByteArray := method_15_code
def yL_told : MethodName := ⟨RL, "told", "(LRealSteps;I[J)I"⟩
abbrev cL_law : ByteArray := code
def yL_law : MethodName := ⟨RL, "law", "([I)Z"⟩
def wsX1_init : List Cond := .code yX1_init cX1_init 4 none :: ([.methodLink RX1 3 objectInit, .instanceMethod objectInit, .code objectInit ⟨#[0xb1]⟩ 1 none, .fieldLink RX1 9 "RealSteps$Real" "top" "I", .fieldLink RX1 15 "RealSteps$Real" "fraction" "J"] ++ wsX10)
def wsX1_isNegative : List Cond := .code yX1_isNegative cX1_isNegative 1 (some .boolean) :: ([.fieldLink RX1 9 "RealSteps$Real" "top" "I", .constant RX1 19 (32768)] ++ wsX10)
def wsX1_power : List Cond := .code yX1_power cX1_power 1 (some .int) :: ([.fieldLink RX1 9 "RealSteps$Real" "top" "I"] ++ wsX10)
def wsX1_kind : List Cond := .code yX1_kind cX1_kind 2 (some (.object "RealSteps$Kind")) :: ([.fieldLink RX1 15 "RealSteps$Real" "fraction" "J", .fieldLink RX1 24 "RealSteps$Kind" "ZERO" "LRealSteps$Kind;", .fieldLink RX1 30 "RealSteps$Kind" "DENORMAL" "LRealSteps$Kind;", .fieldLink RX1 33 "RealSteps$Kind" "INFINITE" "LRealSteps$Kind;", .fieldLink RX1 36 "RealSteps$Kind" "NO_NUMBER" "LRealSteps$Kind;", .fieldLink RX1 39 "RealSteps$Kind" "NORMAL" "LRealSteps$Kind;", .fieldLink RX1 42 "RealSteps$Kind" "UNNORMAL" "LRealSteps$Kind;", .methodLink RX1 20 yX1_power, .instanceMethod yX1_power, .selects RX1 yX1_power yX1_power, .initialized RX1, .code yX1_power cX1_power 1 (some .int), .fieldLink RX1 9 "RealSteps$Real" "top" "I"] ++ wsX10)
def wsX1_isOf : List Cond := .code yX1_isOf cX1_isOf 2 (some .boolean) :: ([.methodLink RX1 45 yX1_kind, .instanceMethod yX1_kind, .selects RX1 yX1_kind yX1_kind, .initialized RX1, .code yX1_kind cX1_kind 2 (some (.object "RealSteps$Kind")), .fieldLink RX1 15 "RealSteps$Real" "fraction" "J", .fieldLink RX1 24 "RealSteps$Kind" "ZERO" "LRealSteps$Kind;", .fieldLink RX1 30 "RealSteps$Kind" "DENORMAL" "LRealSteps$Kind;", .fieldLink RX1 33 "RealSteps$Kind" "INFINITE" "LRealSteps$Kind;", .fieldLink RX1 36 "RealSteps$Kind" "NO_NUMBER" "LRealSteps$Kind;", .fieldLink RX1 39 "RealSteps$Kind" "NORMAL" "LRealSteps$Kind;", .fieldLink RX1 42 "RealSteps$Kind" "UNNORMAL" "LRealSteps$Kind;", .methodLink RX1 20 yX1_power, .instanceMethod yX1_power, .selects RX1 yX1_power yX1_power, .code yX1_power cX1_power 1 (some .int), .fieldLink RX1 9 "RealSteps$Real" "top" "I"] ++ wsX10)
def wsX1_isNought : List Cond := .code yX1_isNought cX1_isNought 1 (some .boolean) :: ([.fieldLink RX1 15 "RealSteps$Real" "fraction" "J", .methodLink RX1 20 yX1_power, .instanceMethod yX1_power, .selects RX1 yX1_power yX1_power, .initialized RX1, .code yX1_power cX1_power 1 (some .int), .fieldLink RX1 9 "RealSteps$Real" "top" "I"] ++ wsX10)
def wsX1_side : List Cond := .code yX1_side cX1_side 1 (some .int) :: ([.methodLink RX1 49 yX1_isNought, .instanceMethod yX1_isNought, .selects RX1 yX1_isNought yX1_isNought, .initialized RX1, .code yX1_isNought cX1_isNought 1 (some .boolean), .fieldLink RX1 15 "RealSteps$Real" "fraction" "J", .methodLink RX1 20 yX1_power, .instanceMethod yX1_power, .selects RX1 yX1_power yX1_power, .code yX1_power cX1_power 1 (some .int), .fieldLink RX1 9 "RealSteps$Real" "top" "I", .methodLink RX1 53 yX1_isNegative, .instanceMethod yX1_isNegative, .selects RX1 yX1_isNegative yX1_isNegative, .code yX1_isNegative cX1_isNegative 1 (some .boolean), .constant RX1 19 (32768)] ++ wsX10)
def wsX1_unit : List Cond := .code yX1_unit cX1_unit 1 (some .int) :: ([.methodLink RX1 56 Lib.Math.max.name, .static Lib.Math.max.name, .initialized "java/lang/Math", .code Lib.Math.max.name Lib.Math.max.code 2 (some .int), .methodLink RX1 20 yX1_power, .instanceMethod yX1_power, .selects RX1 yX1_power yX1_power, .initialized RX1, .code yX1_power cX1_power 1 (some .int), .fieldLink RX1 9 "RealSteps$Real" "top" "I"] ++ wsX10)
def wsJ6_numberOfLeadingZeros_0f7a4 : List Cond := .code yJ6_numberOfLeadingZeros_0f7a4 cJ6_numberOfLeadingZeros_0f7a4 2 (some .int) :: ([.constant RJ6 264 (65536)])
def wsJ13_numberOfLeadingZeros_95d88 : List Cond := .code yJ13_numberOfLeadingZeros_95d88 cJ13_numberOfLeadingZeros_95d88 3 (some .int) :: ([.methodLink RJ13 308 yJ6_numberOfLeadingZeros_0f7a4, .static yJ6_numberOfLeadingZeros_0f7a4, .initialized RJ6, .code yJ6_numberOfLeadingZeros_0f7a4 cJ6_numberOfLeadingZeros_0f7a4 2 (some .int), .constant RJ6 264 (65536)])
def wsX1_exponent : List Cond := .code yX1_exponent cX1_exponent 1 (some .int) :: ([.fieldLink RX1 15 "RealSteps$Real" "fraction" "J", .methodLink RX1 62 yX1_unit, .instanceMethod yX1_unit, .selects RX1 yX1_unit yX1_unit, .initialized RX1, .code yX1_unit cX1_unit 1 (some .int), .methodLink RX1 56 Lib.Math.max.name, .static Lib.Math.max.name, .initialized "java/lang/Math", .code Lib.Math.max.name Lib.Math.max.code 2 (some .int), .methodLink RX1 20 yX1_power, .instanceMethod yX1_power, .selects RX1 yX1_power yX1_power, .code yX1_power cX1_power 1 (some .int), .fieldLink RX1 9 "RealSteps$Real" "top" "I", .methodLink RX1 65 yJ13_numberOfLeadingZeros_95d88, .static yJ13_numberOfLeadingZeros_95d88, .initialized RJ13, .code yJ13_numberOfLeadingZeros_95d88 cJ13_numberOfLeadingZeros_95d88 3 (some .int), .methodLink RJ13 308 yJ6_numberOfLeadingZeros_0f7a4, .static yJ6_numberOfLeadingZeros_0f7a4, .initialized RJ6, .code yJ6_numberOfLeadingZeros_0f7a4 cJ6_numberOfLeadingZeros_0f7a4 2 (some .int), .constant RJ6 264 (65536)] ++ wsX10)
def wsX1_normalised : List Cond := .code yX1_normalised cX1_normalised 1 (some .long) :: ([.fieldLink RX1 15 "RealSteps$Real" "fraction" "J", .methodLink RX1 65 yJ13_numberOfLeadingZeros_95d88, .static yJ13_numberOfLeadingZeros_95d88, .initialized RJ13, .code yJ13_numberOfLeadingZeros_95d88 cJ13_numberOfLeadingZeros_95d88 3 (some .int), .methodLink RJ13 308 yJ6_numberOfLeadingZeros_0f7a4, .static yJ6_numberOfLeadingZeros_0f7a4, .initialized RJ6, .code yJ6_numberOfLeadingZeros_0f7a4 cJ6_numberOfLeadingZeros_0f7a4 2 (some .int), .constant RJ6 264 (65536)] ++ wsX10)
def wsX2_init : List Cond := .code yX2_init cX2_init 1 none :: ([.methodLink RX2 3 objectInit, .instanceMethod objectInit, .code objectInit ⟨#[0xb1]⟩ 1 none, .arrayClass .int, .fieldLink RX2 9 "RealSteps" "tops" "[I", .arrayClass .long, .fieldLink RX2 13 "RealSteps" "fractions" "[J", .fieldLink RX2 17 "RealSteps" "controlWord" "I", .fieldLink RX2 21 "RealSteps" "toldBits" "I", .fieldLink RX2 24 "RealSteps" "answered" "Z", .fieldLink RX2 28 "RealSteps" "quotientBits" "I", .fieldLink RX2 31 "RealSteps" "partial" "Z"] ++ wsX20)
def wsX2_control : List Cond := .code yX2_control cX2_control 2 none :: ([.classLink RX2 35 "java/lang/IllegalArgumentException", .initialized "java/lang/IllegalArgumentException", .constant RX2 34 (65535), .fieldLink RX2 17 "RealSteps" "controlWord" "I"] ++ wsX20 ++ (vx_atS RX2 39 "java/lang/IllegalArgumentException" ["java/lang/RuntimeException", "java/lang/Exception"]).filter goodWord)
def wsX2_needRegister : List Cond := .code yX2_needRegister cX2_needRegister 1 none :: ([.classLink RX2 142 "java/lang/IndexOutOfBoundsException", .initialized "java/lang/IndexOutOfBoundsException"] ++ (vx_atS RX2 146 "java/lang/IndexOutOfBoundsException" ["java/lang/RuntimeException", "java/lang/Exception"]).filter goodWord)
def wsX2_write : List Cond := .code yX2_write cX2_write 3 none :: ([.fieldLink RX2 9 "RealSteps" "tops" "[I", .fieldLink RX2 13 "RealSteps" "fractions" "[J"] ++ wsX20 ++ wsX10)
def wsX2_set_r1 : List Cond := [Cond.classLink RX2 35 "java/lang/IllegalArgumentException", Cond.initialized "java/lang/IllegalArgumentException", Cond.constant RX2 34 (65535), Cond.classLink RX2 48 RX1, Cond.instantiable RX1 2, Cond.initialized RX1, Cond.constantLong RX2 50 (4294967295), Cond.methodLink RX2 42 yX2_needRegister, Cond.static yX2_needRegister, Cond.initialized RX2, Cond.code yX2_needRegister cX2_needRegister 1 none, Cond.classLink RX2 142 "java/lang/IndexOutOfBoundsException", Cond.initialized "java/lang/IndexOutOfBoundsException", Cond.instanceMethod yX1_init, Cond.code yX1_init cX1_init 4 none, Cond.methodLink RX1 3 objectInit, Cond.instanceMethod objectInit, Cond.code objectInit ⟨#[0xb1]⟩ 1 none, Cond.fieldLink RX1 9 "RealSteps$Real" "top" "I", Cond.fieldLink RX1 15 "RealSteps$Real" "fraction" "J", Cond.methodLink RX2 55 yX2_write, Cond.instanceMethod yX2_write, Cond.selects RX2 yX2_write yX2_write, Cond.code yX2_write cX2_write 3 none]
def wsX2_set_r2 : List Cond := [Cond.fieldLink RX2 9 "RealSteps" "tops" "[I", Cond.fieldLink RX2 13 "RealSteps" "fractions" "[J"]
def wsX2_set : List Cond := .code yX2_set cX2_set 5 none :: ((wsX2_set_r1 ++ wsX2_set_r2) ++ wsX10 ++ wsX20 ++ (vx_atS RX2 39 "java/lang/IllegalArgumentException" ["java/lang/RuntimeException", "java/lang/Exception"]).filter goodWord ++ (vx_atS RX2 146 "java/lang/IndexOutOfBoundsException" ["java/lang/RuntimeException", "java/lang/Exception"]).filter goodWord)
def wsX2_part : List Cond := .code yX2_part cX2_part 3 (some .int) :: ([.classLink RX2 35 "java/lang/IllegalArgumentException", .initialized "java/lang/IllegalArgumentException", .fieldLink RX2 9 "RealSteps" "tops" "[I", .fieldLink RX2 13 "RealSteps" "fractions" "[J", .methodLink RX2 42 yX2_needRegister, .static yX2_needRegister, .initialized RX2, .code yX2_needRegister cX2_needRegister 1 none, .classLink RX2 142 "java/lang/IndexOutOfBoundsException", .initialized "java/lang/IndexOutOfBoundsException"] ++ wsX20 ++ (vx_atS RX2 39 "java/lang/IllegalArgumentException" ["java/lang/RuntimeException", "java/lang/Exception"]).filter goodWord ++ (vx_atS RX2 146 "java/lang/IndexOutOfBoundsException" ["java/lang/RuntimeException", "java/lang/Exception"]).filter goodWord)
def wsX2_turn : List Cond := .code yX2_turn cX2_turn 3 none :: ([.fieldLink RX2 9 "RealSteps" "tops" "[I", .constant RX2 61 (-32769), .constant RX2 62 (32768), .methodLink RX2 42 yX2_needRegister, .static yX2_needRegister, .initialized RX2, .code yX2_needRegister cX2_needRegister 1 none, .classLink RX2 142 "java/lang/IndexOutOfBoundsException", .initialized "java/lang/IndexOutOfBoundsException"] ++ wsX20 ++ (vx_atS RX2 146 "java/lang/IndexOutOfBoundsException" ["java/lang/RuntimeException", "java/lang/Exception"]).filter goodWord)
def wsX2_constant_r1 : List Cond := [Cond.classLink RX2 35 "java/lang/IllegalArgumentException", Cond.initialized "java/lang/IllegalArgumentException", Cond.fieldLink RX2 63 "RealSteps" "CONSTANT_TOPS" "[I", Cond.fieldLink RX2 66 "RealSteps" "CONSTANT_FRACTIONS" "[J", Cond.classLink RX2 48 RX1, Cond.instantiable RX1 2, Cond.initialized RX1, Cond.methodLink RX2 42 yX2_needRegister, Cond.static yX2_needRegister, Cond.initialized RX2, Cond.code yX2_needRegister cX2_needRegister 1 none, Cond.classLink RX2 142 "java/lang/IndexOutOfBoundsException", Cond.initialized "java/lang/IndexOutOfBoundsException", Cond.instanceMethod yX1_init, Cond.code yX1_init cX1_init 4 none, Cond.methodLink RX1 3 objectInit, Cond.instanceMethod objectInit, Cond.code objectInit ⟨#[0xb1]⟩ 1 none, Cond.fieldLink RX1 9 "RealSteps$Real" "top" "I", Cond.fieldLink RX1 15 "RealSteps$Real" "fraction" "J", Cond.methodLink RX2 55 yX2_write, Cond.instanceMethod yX2_write, Cond.selects RX2 yX2_write yX2_write, Cond.code yX2_write cX2_write 3 none]
def wsX2_constant_r2 : List Cond := [Cond.fieldLink RX2 9 "RealSteps" "tops" "[I", Cond.fieldLink RX2 13 "RealSteps" "fractions" "[J"]
def wsX2_constant : List Cond := .code yX2_constant cX2_constant 3 none :: ((wsX2_constant_r1 ++ wsX2_constant_r2) ++ wsX10 ++ wsX20 ++ (vx_atS RX2 39 "java/lang/IllegalArgumentException" ["java/lang/RuntimeException", "java/lang/Exception"]).filter goodWord ++ (vx_atS RX2 146 "java/lang/IndexOutOfBoundsException" ["java/lang/RuntimeException", "java/lang/Exception"]).filter goodWord)
def wsX2_read : List Cond := .code yX2_read cX2_read 2 (some (.object "RealSteps$Real")) :: ([.classLink RX2 48 RX1, .instantiable RX1 2, .initialized RX1, .fieldLink RX2 9 "RealSteps" "tops" "[I", .fieldLink RX2 13 "RealSteps" "fractions" "[J", .instanceMethod yX1_init, .code yX1_init cX1_init 4 none, .methodLink RX1 3 objectInit, .instanceMethod objectInit, .code objectInit ⟨#[0xb1]⟩ 1 none, .fieldLink RX1 9 "RealSteps$Real" "top" "I", .fieldLink RX1 15 "RealSteps$Real" "fraction" "J"] ++ wsX10 ++ wsX20)
def wsX2_isMasked : List Cond := .code yX2_isMasked cX2_isMasked 2 (some .boolean) :: ([.fieldLink RX2 17 "RealSteps" "controlWord" "I"] ++ wsX20)
def wsX2_tellAtFirst : List Cond := .code yX2_tellAtFirst cX2_tellAtFirst 2 none :: ([.fieldLink RX2 21 "RealSteps" "toldBits" "I", .fieldLink RX2 24 "RealSteps" "answered" "Z", .methodLink RX2 163 yX2_isMasked, .instanceMethod yX2_isMasked, .selects RX2 yX2_isMasked yX2_isMasked, .initialized RX2, .code yX2_isMasked cX2_isMasked 2 (some .boolean), .fieldLink RX2 17 "RealSteps" "controlWord" "I"] ++ wsX20)
def wsX2_goesOn_r1 : List Cond := [Cond.fieldLink RX2 21 "RealSteps" "toldBits" "I", Cond.fieldLink RX2 24 "RealSteps" "answered" "Z", Cond.fieldLink RX2 154 "RealSteps$Kind" "NO_NUMBER" "LRealSteps$Kind;", Cond.fieldLink RX2 160 "RealSteps$Kind" "DENORMAL" "LRealSteps$Kind;", Cond.instanceMethod yX1_isOf, Cond.initialized RX1, Cond.selects RX1 yX1_isOf yX1_isOf, Cond.code yX1_isOf cX1_isOf 2 (some .boolean), Cond.methodLink RX1 45 yX1_kind, Cond.instanceMethod yX1_kind, Cond.selects RX1 yX1_kind yX1_kind, Cond.code yX1_kind cX1_kind 2 (some (.object "RealSteps$Kind")), Cond.fieldLink RX1 15 "RealSteps$Real" "fraction" "J", Cond.fieldLink RX1 24 "RealSteps$Kind" "ZERO" "LRealSteps$Kind;", Cond.fieldLink RX1 30 "RealSteps$Kind" "DENORMAL" "LRealSteps$Kind;", Cond.fieldLink RX1 33 "RealSteps$Kind" "INFINITE" "LRealSteps$Kind;", Cond.fieldLink RX1 36 "RealSteps$Kind" "NO_NUMBER" "LRealSteps$Kind;", Cond.fieldLink RX1 39 "RealSteps$Kind" "NORMAL" "LRealSteps$Kind;", Cond.fieldLink RX1 42 "RealSteps$Kind" "UNNORMAL" "LRealSteps$Kind;", Cond.methodLink RX1 20 yX1_power, Cond.instanceMethod yX1_power, Cond.selects RX1 yX1_power yX1_power, Cond.code yX1_power cX1_power 1 (some .int), Cond.fieldLink RX1 9 "RealSteps$Real" "top" "I"]
def wsX2_goesOn_r2 : List Cond := [Cond.methodLink RX2 157 yX2_tellAtFirst, Cond.instanceMethod yX2_tellAtFirst, Cond.selects RX2 yX2_tellAtFirst yX2_tellAtFirst, Cond.initialized RX2, Cond.code yX2_tellAtFirst cX2_tellAtFirst 2 none, Cond.methodLink RX2 163 yX2_isMasked, Cond.instanceMethod yX2_isMasked, Cond.selects RX2 yX2_isMasked yX2_isMasked, Cond.code yX2_isMasked cX2_isMasked 2 (some .boolean), Cond.fieldLink RX2 17 "RealSteps" "controlWord" "I"]
def wsX2_goesOn : List Cond := .code yX2_goesOn cX2_goesOn 5 (some .boolean) :: ((wsX2_goesOn_r1 ++ wsX2_goesOn_r2) ++ wsX20 ++ wsX10)
def wsX2_signOf : List Cond := .code yX2_signOf cX2_signOf 1 (some .int) :: ([.constant RX2 62 (32768)])
def wsX2_zero : List Cond := .code yX2_zero cX2_zero 1 (some (.object "RealSteps$Real")) :: ([.classLink RX2 48 RX1, .instantiable RX1 2, .initialized RX1, .methodLink RX2 178 yX2_signOf, .static yX2_signOf, .initialized RX2, .code yX2_signOf cX2_signOf 1 (some .int), .constant RX2 62 (32768), .instanceMethod yX1_init, .code yX1_init cX1_init 4 none, .methodLink RX1 3 objectInit, .instanceMethod objectInit, .code objectInit ⟨#[0xb1]⟩ 1 none, .fieldLink RX1 9 "RealSteps$Real" "top" "I", .fieldLink RX1 15 "RealSteps$Real" "fraction" "J"] ++ wsX10)
def wsX2_normal : List Cond := .code yX2_normal cX2_normal 4 (some (.object "RealSteps$Real")) :: ([.classLink RX2 48 RX1, .instantiable RX1 2, .initialized RX1, .methodLink RX2 178 yX2_signOf, .static yX2_signOf, .initialized RX2, .code yX2_signOf cX2_signOf 1 (some .int), .constant RX2 62 (32768), .instanceMethod yX1_init, .code yX1_init cX1_init 4 none, .methodLink RX1 3 objectInit, .instanceMethod objectInit, .code objectInit ⟨#[0xb1]⟩ 1 none, .fieldLink RX1 9 "RealSteps$Real" "top" "I", .fieldLink RX1 15 "RealSteps$Real" "fraction" "J"] ++ wsX10)
def wsX2_isCut : List Cond := .code yX2_isCut cX2_isCut 3 (some .boolean) :: ([])
def wsX2_rounding : List Cond := .code yX2_rounding cX2_rounding 1 (some .int) :: ([.fieldLink RX2 17 "RealSteps" "controlWord" "I"] ++ wsX20)
def wsJ13_compare_74951 : List Cond := .code yJ13_compare_74951 cJ13_compare_74951 4 (some .int) :: ([])
def wsJ13_compareUnsigned_74951 : List Cond := .code yJ13_compareUnsigned_74951 cJ13_compareUnsigned_74951 4 (some .int) :: ([.constantLong RJ13 168 (-9223372036854775808), .methodLink RJ13 302 yJ13_compare_74951, .static yJ13_compare_74951, .initialized RJ13, .code yJ13_compare_74951 cJ13_compare_74951 4 (some .int)])
def wsX2_isNearerAbove : List Cond := .code yX2_isNearerAbove cX2_isNearerAbove 9 (some .boolean) :: ([.methodLink RX2 172 yJ13_compareUnsigned_74951, .static yJ13_compareUnsigned_74951, .initialized RJ13, .code yJ13_compareUnsigned_74951 cJ13_compareUnsigned_74951 4 (some .int), .constantLong RJ13 168 (-9223372036854775808), .methodLink RJ13 302 yJ13_compare_74951, .static yJ13_compare_74951, .code yJ13_compare_74951 cJ13_compare_74951 4 (some .int)])
def wsX2_isRoundedAway : List Cond := .code yX2_isRoundedAway cX2_isRoundedAway 7 (some .boolean) :: ([.methodLink RX2 206 yX2_rounding, .instanceMethod yX2_rounding, .selects RX2 yX2_rounding yX2_rounding, .initialized RX2, .code yX2_rounding cX2_rounding 1 (some .int), .fieldLink RX2 17 "RealSteps" "controlWord" "I", .methodLink RX2 219 yX2_isNearerAbove, .static yX2_isNearerAbove, .code yX2_isNearerAbove cX2_isNearerAbove 9 (some .boolean), .methodLink RX2 172 yJ13_compareUnsigned_74951, .static yJ13_compareUnsigned_74951, .initialized RJ13, .code yJ13_compareUnsigned_74951 cJ13_compareUnsigned_74951 4 (some .int), .constantLong RJ13 168 (-9223372036854775808), .methodLink RJ13 302 yJ13_compare_74951, .static yJ13_compare_74951, .code yJ13_compare_74951 cJ13_compare_74951 4 (some .int)] ++ wsX20)
def wsX2_rounded : List Cond := .code yX2_rounded cX2_rounded 7 (some .long) :: ([.methodLink RX2 198 yX2_isCut, .static yX2_isCut, .initialized RX2, .code yX2_isCut cX2_isCut 3 (some .boolean), .methodLink RX2 215 yX2_isRoundedAway, .instanceMethod yX2_isRoundedAway, .selects RX2 yX2_isRoundedAway yX2_isRoundedAway, .code yX2_isRoundedAway cX2_isRoundedAway 7 (some .boolean), .methodLink RX2 206 yX2_rounding, .instanceMethod yX2_rounding, .selects RX2 yX2_rounding yX2_rounding, .code yX2_rounding cX2_rounding 1 (some .int), .fieldLink RX2 17 "RealSteps" "controlWord" "I", .methodLink RX2 219 yX2_isNearerAbove, .static yX2_isNearerAbove, .code yX2_isNearerAbove cX2_isNearerAbove 9 (some .boolean), .methodLink RX2 172 yJ13_compareUnsigned_74951, .static yJ13_compareUnsigned_74951, .initialized RJ13, .code yJ13_compareUnsigned_74951 cJ13_compareUnsigned_74951 4 (some .int), .constantLong RJ13 168 (-9223372036854775808), .methodLink RJ13 302 yJ13_compare_74951, .static yJ13_compare_74951, .code yJ13_compare_74951 cJ13_compare_74951 4 (some .int)] ++ wsX20)
def wsX2_makeUnder_r1 : List Cond := [Cond.fieldLink RX2 21 "RealSteps" "toldBits" "I", Cond.classLink RX2 48 RX1, Cond.instantiable RX1 2, Cond.initialized RX1, Cond.methodLink RX2 163 yX2_isMasked, Cond.instanceMethod yX2_isMasked, Cond.selects RX2 yX2_isMasked yX2_isMasked, Cond.initialized RX2, Cond.code yX2_isMasked cX2_isMasked 2 (some .boolean), Cond.fieldLink RX2 17 "RealSteps" "controlWord" "I", Cond.methodLink RX2 195 yX2_normal, Cond.static yX2_normal, Cond.code yX2_normal cX2_normal 4 (some (.object "RealSteps$Real")), Cond.methodLink RX2 178 yX2_signOf, Cond.static yX2_signOf, Cond.code yX2_signOf cX2_signOf 1 (some .int), Cond.constant RX2 62 (32768), Cond.instanceMethod yX1_init, Cond.code yX1_init cX1_init 4 none, Cond.methodLink RX1 3 objectInit, Cond.instanceMethod objectInit, Cond.code objectInit ⟨#[0xb1]⟩ 1 none, Cond.fieldLink RX1 9 "RealSteps$Real" "top" "I", Cond.fieldLink RX1 15 "RealSteps$Real" "fraction" "J"]
def wsX2_makeUnder_r2 : List Cond := [Cond.methodLink RX2 198 yX2_isCut, Cond.static yX2_isCut, Cond.code yX2_isCut cX2_isCut 3 (some .boolean), Cond.methodLink RX2 202 yX2_rounded, Cond.instanceMethod yX2_rounded, Cond.selects RX2 yX2_rounded yX2_rounded, Cond.code yX2_rounded cX2_rounded 7 (some .long), Cond.methodLink RX2 215 yX2_isRoundedAway, Cond.instanceMethod yX2_isRoundedAway, Cond.selects RX2 yX2_isRoundedAway yX2_isRoundedAway, Cond.code yX2_isRoundedAway cX2_isRoundedAway 7 (some .boolean), Cond.methodLink RX2 206 yX2_rounding, Cond.instanceMethod yX2_rounding, Cond.selects RX2 yX2_rounding yX2_rounding, Cond.code yX2_rounding cX2_rounding 1 (some .int), Cond.methodLink RX2 219 yX2_isNearerAbove, Cond.static yX2_isNearerAbove, Cond.code yX2_isNearerAbove cX2_isNearerAbove 9 (some .boolean), Cond.methodLink RX2 172 yJ13_compareUnsigned_74951, Cond.static yJ13_compareUnsigned_74951, Cond.initialized RJ13, Cond.code yJ13_compareUnsigned_74951 cJ13_compareUnsigned_74951 4 (some .int), Cond.constantLong RJ13 168 (-9223372036854775808), Cond.methodLink RJ13 302 yJ13_compare_74951]
def wsX2_makeUnder_r3 : List Cond := [Cond.static yJ13_compare_74951, Cond.code yJ13_compare_74951 cJ13_compare_74951 4 (some .int)]
def wsX2_makeUnder : List Cond := .code yX2_makeUnder cX2_makeUnder 8 (some (.object "RealSteps$Real")) :: ((wsX2_makeUnder_r1 ++ (wsX2_makeUnder_r2 ++ wsX2_makeUnder_r3)) ++ wsX20 ++ wsX10)
def wsX2_infinite : List Cond := .code yX2_infinite cX2_infinite 1 (some (.object "RealSteps$Real")) :: ([.classLink RX2 48 RX1, .instantiable RX1 2, .initialized RX1, .constantLong RX2 182 (-9223372036854775808), .methodLink RX2 178 yX2_signOf, .static yX2_signOf, .initialized RX2, .code yX2_signOf cX2_signOf 1 (some .int), .constant RX2 62 (32768), .instanceMethod yX1_init, .code yX1_init cX1_init 4 none, .methodLink RX1 3 objectInit, .instanceMethod objectInit, .code objectInit ⟨#[0xb1]⟩ 1 none, .fieldLink RX1 9 "RealSteps$Real" "top" "I", .fieldLink RX1 15 "RealSteps$Real" "fraction" "J"] ++ wsX10)
def wsX2_makeOver_r1 : List Cond := [Cond.fieldLink RX2 21 "RealSteps" "toldBits" "I", Cond.constantLong RX2 210 (-1), Cond.methodLink RX2 163 yX2_isMasked, Cond.instanceMethod yX2_isMasked, Cond.selects RX2 yX2_isMasked yX2_isMasked, Cond.initialized RX2, Cond.code yX2_isMasked cX2_isMasked 2 (some .boolean), Cond.fieldLink RX2 17 "RealSteps" "controlWord" "I", Cond.methodLink RX2 195 yX2_normal, Cond.static yX2_normal, Cond.code yX2_normal cX2_normal 4 (some (.object "RealSteps$Real")), Cond.classLink RX2 48 RX1, Cond.instantiable RX1 2, Cond.initialized RX1, Cond.methodLink RX2 178 yX2_signOf, Cond.static yX2_signOf, Cond.code yX2_signOf cX2_signOf 1 (some .int), Cond.constant RX2 62 (32768), Cond.instanceMethod yX1_init, Cond.code yX1_init cX1_init 4 none, Cond.methodLink RX1 3 objectInit, Cond.instanceMethod objectInit, Cond.code objectInit ⟨#[0xb1]⟩ 1 none, Cond.fieldLink RX1 9 "RealSteps$Real" "top" "I"]
def wsX2_makeOver_r2 : List Cond := [Cond.fieldLink RX1 15 "RealSteps$Real" "fraction" "J", Cond.methodLink RX2 206 yX2_rounding, Cond.instanceMethod yX2_rounding, Cond.selects RX2 yX2_rounding yX2_rounding, Cond.code yX2_rounding cX2_rounding 1 (some .int), Cond.methodLink RX2 212 yX2_infinite, Cond.static yX2_infinite, Cond.code yX2_infinite cX2_infinite 1 (some (.object "RealSteps$Real")), Cond.constantLong RX2 182 (-9223372036854775808)]
def wsX2_makeOver : List Cond := .code yX2_makeOver cX2_makeOver 6 (some (.object "RealSteps$Real")) :: ((wsX2_makeOver_r1 ++ wsX2_makeOver_r2) ++ wsX20 ++ wsX10)
def wsX2_make_r1 : List Cond := [Cond.methodLink RX2 126 yX2_zero, Cond.static yX2_zero, Cond.initialized RX2, Cond.code yX2_zero cX2_zero 1 (some (.object "RealSteps$Real")), Cond.classLink RX2 48 RX1, Cond.instantiable RX1 2, Cond.initialized RX1, Cond.methodLink RX2 178 yX2_signOf, Cond.static yX2_signOf, Cond.code yX2_signOf cX2_signOf 1 (some .int), Cond.constant RX2 62 (32768), Cond.instanceMethod yX1_init, Cond.code yX1_init cX1_init 4 none, Cond.methodLink RX1 3 objectInit, Cond.instanceMethod objectInit, Cond.code objectInit ⟨#[0xb1]⟩ 1 none, Cond.fieldLink RX1 9 "RealSteps$Real" "top" "I", Cond.fieldLink RX1 15 "RealSteps$Real" "fraction" "J", Cond.methodLink RX2 184 yJ13_numberOfLeadingZeros_95d88, Cond.static yJ13_numberOfLeadingZeros_95d88, Cond.initialized RJ13, Cond.code yJ13_numberOfLeadingZeros_95d88 cJ13_numberOfLeadingZeros_95d88 3 (some .int), Cond.methodLink RJ13 308 yJ6_numberOfLeadingZeros_0f7a4, Cond.static yJ6_numberOfLeadingZeros_0f7a4]
def wsX2_make_r2 : List Cond := [Cond.initialized RJ6, Cond.code yJ6_numberOfLeadingZeros_0f7a4 cJ6_numberOfLeadingZeros_0f7a4 2 (some .int), Cond.constant RJ6 264 (65536), Cond.methodLink RX2 188 yX2_makeUnder, Cond.instanceMethod yX2_makeUnder, Cond.selects RX2 yX2_makeUnder yX2_makeUnder, Cond.code yX2_makeUnder cX2_makeUnder 8 (some (.object "RealSteps$Real")), Cond.fieldLink RX2 21 "RealSteps" "toldBits" "I", Cond.methodLink RX2 163 yX2_isMasked, Cond.instanceMethod yX2_isMasked, Cond.selects RX2 yX2_isMasked yX2_isMasked, Cond.code yX2_isMasked cX2_isMasked 2 (some .boolean), Cond.fieldLink RX2 17 "RealSteps" "controlWord" "I", Cond.methodLink RX2 195 yX2_normal, Cond.static yX2_normal, Cond.code yX2_normal cX2_normal 4 (some (.object "RealSteps$Real")), Cond.methodLink RX2 198 yX2_isCut, Cond.static yX2_isCut, Cond.code yX2_isCut cX2_isCut 3 (some .boolean), Cond.methodLink RX2 202 yX2_rounded, Cond.instanceMethod yX2_rounded, Cond.selects RX2 yX2_rounded yX2_rounded, Cond.code yX2_rounded cX2_rounded 7 (some .long), Cond.methodLink RX2 215 yX2_isRoundedAway]
def wsX2_make_r3 : List Cond := [Cond.instanceMethod yX2_isRoundedAway, Cond.selects RX2 yX2_isRoundedAway yX2_isRoundedAway, Cond.code yX2_isRoundedAway cX2_isRoundedAway 7 (some .boolean), Cond.methodLink RX2 206 yX2_rounding, Cond.instanceMethod yX2_rounding, Cond.selects RX2 yX2_rounding yX2_rounding, Cond.code yX2_rounding cX2_rounding 1 (some .int), Cond.methodLink RX2 219 yX2_isNearerAbove, Cond.static yX2_isNearerAbove, Cond.code yX2_isNearerAbove cX2_isNearerAbove 9 (some .boolean), Cond.methodLink RX2 172 yJ13_compareUnsigned_74951, Cond.static yJ13_compareUnsigned_74951, Cond.code yJ13_compareUnsigned_74951 cJ13_compareUnsigned_74951 4 (some .int), Cond.constantLong RJ13 168 (-9223372036854775808), Cond.methodLink RJ13 302 yJ13_compare_74951, Cond.static yJ13_compare_74951, Cond.code yJ13_compare_74951 cJ13_compare_74951 4 (some .int), Cond.methodLink RX2 192 yX2_makeOver, Cond.instanceMethod yX2_makeOver, Cond.selects RX2 yX2_makeOver yX2_makeOver, Cond.code yX2_makeOver cX2_makeOver 6 (some (.object "RealSteps$Real")), Cond.constantLong RX2 210 (-1), Cond.methodLink RX2 212 yX2_infinite, Cond.static yX2_infinite]
def wsX2_make_r4 : List Cond := [Cond.code yX2_infinite cX2_infinite 1 (some (.object "RealSteps$Real")), Cond.constantLong RX2 182 (-9223372036854775808)]
def wsX2_make : List Cond := .code yX2_make cX2_make 9 (some (.object "RealSteps$Real")) :: ((wsX2_make_r1 ++ (wsX2_make_r2 ++ (wsX2_make_r3 ++ wsX2_make_r4))) ++ wsX10 ++ wsX20)
def wsX2_wholeOf_r1 : List Cond := [Cond.fieldLink RX2 106 "RealSteps$Kind" "INFINITE" "LRealSteps$Kind;", Cond.fieldLink RX2 21 "RealSteps" "toldBits" "I", Cond.instanceMethod yX1_isOf, Cond.initialized RX1, Cond.selects RX1 yX1_isOf yX1_isOf, Cond.code yX1_isOf cX1_isOf 2 (some .boolean), Cond.methodLink RX1 45 yX1_kind, Cond.instanceMethod yX1_kind, Cond.selects RX1 yX1_kind yX1_kind, Cond.code yX1_kind cX1_kind 2 (some (.object "RealSteps$Kind")), Cond.fieldLink RX1 15 "RealSteps$Real" "fraction" "J", Cond.fieldLink RX1 24 "RealSteps$Kind" "ZERO" "LRealSteps$Kind;", Cond.fieldLink RX1 30 "RealSteps$Kind" "DENORMAL" "LRealSteps$Kind;", Cond.fieldLink RX1 33 "RealSteps$Kind" "INFINITE" "LRealSteps$Kind;", Cond.fieldLink RX1 36 "RealSteps$Kind" "NO_NUMBER" "LRealSteps$Kind;", Cond.fieldLink RX1 39 "RealSteps$Kind" "NORMAL" "LRealSteps$Kind;", Cond.fieldLink RX1 42 "RealSteps$Kind" "UNNORMAL" "LRealSteps$Kind;", Cond.methodLink RX1 20 yX1_power, Cond.instanceMethod yX1_power, Cond.selects RX1 yX1_power yX1_power, Cond.code yX1_power cX1_power 1 (some .int), Cond.fieldLink RX1 9 "RealSteps$Real" "top" "I", Cond.instanceMethod yX1_isNegative, Cond.selects RX1 yX1_isNegative yX1_isNegative]
def wsX2_wholeOf_r2 : List Cond := [Cond.code yX1_isNegative cX1_isNegative 1 (some .boolean), Cond.constant RX1 19 (32768), Cond.instanceMethod yX1_exponent, Cond.selects RX1 yX1_exponent yX1_exponent, Cond.code yX1_exponent cX1_exponent 1 (some .int), Cond.methodLink RX1 62 yX1_unit, Cond.instanceMethod yX1_unit, Cond.selects RX1 yX1_unit yX1_unit, Cond.code yX1_unit cX1_unit 1 (some .int), Cond.methodLink RX1 56 Lib.Math.max.name, Cond.static Lib.Math.max.name, Cond.initialized "java/lang/Math", Cond.code Lib.Math.max.name Lib.Math.max.code 2 (some .int), Cond.methodLink RX1 65 yJ13_numberOfLeadingZeros_95d88, Cond.static yJ13_numberOfLeadingZeros_95d88, Cond.initialized RJ13, Cond.code yJ13_numberOfLeadingZeros_95d88 cJ13_numberOfLeadingZeros_95d88 3 (some .int), Cond.methodLink RJ13 308 yJ6_numberOfLeadingZeros_0f7a4, Cond.static yJ6_numberOfLeadingZeros_0f7a4, Cond.initialized RJ6, Cond.code yJ6_numberOfLeadingZeros_0f7a4 cJ6_numberOfLeadingZeros_0f7a4 2 (some .int), Cond.constant RJ6 264 (65536), Cond.instanceMethod yX1_isNought, Cond.selects RX1 yX1_isNought yX1_isNought]
def wsX2_wholeOf_r3 : List Cond := [Cond.code yX1_isNought cX1_isNought 1 (some .boolean), Cond.methodLink RX2 229 yX2_make, Cond.instanceMethod yX2_make, Cond.selects RX2 yX2_make yX2_make, Cond.initialized RX2, Cond.code yX2_make cX2_make 9 (some (.object "RealSteps$Real")), Cond.methodLink RX2 126 yX2_zero, Cond.static yX2_zero, Cond.code yX2_zero cX2_zero 1 (some (.object "RealSteps$Real")), Cond.classLink RX2 48 RX1, Cond.instantiable RX1 2, Cond.methodLink RX2 178 yX2_signOf, Cond.static yX2_signOf, Cond.code yX2_signOf cX2_signOf 1 (some .int), Cond.constant RX2 62 (32768), Cond.instanceMethod yX1_init, Cond.code yX1_init cX1_init 4 none, Cond.methodLink RX1 3 objectInit, Cond.instanceMethod objectInit, Cond.code objectInit ⟨#[0xb1]⟩ 1 none, Cond.methodLink RX2 184 yJ13_numberOfLeadingZeros_95d88, Cond.methodLink RX2 188 yX2_makeUnder, Cond.instanceMethod yX2_makeUnder, Cond.selects RX2 yX2_makeUnder yX2_makeUnder]
def wsX2_wholeOf_r4 : List Cond := [Cond.code yX2_makeUnder cX2_makeUnder 8 (some (.object "RealSteps$Real")), Cond.methodLink RX2 163 yX2_isMasked, Cond.instanceMethod yX2_isMasked, Cond.selects RX2 yX2_isMasked yX2_isMasked, Cond.code yX2_isMasked cX2_isMasked 2 (some .boolean), Cond.fieldLink RX2 17 "RealSteps" "controlWord" "I", Cond.methodLink RX2 195 yX2_normal, Cond.static yX2_normal, Cond.code yX2_normal cX2_normal 4 (some (.object "RealSteps$Real")), Cond.methodLink RX2 198 yX2_isCut, Cond.static yX2_isCut, Cond.code yX2_isCut cX2_isCut 3 (some .boolean), Cond.methodLink RX2 202 yX2_rounded, Cond.instanceMethod yX2_rounded, Cond.selects RX2 yX2_rounded yX2_rounded, Cond.code yX2_rounded cX2_rounded 7 (some .long), Cond.methodLink RX2 215 yX2_isRoundedAway, Cond.instanceMethod yX2_isRoundedAway, Cond.selects RX2 yX2_isRoundedAway yX2_isRoundedAway, Cond.code yX2_isRoundedAway cX2_isRoundedAway 7 (some .boolean), Cond.methodLink RX2 206 yX2_rounding, Cond.instanceMethod yX2_rounding, Cond.selects RX2 yX2_rounding yX2_rounding, Cond.code yX2_rounding cX2_rounding 1 (some .int)]
def wsX2_wholeOf_r5 : List Cond := [Cond.methodLink RX2 219 yX2_isNearerAbove, Cond.static yX2_isNearerAbove, Cond.code yX2_isNearerAbove cX2_isNearerAbove 9 (some .boolean), Cond.methodLink RX2 172 yJ13_compareUnsigned_74951, Cond.static yJ13_compareUnsigned_74951, Cond.code yJ13_compareUnsigned_74951 cJ13_compareUnsigned_74951 4 (some .int), Cond.constantLong RJ13 168 (-9223372036854775808), Cond.methodLink RJ13 302 yJ13_compare_74951, Cond.static yJ13_compare_74951, Cond.code yJ13_compare_74951 cJ13_compare_74951 4 (some .int), Cond.methodLink RX2 192 yX2_makeOver, Cond.instanceMethod yX2_makeOver, Cond.selects RX2 yX2_makeOver yX2_makeOver, Cond.code yX2_makeOver cX2_makeOver 6 (some (.object "RealSteps$Real")), Cond.constantLong RX2 210 (-1), Cond.methodLink RX2 212 yX2_infinite, Cond.static yX2_infinite, Cond.code yX2_infinite cX2_infinite 1 (some (.object "RealSteps$Real")), Cond.constantLong RX2 182 (-9223372036854775808), Cond.instanceMethod yX1_normalised, Cond.selects RX1 yX1_normalised yX1_normalised, Cond.code yX1_normalised cX1_normalised 1 (some .long)]
def wsX2_wholeOf : List Cond := .code yX2_wholeOf cX2_wholeOf 6 (some (.object "RealSteps$Real")) :: ((wsX2_wholeOf_r1 ++ (wsX2_wholeOf_r2 ++ (wsX2_wholeOf_r3 ++ (wsX2_wholeOf_r4 ++ wsX2_wholeOf_r5)))) ++ wsX10 ++ wsX20)
def wsX2_greaterNoNumber : List Cond := .code yX2_greaterNoNumber cX2_greaterNoNumber 2 (some (.object "RealSteps$Real")) :: ([.instanceMethod yX1_isNegative, .initialized RX1, .selects RX1 yX1_isNegative yX1_isNegative, .code yX1_isNegative cX1_isNegative 1 (some .boolean), .fieldLink RX1 9 "RealSteps$Real" "top" "I", .constant RX1 19 (32768), .methodLink RX2 172 yJ13_compareUnsigned_74951, .static yJ13_compareUnsigned_74951, .initialized RJ13, .code yJ13_compareUnsigned_74951 cJ13_compareUnsigned_74951 4 (some .int), .constantLong RJ13 168 (-9223372036854775808), .methodLink RJ13 302 yJ13_compare_74951, .static yJ13_compare_74951, .code yJ13_compare_74951 cJ13_compare_74951 4 (some .int)] ++ wsX10)
def wsX2_substitute_r1 : List Cond := [Cond.fieldLink RX2 154 "RealSteps$Kind" "NO_NUMBER" "LRealSteps$Kind;", Cond.classLink RX2 48 RX1, Cond.instantiable RX1 2, Cond.initialized RX1, Cond.constant RX2 34 (65535), Cond.constantLong RX2 170 (-4611686018427387904), Cond.instanceMethod yX1_isOf, Cond.selects RX1 yX1_isOf yX1_isOf, Cond.code yX1_isOf cX1_isOf 2 (some .boolean), Cond.methodLink RX1 45 yX1_kind, Cond.instanceMethod yX1_kind, Cond.selects RX1 yX1_kind yX1_kind, Cond.code yX1_kind cX1_kind 2 (some (.object "RealSteps$Kind")), Cond.fieldLink RX1 15 "RealSteps$Real" "fraction" "J", Cond.fieldLink RX1 24 "RealSteps$Kind" "ZERO" "LRealSteps$Kind;", Cond.fieldLink RX1 30 "RealSteps$Kind" "DENORMAL" "LRealSteps$Kind;", Cond.fieldLink RX1 33 "RealSteps$Kind" "INFINITE" "LRealSteps$Kind;", Cond.fieldLink RX1 36 "RealSteps$Kind" "NO_NUMBER" "LRealSteps$Kind;", Cond.fieldLink RX1 39 "RealSteps$Kind" "NORMAL" "LRealSteps$Kind;", Cond.fieldLink RX1 42 "RealSteps$Kind" "UNNORMAL" "LRealSteps$Kind;", Cond.methodLink RX1 20 yX1_power, Cond.instanceMethod yX1_power, Cond.selects RX1 yX1_power yX1_power, Cond.code yX1_power cX1_power 1 (some .int)]
def wsX2_substitute_r2 : List Cond := [Cond.fieldLink RX1 9 "RealSteps$Real" "top" "I", Cond.methodLink RX2 167 yX2_greaterNoNumber, Cond.static yX2_greaterNoNumber, Cond.initialized RX2, Cond.code yX2_greaterNoNumber cX2_greaterNoNumber 2 (some (.object "RealSteps$Real")), Cond.instanceMethod yX1_isNegative, Cond.selects RX1 yX1_isNegative yX1_isNegative, Cond.code yX1_isNegative cX1_isNegative 1 (some .boolean), Cond.constant RX1 19 (32768), Cond.methodLink RX2 172 yJ13_compareUnsigned_74951, Cond.static yJ13_compareUnsigned_74951, Cond.initialized RJ13, Cond.code yJ13_compareUnsigned_74951 cJ13_compareUnsigned_74951 4 (some .int), Cond.constantLong RJ13 168 (-9223372036854775808), Cond.methodLink RJ13 302 yJ13_compare_74951, Cond.static yJ13_compare_74951, Cond.code yJ13_compare_74951 cJ13_compare_74951 4 (some .int), Cond.instanceMethod yX1_init, Cond.code yX1_init cX1_init 4 none, Cond.methodLink RX1 3 objectInit, Cond.instanceMethod objectInit, Cond.code objectInit ⟨#[0xb1]⟩ 1 none]
def wsX2_substitute : List Cond := .code yX2_substitute cX2_substitute 4 (some (.object "RealSteps$Real")) :: ((wsX2_substitute_r1 ++ wsX2_substitute_r2) ++ wsX10)
def wsX2_whole_r1 : List Cond := [Cond.fieldLink RX2 24 "RealSteps" "answered" "Z", Cond.fieldLink RX2 21 "RealSteps" "toldBits" "I", Cond.methodLink RX2 42 yX2_needRegister, Cond.static yX2_needRegister, Cond.initialized RX2, Cond.code yX2_needRegister cX2_needRegister 1 none, Cond.classLink RX2 142 "java/lang/IndexOutOfBoundsException", Cond.initialized "java/lang/IndexOutOfBoundsException", Cond.methodLink RX2 71 yX2_read, Cond.instanceMethod yX2_read, Cond.selects RX2 yX2_read yX2_read, Cond.code yX2_read cX2_read 2 (some (.object "RealSteps$Real")), Cond.classLink RX2 48 RX1, Cond.instantiable RX1 2, Cond.initialized RX1, Cond.fieldLink RX2 9 "RealSteps" "tops" "[I", Cond.fieldLink RX2 13 "RealSteps" "fractions" "[J", Cond.instanceMethod yX1_init, Cond.code yX1_init cX1_init 4 none, Cond.methodLink RX1 3 objectInit, Cond.instanceMethod objectInit, Cond.code objectInit ⟨#[0xb1]⟩ 1 none, Cond.fieldLink RX1 9 "RealSteps$Real" "top" "I", Cond.fieldLink RX1 15 "RealSteps$Real" "fraction" "J"]
def wsX2_whole_r2 : List Cond := [Cond.methodLink RX2 75 yX2_goesOn, Cond.instanceMethod yX2_goesOn, Cond.selects RX2 yX2_goesOn yX2_goesOn, Cond.code yX2_goesOn cX2_goesOn 5 (some .boolean), Cond.fieldLink RX2 154 "RealSteps$Kind" "NO_NUMBER" "LRealSteps$Kind;", Cond.fieldLink RX2 160 "RealSteps$Kind" "DENORMAL" "LRealSteps$Kind;", Cond.instanceMethod yX1_isOf, Cond.selects RX1 yX1_isOf yX1_isOf, Cond.code yX1_isOf cX1_isOf 2 (some .boolean), Cond.methodLink RX1 45 yX1_kind, Cond.instanceMethod yX1_kind, Cond.selects RX1 yX1_kind yX1_kind, Cond.code yX1_kind cX1_kind 2 (some (.object "RealSteps$Kind")), Cond.fieldLink RX1 24 "RealSteps$Kind" "ZERO" "LRealSteps$Kind;", Cond.fieldLink RX1 30 "RealSteps$Kind" "DENORMAL" "LRealSteps$Kind;", Cond.fieldLink RX1 33 "RealSteps$Kind" "INFINITE" "LRealSteps$Kind;", Cond.fieldLink RX1 36 "RealSteps$Kind" "NO_NUMBER" "LRealSteps$Kind;", Cond.fieldLink RX1 39 "RealSteps$Kind" "NORMAL" "LRealSteps$Kind;", Cond.fieldLink RX1 42 "RealSteps$Kind" "UNNORMAL" "LRealSteps$Kind;", Cond.methodLink RX1 20 yX1_power, Cond.instanceMethod yX1_power, Cond.selects RX1 yX1_power yX1_power, Cond.code yX1_power cX1_power 1 (some .int), Cond.methodLink RX2 157 yX2_tellAtFirst]
def wsX2_whole_r3 : List Cond := [Cond.instanceMethod yX2_tellAtFirst, Cond.selects RX2 yX2_tellAtFirst yX2_tellAtFirst, Cond.code yX2_tellAtFirst cX2_tellAtFirst 2 none, Cond.methodLink RX2 163 yX2_isMasked, Cond.instanceMethod yX2_isMasked, Cond.selects RX2 yX2_isMasked yX2_isMasked, Cond.code yX2_isMasked cX2_isMasked 2 (some .boolean), Cond.fieldLink RX2 17 "RealSteps" "controlWord" "I", Cond.methodLink RX2 79 yX2_wholeOf, Cond.instanceMethod yX2_wholeOf, Cond.selects RX2 yX2_wholeOf yX2_wholeOf, Cond.code yX2_wholeOf cX2_wholeOf 6 (some (.object "RealSteps$Real")), Cond.fieldLink RX2 106 "RealSteps$Kind" "INFINITE" "LRealSteps$Kind;", Cond.instanceMethod yX1_isNegative, Cond.selects RX1 yX1_isNegative yX1_isNegative, Cond.code yX1_isNegative cX1_isNegative 1 (some .boolean), Cond.constant RX1 19 (32768), Cond.instanceMethod yX1_exponent, Cond.selects RX1 yX1_exponent yX1_exponent, Cond.code yX1_exponent cX1_exponent 1 (some .int), Cond.methodLink RX1 62 yX1_unit, Cond.instanceMethod yX1_unit, Cond.selects RX1 yX1_unit yX1_unit, Cond.code yX1_unit cX1_unit 1 (some .int)]
def wsX2_whole_r4 : List Cond := [Cond.methodLink RX1 56 Lib.Math.max.name, Cond.static Lib.Math.max.name, Cond.initialized "java/lang/Math", Cond.code Lib.Math.max.name Lib.Math.max.code 2 (some .int), Cond.methodLink RX1 65 yJ13_numberOfLeadingZeros_95d88, Cond.static yJ13_numberOfLeadingZeros_95d88, Cond.initialized RJ13, Cond.code yJ13_numberOfLeadingZeros_95d88 cJ13_numberOfLeadingZeros_95d88 3 (some .int), Cond.methodLink RJ13 308 yJ6_numberOfLeadingZeros_0f7a4, Cond.static yJ6_numberOfLeadingZeros_0f7a4, Cond.initialized RJ6, Cond.code yJ6_numberOfLeadingZeros_0f7a4 cJ6_numberOfLeadingZeros_0f7a4 2 (some .int), Cond.constant RJ6 264 (65536), Cond.instanceMethod yX1_isNought, Cond.selects RX1 yX1_isNought yX1_isNought, Cond.code yX1_isNought cX1_isNought 1 (some .boolean), Cond.methodLink RX2 229 yX2_make, Cond.instanceMethod yX2_make, Cond.selects RX2 yX2_make yX2_make, Cond.code yX2_make cX2_make 9 (some (.object "RealSteps$Real")), Cond.methodLink RX2 126 yX2_zero, Cond.static yX2_zero, Cond.code yX2_zero cX2_zero 1 (some (.object "RealSteps$Real")), Cond.methodLink RX2 178 yX2_signOf]
def wsX2_whole_r5 : List Cond := [Cond.static yX2_signOf, Cond.code yX2_signOf cX2_signOf 1 (some .int), Cond.constant RX2 62 (32768), Cond.methodLink RX2 184 yJ13_numberOfLeadingZeros_95d88, Cond.methodLink RX2 188 yX2_makeUnder, Cond.instanceMethod yX2_makeUnder, Cond.selects RX2 yX2_makeUnder yX2_makeUnder, Cond.code yX2_makeUnder cX2_makeUnder 8 (some (.object "RealSteps$Real")), Cond.methodLink RX2 195 yX2_normal, Cond.static yX2_normal, Cond.code yX2_normal cX2_normal 4 (some (.object "RealSteps$Real")), Cond.methodLink RX2 198 yX2_isCut, Cond.static yX2_isCut, Cond.code yX2_isCut cX2_isCut 3 (some .boolean), Cond.methodLink RX2 202 yX2_rounded, Cond.instanceMethod yX2_rounded, Cond.selects RX2 yX2_rounded yX2_rounded, Cond.code yX2_rounded cX2_rounded 7 (some .long), Cond.methodLink RX2 215 yX2_isRoundedAway, Cond.instanceMethod yX2_isRoundedAway, Cond.selects RX2 yX2_isRoundedAway yX2_isRoundedAway, Cond.code yX2_isRoundedAway cX2_isRoundedAway 7 (some .boolean), Cond.methodLink RX2 206 yX2_rounding, Cond.instanceMethod yX2_rounding]
def wsX2_whole_r6 : List Cond := [Cond.selects RX2 yX2_rounding yX2_rounding, Cond.code yX2_rounding cX2_rounding 1 (some .int), Cond.methodLink RX2 219 yX2_isNearerAbove, Cond.static yX2_isNearerAbove, Cond.code yX2_isNearerAbove cX2_isNearerAbove 9 (some .boolean), Cond.methodLink RX2 172 yJ13_compareUnsigned_74951, Cond.static yJ13_compareUnsigned_74951, Cond.code yJ13_compareUnsigned_74951 cJ13_compareUnsigned_74951 4 (some .int), Cond.constantLong RJ13 168 (-9223372036854775808), Cond.methodLink RJ13 302 yJ13_compare_74951, Cond.static yJ13_compare_74951, Cond.code yJ13_compare_74951 cJ13_compare_74951 4 (some .int), Cond.methodLink RX2 192 yX2_makeOver, Cond.instanceMethod yX2_makeOver, Cond.selects RX2 yX2_makeOver yX2_makeOver, Cond.code yX2_makeOver cX2_makeOver 6 (some (.object "RealSteps$Real")), Cond.constantLong RX2 210 (-1), Cond.methodLink RX2 212 yX2_infinite, Cond.static yX2_infinite, Cond.code yX2_infinite cX2_infinite 1 (some (.object "RealSteps$Real")), Cond.constantLong RX2 182 (-9223372036854775808), Cond.instanceMethod yX1_normalised, Cond.selects RX1 yX1_normalised yX1_normalised, Cond.code yX1_normalised cX1_normalised 1 (some .long)]
def wsX2_whole_r7 : List Cond := [Cond.methodLink RX2 55 yX2_write, Cond.instanceMethod yX2_write, Cond.selects RX2 yX2_write yX2_write, Cond.code yX2_write cX2_write 3 none, Cond.methodLink RX2 83 yX2_substitute, Cond.static yX2_substitute, Cond.code yX2_substitute cX2_substitute 4 (some (.object "RealSteps$Real")), Cond.constant RX2 34 (65535), Cond.constantLong RX2 170 (-4611686018427387904), Cond.methodLink RX2 167 yX2_greaterNoNumber, Cond.static yX2_greaterNoNumber, Cond.code yX2_greaterNoNumber cX2_greaterNoNumber 2 (some (.object "RealSteps$Real"))]
def wsX2_whole : List Cond := .code yX2_whole cX2_whole 4 (some .int) :: ((wsX2_whole_r1 ++ (wsX2_whole_r2 ++ (wsX2_whole_r3 ++ (wsX2_whole_r4 ++ (wsX2_whole_r5 ++ (wsX2_whole_r6 ++ wsX2_whole_r7)))))) ++ wsX20 ++ wsX10 ++ (vx_atS RX2 146 "java/lang/IndexOutOfBoundsException" ["java/lang/RuntimeException", "java/lang/Exception"]).filter goodWord)
def wsX2_isBeyondScale_r1 : List Cond := [Cond.fieldLink RX2 106 "RealSteps$Kind" "INFINITE" "LRealSteps$Kind;", Cond.instanceMethod yX1_isNought, Cond.initialized RX1, Cond.selects RX1 yX1_isNought yX1_isNought, Cond.code yX1_isNought cX1_isNought 1 (some .boolean), Cond.fieldLink RX1 15 "RealSteps$Real" "fraction" "J", Cond.methodLink RX1 20 yX1_power, Cond.instanceMethod yX1_power, Cond.selects RX1 yX1_power yX1_power, Cond.code yX1_power cX1_power 1 (some .int), Cond.fieldLink RX1 9 "RealSteps$Real" "top" "I", Cond.instanceMethod yX1_isOf, Cond.selects RX1 yX1_isOf yX1_isOf, Cond.code yX1_isOf cX1_isOf 2 (some .boolean), Cond.methodLink RX1 45 yX1_kind, Cond.instanceMethod yX1_kind, Cond.selects RX1 yX1_kind yX1_kind, Cond.code yX1_kind cX1_kind 2 (some (.object "RealSteps$Kind")), Cond.fieldLink RX1 24 "RealSteps$Kind" "ZERO" "LRealSteps$Kind;", Cond.fieldLink RX1 30 "RealSteps$Kind" "DENORMAL" "LRealSteps$Kind;", Cond.fieldLink RX1 33 "RealSteps$Kind" "INFINITE" "LRealSteps$Kind;", Cond.fieldLink RX1 36 "RealSteps$Kind" "NO_NUMBER" "LRealSteps$Kind;", Cond.fieldLink RX1 39 "RealSteps$Kind" "NORMAL" "LRealSteps$Kind;", Cond.fieldLink RX1 42 "RealSteps$Kind" "UNNORMAL" "LRealSteps$Kind;"]
def wsX2_isBeyondScale_r2 : List Cond := [Cond.instanceMethod yX1_exponent, Cond.selects RX1 yX1_exponent yX1_exponent, Cond.code yX1_exponent cX1_exponent 1 (some .int), Cond.methodLink RX1 62 yX1_unit, Cond.instanceMethod yX1_unit, Cond.selects RX1 yX1_unit yX1_unit, Cond.code yX1_unit cX1_unit 1 (some .int), Cond.methodLink RX1 56 Lib.Math.max.name, Cond.static Lib.Math.max.name, Cond.initialized "java/lang/Math", Cond.code Lib.Math.max.name Lib.Math.max.code 2 (some .int), Cond.methodLink RX1 65 yJ13_numberOfLeadingZeros_95d88, Cond.static yJ13_numberOfLeadingZeros_95d88, Cond.initialized RJ13, Cond.code yJ13_numberOfLeadingZeros_95d88 cJ13_numberOfLeadingZeros_95d88 3 (some .int), Cond.methodLink RJ13 308 yJ6_numberOfLeadingZeros_0f7a4, Cond.static yJ6_numberOfLeadingZeros_0f7a4, Cond.initialized RJ6, Cond.code yJ6_numberOfLeadingZeros_0f7a4 cJ6_numberOfLeadingZeros_0f7a4 2 (some .int), Cond.constant RJ6 264 (65536)]
def wsX2_isBeyondScale : List Cond := .code yX2_isBeyondScale cX2_isBeyondScale 1 (some .boolean) :: ((wsX2_isBeyondScale_r1 ++ wsX2_isBeyondScale_r2) ++ wsX10)
def wsX2_cutOff_r1 : List Cond := [Cond.instanceMethod yX1_exponent, Cond.initialized RX1, Cond.selects RX1 yX1_exponent yX1_exponent, Cond.code yX1_exponent cX1_exponent 1 (some .int), Cond.fieldLink RX1 15 "RealSteps$Real" "fraction" "J", Cond.methodLink RX1 62 yX1_unit, Cond.instanceMethod yX1_unit, Cond.selects RX1 yX1_unit yX1_unit, Cond.code yX1_unit cX1_unit 1 (some .int), Cond.methodLink RX1 56 Lib.Math.max.name, Cond.static Lib.Math.max.name, Cond.initialized "java/lang/Math", Cond.code Lib.Math.max.name Lib.Math.max.code 2 (some .int), Cond.methodLink RX1 20 yX1_power, Cond.instanceMethod yX1_power, Cond.selects RX1 yX1_power yX1_power, Cond.code yX1_power cX1_power 1 (some .int), Cond.fieldLink RX1 9 "RealSteps$Real" "top" "I", Cond.methodLink RX1 65 yJ13_numberOfLeadingZeros_95d88, Cond.static yJ13_numberOfLeadingZeros_95d88, Cond.initialized RJ13, Cond.code yJ13_numberOfLeadingZeros_95d88 cJ13_numberOfLeadingZeros_95d88 3 (some .int), Cond.methodLink RJ13 308 yJ6_numberOfLeadingZeros_0f7a4, Cond.static yJ6_numberOfLeadingZeros_0f7a4]
def wsX2_cutOff_r2 : List Cond := [Cond.initialized RJ6, Cond.code yJ6_numberOfLeadingZeros_0f7a4 cJ6_numberOfLeadingZeros_0f7a4 2 (some .int), Cond.constant RJ6 264 (65536), Cond.instanceMethod yX1_isNought, Cond.selects RX1 yX1_isNought yX1_isNought, Cond.code yX1_isNought cX1_isNought 1 (some .boolean), Cond.instanceMethod yX1_normalised, Cond.selects RX1 yX1_normalised yX1_normalised, Cond.code yX1_normalised cX1_normalised 1 (some .long), Cond.instanceMethod yX1_isNegative, Cond.selects RX1 yX1_isNegative yX1_isNegative, Cond.code yX1_isNegative cX1_isNegative 1 (some .boolean), Cond.constant RX1 19 (32768)]
def wsX2_cutOff : List Cond := .code yX2_cutOff cX2_cutOff 3 (some .int) :: ((wsX2_cutOff_r1 ++ wsX2_cutOff_r2) ++ wsX10)
def wsX2_scaled_r1 : List Cond := [Cond.fieldLink RX2 106 "RealSteps$Kind" "INFINITE" "LRealSteps$Kind;", Cond.instanceMethod yX1_isOf, Cond.initialized RX1, Cond.selects RX1 yX1_isOf yX1_isOf, Cond.code yX1_isOf cX1_isOf 2 (some .boolean), Cond.methodLink RX1 45 yX1_kind, Cond.instanceMethod yX1_kind, Cond.selects RX1 yX1_kind yX1_kind, Cond.code yX1_kind cX1_kind 2 (some (.object "RealSteps$Kind")), Cond.fieldLink RX1 15 "RealSteps$Real" "fraction" "J", Cond.fieldLink RX1 24 "RealSteps$Kind" "ZERO" "LRealSteps$Kind;", Cond.fieldLink RX1 30 "RealSteps$Kind" "DENORMAL" "LRealSteps$Kind;", Cond.fieldLink RX1 33 "RealSteps$Kind" "INFINITE" "LRealSteps$Kind;", Cond.fieldLink RX1 36 "RealSteps$Kind" "NO_NUMBER" "LRealSteps$Kind;", Cond.fieldLink RX1 39 "RealSteps$Kind" "NORMAL" "LRealSteps$Kind;", Cond.fieldLink RX1 42 "RealSteps$Kind" "UNNORMAL" "LRealSteps$Kind;", Cond.methodLink RX1 20 yX1_power, Cond.instanceMethod yX1_power, Cond.selects RX1 yX1_power yX1_power, Cond.code yX1_power cX1_power 1 (some .int), Cond.fieldLink RX1 9 "RealSteps$Real" "top" "I", Cond.instanceMethod yX1_isNegative, Cond.selects RX1 yX1_isNegative yX1_isNegative, Cond.code yX1_isNegative cX1_isNegative 1 (some .boolean)]
def wsX2_scaled_r2 : List Cond := [Cond.constant RX1 19 (32768), Cond.instanceMethod yX1_unit, Cond.selects RX1 yX1_unit yX1_unit, Cond.code yX1_unit cX1_unit 1 (some .int), Cond.methodLink RX1 56 Lib.Math.max.name, Cond.static Lib.Math.max.name, Cond.initialized "java/lang/Math", Cond.code Lib.Math.max.name Lib.Math.max.code 2 (some .int), Cond.methodLink RX2 237 yX2_cutOff, Cond.static yX2_cutOff, Cond.initialized RX2, Cond.code yX2_cutOff cX2_cutOff 3 (some .int), Cond.instanceMethod yX1_exponent, Cond.selects RX1 yX1_exponent yX1_exponent, Cond.code yX1_exponent cX1_exponent 1 (some .int), Cond.methodLink RX1 62 yX1_unit, Cond.methodLink RX1 65 yJ13_numberOfLeadingZeros_95d88, Cond.static yJ13_numberOfLeadingZeros_95d88, Cond.initialized RJ13, Cond.code yJ13_numberOfLeadingZeros_95d88 cJ13_numberOfLeadingZeros_95d88 3 (some .int), Cond.methodLink RJ13 308 yJ6_numberOfLeadingZeros_0f7a4, Cond.static yJ6_numberOfLeadingZeros_0f7a4, Cond.initialized RJ6, Cond.code yJ6_numberOfLeadingZeros_0f7a4 cJ6_numberOfLeadingZeros_0f7a4 2 (some .int)]
def wsX2_scaled_r3 : List Cond := [Cond.constant RJ6 264 (65536), Cond.instanceMethod yX1_isNought, Cond.selects RX1 yX1_isNought yX1_isNought, Cond.code yX1_isNought cX1_isNought 1 (some .boolean), Cond.instanceMethod yX1_normalised, Cond.selects RX1 yX1_normalised yX1_normalised, Cond.code yX1_normalised cX1_normalised 1 (some .long), Cond.methodLink RX2 229 yX2_make, Cond.instanceMethod yX2_make, Cond.selects RX2 yX2_make yX2_make, Cond.code yX2_make cX2_make 9 (some (.object "RealSteps$Real")), Cond.methodLink RX2 126 yX2_zero, Cond.static yX2_zero, Cond.code yX2_zero cX2_zero 1 (some (.object "RealSteps$Real")), Cond.classLink RX2 48 RX1, Cond.instantiable RX1 2, Cond.methodLink RX2 178 yX2_signOf, Cond.static yX2_signOf, Cond.code yX2_signOf cX2_signOf 1 (some .int), Cond.constant RX2 62 (32768), Cond.instanceMethod yX1_init, Cond.code yX1_init cX1_init 4 none, Cond.methodLink RX1 3 objectInit, Cond.instanceMethod objectInit]
def wsX2_scaled_r4 : List Cond := [Cond.code objectInit ⟨#[0xb1]⟩ 1 none, Cond.methodLink RX2 184 yJ13_numberOfLeadingZeros_95d88, Cond.methodLink RX2 188 yX2_makeUnder, Cond.instanceMethod yX2_makeUnder, Cond.selects RX2 yX2_makeUnder yX2_makeUnder, Cond.code yX2_makeUnder cX2_makeUnder 8 (some (.object "RealSteps$Real")), Cond.fieldLink RX2 21 "RealSteps" "toldBits" "I", Cond.methodLink RX2 163 yX2_isMasked, Cond.instanceMethod yX2_isMasked, Cond.selects RX2 yX2_isMasked yX2_isMasked, Cond.code yX2_isMasked cX2_isMasked 2 (some .boolean), Cond.fieldLink RX2 17 "RealSteps" "controlWord" "I", Cond.methodLink RX2 195 yX2_normal, Cond.static yX2_normal, Cond.code yX2_normal cX2_normal 4 (some (.object "RealSteps$Real")), Cond.methodLink RX2 198 yX2_isCut, Cond.static yX2_isCut, Cond.code yX2_isCut cX2_isCut 3 (some .boolean), Cond.methodLink RX2 202 yX2_rounded, Cond.instanceMethod yX2_rounded, Cond.selects RX2 yX2_rounded yX2_rounded, Cond.code yX2_rounded cX2_rounded 7 (some .long), Cond.methodLink RX2 215 yX2_isRoundedAway, Cond.instanceMethod yX2_isRoundedAway]
def wsX2_scaled_r5 : List Cond := [Cond.selects RX2 yX2_isRoundedAway yX2_isRoundedAway, Cond.code yX2_isRoundedAway cX2_isRoundedAway 7 (some .boolean), Cond.methodLink RX2 206 yX2_rounding, Cond.instanceMethod yX2_rounding, Cond.selects RX2 yX2_rounding yX2_rounding, Cond.code yX2_rounding cX2_rounding 1 (some .int), Cond.methodLink RX2 219 yX2_isNearerAbove, Cond.static yX2_isNearerAbove, Cond.code yX2_isNearerAbove cX2_isNearerAbove 9 (some .boolean), Cond.methodLink RX2 172 yJ13_compareUnsigned_74951, Cond.static yJ13_compareUnsigned_74951, Cond.code yJ13_compareUnsigned_74951 cJ13_compareUnsigned_74951 4 (some .int), Cond.constantLong RJ13 168 (-9223372036854775808), Cond.methodLink RJ13 302 yJ13_compare_74951, Cond.static yJ13_compare_74951, Cond.code yJ13_compare_74951 cJ13_compare_74951 4 (some .int), Cond.methodLink RX2 192 yX2_makeOver, Cond.instanceMethod yX2_makeOver, Cond.selects RX2 yX2_makeOver yX2_makeOver, Cond.code yX2_makeOver cX2_makeOver 6 (some (.object "RealSteps$Real")), Cond.constantLong RX2 210 (-1), Cond.methodLink RX2 212 yX2_infinite, Cond.static yX2_infinite, Cond.code yX2_infinite cX2_infinite 1 (some (.object "RealSteps$Real"))]
def wsX2_scaled_r6 : List Cond := [Cond.constantLong RX2 182 (-9223372036854775808)]
def wsX2_scaled : List Cond := .code yX2_scaled cX2_scaled 3 (some (.object "RealSteps$Real")) :: ((wsX2_scaled_r1 ++ (wsX2_scaled_r2 ++ (wsX2_scaled_r3 ++ (wsX2_scaled_r4 ++ (wsX2_scaled_r5 ++ wsX2_scaled_r6))))) ++ wsX10 ++ wsX20)
def wsX2_scale_r1 : List Cond := [Cond.fieldLink RX2 24 "RealSteps" "answered" "Z", Cond.fieldLink RX2 21 "RealSteps" "toldBits" "I", Cond.methodLink RX2 42 yX2_needRegister, Cond.static yX2_needRegister, Cond.initialized RX2, Cond.code yX2_needRegister cX2_needRegister 1 none, Cond.classLink RX2 142 "java/lang/IndexOutOfBoundsException", Cond.initialized "java/lang/IndexOutOfBoundsException", Cond.methodLink RX2 71 yX2_read, Cond.instanceMethod yX2_read, Cond.selects RX2 yX2_read yX2_read, Cond.code yX2_read cX2_read 2 (some (.object "RealSteps$Real")), Cond.classLink RX2 48 RX1, Cond.instantiable RX1 2, Cond.initialized RX1, Cond.fieldLink RX2 9 "RealSteps" "tops" "[I", Cond.fieldLink RX2 13 "RealSteps" "fractions" "[J", Cond.instanceMethod yX1_init, Cond.code yX1_init cX1_init 4 none, Cond.methodLink RX1 3 objectInit, Cond.instanceMethod objectInit, Cond.code objectInit ⟨#[0xb1]⟩ 1 none, Cond.fieldLink RX1 9 "RealSteps$Real" "top" "I", Cond.fieldLink RX1 15 "RealSteps$Real" "fraction" "J"]
def wsX2_scale_r2 : List Cond := [Cond.methodLink RX2 87 yX2_isBeyondScale, Cond.static yX2_isBeyondScale, Cond.code yX2_isBeyondScale cX2_isBeyondScale 1 (some .boolean), Cond.fieldLink RX2 106 "RealSteps$Kind" "INFINITE" "LRealSteps$Kind;", Cond.instanceMethod yX1_isNought, Cond.selects RX1 yX1_isNought yX1_isNought, Cond.code yX1_isNought cX1_isNought 1 (some .boolean), Cond.methodLink RX1 20 yX1_power, Cond.instanceMethod yX1_power, Cond.selects RX1 yX1_power yX1_power, Cond.code yX1_power cX1_power 1 (some .int), Cond.instanceMethod yX1_isOf, Cond.selects RX1 yX1_isOf yX1_isOf, Cond.code yX1_isOf cX1_isOf 2 (some .boolean), Cond.methodLink RX1 45 yX1_kind, Cond.instanceMethod yX1_kind, Cond.selects RX1 yX1_kind yX1_kind, Cond.code yX1_kind cX1_kind 2 (some (.object "RealSteps$Kind")), Cond.fieldLink RX1 24 "RealSteps$Kind" "ZERO" "LRealSteps$Kind;", Cond.fieldLink RX1 30 "RealSteps$Kind" "DENORMAL" "LRealSteps$Kind;", Cond.fieldLink RX1 33 "RealSteps$Kind" "INFINITE" "LRealSteps$Kind;", Cond.fieldLink RX1 36 "RealSteps$Kind" "NO_NUMBER" "LRealSteps$Kind;", Cond.fieldLink RX1 39 "RealSteps$Kind" "NORMAL" "LRealSteps$Kind;", Cond.fieldLink RX1 42 "RealSteps$Kind" "UNNORMAL" "LRealSteps$Kind;"]
def wsX2_scale_r3 : List Cond := [Cond.instanceMethod yX1_exponent, Cond.selects RX1 yX1_exponent yX1_exponent, Cond.code yX1_exponent cX1_exponent 1 (some .int), Cond.methodLink RX1 62 yX1_unit, Cond.instanceMethod yX1_unit, Cond.selects RX1 yX1_unit yX1_unit, Cond.code yX1_unit cX1_unit 1 (some .int), Cond.methodLink RX1 56 Lib.Math.max.name, Cond.static Lib.Math.max.name, Cond.initialized "java/lang/Math", Cond.code Lib.Math.max.name Lib.Math.max.code 2 (some .int), Cond.methodLink RX1 65 yJ13_numberOfLeadingZeros_95d88, Cond.static yJ13_numberOfLeadingZeros_95d88, Cond.initialized RJ13, Cond.code yJ13_numberOfLeadingZeros_95d88 cJ13_numberOfLeadingZeros_95d88 3 (some .int), Cond.methodLink RJ13 308 yJ6_numberOfLeadingZeros_0f7a4, Cond.static yJ6_numberOfLeadingZeros_0f7a4, Cond.initialized RJ6, Cond.code yJ6_numberOfLeadingZeros_0f7a4 cJ6_numberOfLeadingZeros_0f7a4 2 (some .int), Cond.constant RJ6 264 (65536), Cond.methodLink RX2 75 yX2_goesOn, Cond.instanceMethod yX2_goesOn, Cond.selects RX2 yX2_goesOn yX2_goesOn, Cond.code yX2_goesOn cX2_goesOn 5 (some .boolean)]
def wsX2_scale_r4 : List Cond := [Cond.fieldLink RX2 154 "RealSteps$Kind" "NO_NUMBER" "LRealSteps$Kind;", Cond.fieldLink RX2 160 "RealSteps$Kind" "DENORMAL" "LRealSteps$Kind;", Cond.methodLink RX2 157 yX2_tellAtFirst, Cond.instanceMethod yX2_tellAtFirst, Cond.selects RX2 yX2_tellAtFirst yX2_tellAtFirst, Cond.code yX2_tellAtFirst cX2_tellAtFirst 2 none, Cond.methodLink RX2 163 yX2_isMasked, Cond.instanceMethod yX2_isMasked, Cond.selects RX2 yX2_isMasked yX2_isMasked, Cond.code yX2_isMasked cX2_isMasked 2 (some .boolean), Cond.fieldLink RX2 17 "RealSteps" "controlWord" "I", Cond.methodLink RX2 91 yX2_scaled, Cond.instanceMethod yX2_scaled, Cond.selects RX2 yX2_scaled yX2_scaled, Cond.code yX2_scaled cX2_scaled 3 (some (.object "RealSteps$Real")), Cond.instanceMethod yX1_isNegative, Cond.selects RX1 yX1_isNegative yX1_isNegative, Cond.code yX1_isNegative cX1_isNegative 1 (some .boolean), Cond.constant RX1 19 (32768), Cond.methodLink RX2 237 yX2_cutOff, Cond.static yX2_cutOff, Cond.code yX2_cutOff cX2_cutOff 3 (some .int), Cond.instanceMethod yX1_normalised, Cond.selects RX1 yX1_normalised yX1_normalised]
def wsX2_scale_r5 : List Cond := [Cond.code yX1_normalised cX1_normalised 1 (some .long), Cond.methodLink RX2 229 yX2_make, Cond.instanceMethod yX2_make, Cond.selects RX2 yX2_make yX2_make, Cond.code yX2_make cX2_make 9 (some (.object "RealSteps$Real")), Cond.methodLink RX2 126 yX2_zero, Cond.static yX2_zero, Cond.code yX2_zero cX2_zero 1 (some (.object "RealSteps$Real")), Cond.methodLink RX2 178 yX2_signOf, Cond.static yX2_signOf, Cond.code yX2_signOf cX2_signOf 1 (some .int), Cond.constant RX2 62 (32768), Cond.methodLink RX2 184 yJ13_numberOfLeadingZeros_95d88, Cond.methodLink RX2 188 yX2_makeUnder, Cond.instanceMethod yX2_makeUnder, Cond.selects RX2 yX2_makeUnder yX2_makeUnder, Cond.code yX2_makeUnder cX2_makeUnder 8 (some (.object "RealSteps$Real")), Cond.methodLink RX2 195 yX2_normal, Cond.static yX2_normal, Cond.code yX2_normal cX2_normal 4 (some (.object "RealSteps$Real")), Cond.methodLink RX2 198 yX2_isCut, Cond.static yX2_isCut, Cond.code yX2_isCut cX2_isCut 3 (some .boolean), Cond.methodLink RX2 202 yX2_rounded]
def wsX2_scale_r6 : List Cond := [Cond.instanceMethod yX2_rounded, Cond.selects RX2 yX2_rounded yX2_rounded, Cond.code yX2_rounded cX2_rounded 7 (some .long), Cond.methodLink RX2 215 yX2_isRoundedAway, Cond.instanceMethod yX2_isRoundedAway, Cond.selects RX2 yX2_isRoundedAway yX2_isRoundedAway, Cond.code yX2_isRoundedAway cX2_isRoundedAway 7 (some .boolean), Cond.methodLink RX2 206 yX2_rounding, Cond.instanceMethod yX2_rounding, Cond.selects RX2 yX2_rounding yX2_rounding, Cond.code yX2_rounding cX2_rounding 1 (some .int), Cond.methodLink RX2 219 yX2_isNearerAbove, Cond.static yX2_isNearerAbove, Cond.code yX2_isNearerAbove cX2_isNearerAbove 9 (some .boolean), Cond.methodLink RX2 172 yJ13_compareUnsigned_74951, Cond.static yJ13_compareUnsigned_74951, Cond.code yJ13_compareUnsigned_74951 cJ13_compareUnsigned_74951 4 (some .int), Cond.constantLong RJ13 168 (-9223372036854775808), Cond.methodLink RJ13 302 yJ13_compare_74951, Cond.static yJ13_compare_74951, Cond.code yJ13_compare_74951 cJ13_compare_74951 4 (some .int), Cond.methodLink RX2 192 yX2_makeOver, Cond.instanceMethod yX2_makeOver, Cond.selects RX2 yX2_makeOver yX2_makeOver]
def wsX2_scale_r7 : List Cond := [Cond.code yX2_makeOver cX2_makeOver 6 (some (.object "RealSteps$Real")), Cond.constantLong RX2 210 (-1), Cond.methodLink RX2 212 yX2_infinite, Cond.static yX2_infinite, Cond.code yX2_infinite cX2_infinite 1 (some (.object "RealSteps$Real")), Cond.constantLong RX2 182 (-9223372036854775808), Cond.methodLink RX2 55 yX2_write, Cond.instanceMethod yX2_write, Cond.selects RX2 yX2_write yX2_write, Cond.code yX2_write cX2_write 3 none, Cond.methodLink RX2 83 yX2_substitute, Cond.static yX2_substitute, Cond.code yX2_substitute cX2_substitute 4 (some (.object "RealSteps$Real")), Cond.constant RX2 34 (65535), Cond.constantLong RX2 170 (-4611686018427387904), Cond.methodLink RX2 167 yX2_greaterNoNumber, Cond.static yX2_greaterNoNumber, Cond.code yX2_greaterNoNumber cX2_greaterNoNumber 2 (some (.object "RealSteps$Real"))]
def wsX2_scale : List Cond := .code yX2_scale cX2_scale 6 (some .int) :: ((wsX2_scale_r1 ++ (wsX2_scale_r2 ++ (wsX2_scale_r3 ++ (wsX2_scale_r4 ++ (wsX2_scale_r5 ++ (wsX2_scale_r6 ++ wsX2_scale_r7)))))) ++ wsX20 ++ wsX10 ++ (vx_atS RX2 146 "java/lang/IndexOutOfBoundsException" ["java/lang/RuntimeException", "java/lang/Exception"]).filter goodWord)
def wsX2_powerOf_r1 : List Cond := [Cond.fieldLink RX2 106 "RealSteps$Kind" "INFINITE" "LRealSteps$Kind;", Cond.methodLink RX2 241 Lib.Math.abs.name, Cond.static Lib.Math.abs.name, Cond.initialized "java/lang/Math", Cond.code Lib.Math.abs.name Lib.Math.abs.code 1 (some .int), Cond.instanceMethod yX1_isOf, Cond.initialized RX1, Cond.selects RX1 yX1_isOf yX1_isOf, Cond.code yX1_isOf cX1_isOf 2 (some .boolean), Cond.methodLink RX1 45 yX1_kind, Cond.instanceMethod yX1_kind, Cond.selects RX1 yX1_kind yX1_kind, Cond.code yX1_kind cX1_kind 2 (some (.object "RealSteps$Kind")), Cond.fieldLink RX1 15 "RealSteps$Real" "fraction" "J", Cond.fieldLink RX1 24 "RealSteps$Kind" "ZERO" "LRealSteps$Kind;", Cond.fieldLink RX1 30 "RealSteps$Kind" "DENORMAL" "LRealSteps$Kind;", Cond.fieldLink RX1 33 "RealSteps$Kind" "INFINITE" "LRealSteps$Kind;", Cond.fieldLink RX1 36 "RealSteps$Kind" "NO_NUMBER" "LRealSteps$Kind;", Cond.fieldLink RX1 39 "RealSteps$Kind" "NORMAL" "LRealSteps$Kind;", Cond.fieldLink RX1 42 "RealSteps$Kind" "UNNORMAL" "LRealSteps$Kind;", Cond.methodLink RX1 20 yX1_power, Cond.instanceMethod yX1_power, Cond.selects RX1 yX1_power yX1_power, Cond.code yX1_power cX1_power 1 (some .int)]
def wsX2_powerOf_r2 : List Cond := [Cond.fieldLink RX1 9 "RealSteps$Real" "top" "I", Cond.methodLink RX2 212 yX2_infinite, Cond.static yX2_infinite, Cond.initialized RX2, Cond.code yX2_infinite cX2_infinite 1 (some (.object "RealSteps$Real")), Cond.classLink RX2 48 RX1, Cond.instantiable RX1 2, Cond.constantLong RX2 182 (-9223372036854775808), Cond.methodLink RX2 178 yX2_signOf, Cond.static yX2_signOf, Cond.code yX2_signOf cX2_signOf 1 (some .int), Cond.constant RX2 62 (32768), Cond.instanceMethod yX1_init, Cond.code yX1_init cX1_init 4 none, Cond.methodLink RX1 3 objectInit, Cond.instanceMethod objectInit, Cond.code objectInit ⟨#[0xb1]⟩ 1 none, Cond.instanceMethod yX1_isNought, Cond.selects RX1 yX1_isNought yX1_isNought, Cond.code yX1_isNought cX1_isNought 1 (some .boolean), Cond.instanceMethod yX1_exponent, Cond.selects RX1 yX1_exponent yX1_exponent, Cond.code yX1_exponent cX1_exponent 1 (some .int), Cond.methodLink RX1 62 yX1_unit]
def wsX2_powerOf_r3 : List Cond := [Cond.instanceMethod yX1_unit, Cond.selects RX1 yX1_unit yX1_unit, Cond.code yX1_unit cX1_unit 1 (some .int), Cond.methodLink RX1 56 Lib.Math.max.name, Cond.static Lib.Math.max.name, Cond.code Lib.Math.max.name Lib.Math.max.code 2 (some .int), Cond.methodLink RX1 65 yJ13_numberOfLeadingZeros_95d88, Cond.static yJ13_numberOfLeadingZeros_95d88, Cond.initialized RJ13, Cond.code yJ13_numberOfLeadingZeros_95d88 cJ13_numberOfLeadingZeros_95d88 3 (some .int), Cond.methodLink RJ13 308 yJ6_numberOfLeadingZeros_0f7a4, Cond.static yJ6_numberOfLeadingZeros_0f7a4, Cond.initialized RJ6, Cond.code yJ6_numberOfLeadingZeros_0f7a4 cJ6_numberOfLeadingZeros_0f7a4 2 (some .int), Cond.constant RJ6 264 (65536), Cond.methodLink RX2 229 yX2_make, Cond.instanceMethod yX2_make, Cond.selects RX2 yX2_make yX2_make, Cond.code yX2_make cX2_make 9 (some (.object "RealSteps$Real")), Cond.methodLink RX2 126 yX2_zero, Cond.static yX2_zero, Cond.code yX2_zero cX2_zero 1 (some (.object "RealSteps$Real")), Cond.methodLink RX2 184 yJ13_numberOfLeadingZeros_95d88, Cond.methodLink RX2 188 yX2_makeUnder]
def wsX2_powerOf_r4 : List Cond := [Cond.instanceMethod yX2_makeUnder, Cond.selects RX2 yX2_makeUnder yX2_makeUnder, Cond.code yX2_makeUnder cX2_makeUnder 8 (some (.object "RealSteps$Real")), Cond.fieldLink RX2 21 "RealSteps" "toldBits" "I", Cond.methodLink RX2 163 yX2_isMasked, Cond.instanceMethod yX2_isMasked, Cond.selects RX2 yX2_isMasked yX2_isMasked, Cond.code yX2_isMasked cX2_isMasked 2 (some .boolean), Cond.fieldLink RX2 17 "RealSteps" "controlWord" "I", Cond.methodLink RX2 195 yX2_normal, Cond.static yX2_normal, Cond.code yX2_normal cX2_normal 4 (some (.object "RealSteps$Real")), Cond.methodLink RX2 198 yX2_isCut, Cond.static yX2_isCut, Cond.code yX2_isCut cX2_isCut 3 (some .boolean), Cond.methodLink RX2 202 yX2_rounded, Cond.instanceMethod yX2_rounded, Cond.selects RX2 yX2_rounded yX2_rounded, Cond.code yX2_rounded cX2_rounded 7 (some .long), Cond.methodLink RX2 215 yX2_isRoundedAway, Cond.instanceMethod yX2_isRoundedAway, Cond.selects RX2 yX2_isRoundedAway yX2_isRoundedAway, Cond.code yX2_isRoundedAway cX2_isRoundedAway 7 (some .boolean), Cond.methodLink RX2 206 yX2_rounding]
def wsX2_powerOf_r5 : List Cond := [Cond.instanceMethod yX2_rounding, Cond.selects RX2 yX2_rounding yX2_rounding, Cond.code yX2_rounding cX2_rounding 1 (some .int), Cond.methodLink RX2 219 yX2_isNearerAbove, Cond.static yX2_isNearerAbove, Cond.code yX2_isNearerAbove cX2_isNearerAbove 9 (some .boolean), Cond.methodLink RX2 172 yJ13_compareUnsigned_74951, Cond.static yJ13_compareUnsigned_74951, Cond.code yJ13_compareUnsigned_74951 cJ13_compareUnsigned_74951 4 (some .int), Cond.constantLong RJ13 168 (-9223372036854775808), Cond.methodLink RJ13 302 yJ13_compare_74951, Cond.static yJ13_compare_74951, Cond.code yJ13_compare_74951 cJ13_compare_74951 4 (some .int), Cond.methodLink RX2 192 yX2_makeOver, Cond.instanceMethod yX2_makeOver, Cond.selects RX2 yX2_makeOver yX2_makeOver, Cond.code yX2_makeOver cX2_makeOver 6 (some (.object "RealSteps$Real")), Cond.constantLong RX2 210 (-1)]
def wsX2_powerOf : List Cond := .code yX2_powerOf cX2_powerOf 3 (some (.object "RealSteps$Real")) :: ((wsX2_powerOf_r1 ++ (wsX2_powerOf_r2 ++ (wsX2_powerOf_r3 ++ (wsX2_powerOf_r4 ++ wsX2_powerOf_r5)))) ++ wsX10 ++ wsX20)
def wsX2_fractionOf_r1 : List Cond := [Cond.fieldLink RX2 106 "RealSteps$Kind" "INFINITE" "LRealSteps$Kind;", Cond.instanceMethod yX1_isOf, Cond.initialized RX1, Cond.selects RX1 yX1_isOf yX1_isOf, Cond.code yX1_isOf cX1_isOf 2 (some .boolean), Cond.methodLink RX1 45 yX1_kind, Cond.instanceMethod yX1_kind, Cond.selects RX1 yX1_kind yX1_kind, Cond.code yX1_kind cX1_kind 2 (some (.object "RealSteps$Kind")), Cond.fieldLink RX1 15 "RealSteps$Real" "fraction" "J", Cond.fieldLink RX1 24 "RealSteps$Kind" "ZERO" "LRealSteps$Kind;", Cond.fieldLink RX1 30 "RealSteps$Kind" "DENORMAL" "LRealSteps$Kind;", Cond.fieldLink RX1 33 "RealSteps$Kind" "INFINITE" "LRealSteps$Kind;", Cond.fieldLink RX1 36 "RealSteps$Kind" "NO_NUMBER" "LRealSteps$Kind;", Cond.fieldLink RX1 39 "RealSteps$Kind" "NORMAL" "LRealSteps$Kind;", Cond.fieldLink RX1 42 "RealSteps$Kind" "UNNORMAL" "LRealSteps$Kind;", Cond.methodLink RX1 20 yX1_power, Cond.instanceMethod yX1_power, Cond.selects RX1 yX1_power yX1_power, Cond.code yX1_power cX1_power 1 (some .int), Cond.fieldLink RX1 9 "RealSteps$Real" "top" "I", Cond.instanceMethod yX1_isNegative, Cond.selects RX1 yX1_isNegative yX1_isNegative, Cond.code yX1_isNegative cX1_isNegative 1 (some .boolean)]
def wsX2_fractionOf_r2 : List Cond := [Cond.constant RX1 19 (32768), Cond.instanceMethod yX1_normalised, Cond.selects RX1 yX1_normalised yX1_normalised, Cond.code yX1_normalised cX1_normalised 1 (some .long), Cond.methodLink RX1 65 yJ13_numberOfLeadingZeros_95d88, Cond.static yJ13_numberOfLeadingZeros_95d88, Cond.initialized RJ13, Cond.code yJ13_numberOfLeadingZeros_95d88 cJ13_numberOfLeadingZeros_95d88 3 (some .int), Cond.methodLink RJ13 308 yJ6_numberOfLeadingZeros_0f7a4, Cond.static yJ6_numberOfLeadingZeros_0f7a4, Cond.initialized RJ6, Cond.code yJ6_numberOfLeadingZeros_0f7a4 cJ6_numberOfLeadingZeros_0f7a4 2 (some .int), Cond.constant RJ6 264 (65536), Cond.methodLink RX2 229 yX2_make, Cond.instanceMethod yX2_make, Cond.selects RX2 yX2_make yX2_make, Cond.initialized RX2, Cond.code yX2_make cX2_make 9 (some (.object "RealSteps$Real")), Cond.methodLink RX2 126 yX2_zero, Cond.static yX2_zero, Cond.code yX2_zero cX2_zero 1 (some (.object "RealSteps$Real")), Cond.classLink RX2 48 RX1, Cond.instantiable RX1 2, Cond.methodLink RX2 178 yX2_signOf]
def wsX2_fractionOf_r3 : List Cond := [Cond.static yX2_signOf, Cond.code yX2_signOf cX2_signOf 1 (some .int), Cond.constant RX2 62 (32768), Cond.instanceMethod yX1_init, Cond.code yX1_init cX1_init 4 none, Cond.methodLink RX1 3 objectInit, Cond.instanceMethod objectInit, Cond.code objectInit ⟨#[0xb1]⟩ 1 none, Cond.methodLink RX2 184 yJ13_numberOfLeadingZeros_95d88, Cond.methodLink RX2 188 yX2_makeUnder, Cond.instanceMethod yX2_makeUnder, Cond.selects RX2 yX2_makeUnder yX2_makeUnder, Cond.code yX2_makeUnder cX2_makeUnder 8 (some (.object "RealSteps$Real")), Cond.fieldLink RX2 21 "RealSteps" "toldBits" "I", Cond.methodLink RX2 163 yX2_isMasked, Cond.instanceMethod yX2_isMasked, Cond.selects RX2 yX2_isMasked yX2_isMasked, Cond.code yX2_isMasked cX2_isMasked 2 (some .boolean), Cond.fieldLink RX2 17 "RealSteps" "controlWord" "I", Cond.methodLink RX2 195 yX2_normal, Cond.static yX2_normal, Cond.code yX2_normal cX2_normal 4 (some (.object "RealSteps$Real")), Cond.methodLink RX2 198 yX2_isCut, Cond.static yX2_isCut]
def wsX2_fractionOf_r4 : List Cond := [Cond.code yX2_isCut cX2_isCut 3 (some .boolean), Cond.methodLink RX2 202 yX2_rounded, Cond.instanceMethod yX2_rounded, Cond.selects RX2 yX2_rounded yX2_rounded, Cond.code yX2_rounded cX2_rounded 7 (some .long), Cond.methodLink RX2 215 yX2_isRoundedAway, Cond.instanceMethod yX2_isRoundedAway, Cond.selects RX2 yX2_isRoundedAway yX2_isRoundedAway, Cond.code yX2_isRoundedAway cX2_isRoundedAway 7 (some .boolean), Cond.methodLink RX2 206 yX2_rounding, Cond.instanceMethod yX2_rounding, Cond.selects RX2 yX2_rounding yX2_rounding, Cond.code yX2_rounding cX2_rounding 1 (some .int), Cond.methodLink RX2 219 yX2_isNearerAbove, Cond.static yX2_isNearerAbove, Cond.code yX2_isNearerAbove cX2_isNearerAbove 9 (some .boolean), Cond.methodLink RX2 172 yJ13_compareUnsigned_74951, Cond.static yJ13_compareUnsigned_74951, Cond.code yJ13_compareUnsigned_74951 cJ13_compareUnsigned_74951 4 (some .int), Cond.constantLong RJ13 168 (-9223372036854775808), Cond.methodLink RJ13 302 yJ13_compare_74951, Cond.static yJ13_compare_74951, Cond.code yJ13_compare_74951 cJ13_compare_74951 4 (some .int), Cond.methodLink RX2 192 yX2_makeOver]
def wsX2_fractionOf_r5 : List Cond := [Cond.instanceMethod yX2_makeOver, Cond.selects RX2 yX2_makeOver yX2_makeOver, Cond.code yX2_makeOver cX2_makeOver 6 (some (.object "RealSteps$Real")), Cond.constantLong RX2 210 (-1), Cond.methodLink RX2 212 yX2_infinite, Cond.static yX2_infinite, Cond.code yX2_infinite cX2_infinite 1 (some (.object "RealSteps$Real")), Cond.constantLong RX2 182 (-9223372036854775808)]
def wsX2_fractionOf : List Cond := .code yX2_fractionOf cX2_fractionOf 2 (some (.object "RealSteps$Real")) :: ((wsX2_fractionOf_r1 ++ (wsX2_fractionOf_r2 ++ (wsX2_fractionOf_r3 ++ (wsX2_fractionOf_r4 ++ wsX2_fractionOf_r5)))) ++ wsX10 ++ wsX20)
def wsX2_extract_r1 : List Cond := [Cond.classLink RX2 35 "java/lang/IllegalArgumentException", Cond.initialized "java/lang/IllegalArgumentException", Cond.fieldLink RX2 24 "RealSteps" "answered" "Z", Cond.fieldLink RX2 21 "RealSteps" "toldBits" "I", Cond.methodLink RX2 42 yX2_needRegister, Cond.static yX2_needRegister, Cond.initialized RX2, Cond.code yX2_needRegister cX2_needRegister 1 none, Cond.classLink RX2 142 "java/lang/IndexOutOfBoundsException", Cond.initialized "java/lang/IndexOutOfBoundsException", Cond.methodLink RX2 71 yX2_read, Cond.instanceMethod yX2_read, Cond.selects RX2 yX2_read yX2_read, Cond.code yX2_read cX2_read 2 (some (.object "RealSteps$Real")), Cond.classLink RX2 48 RX1, Cond.instantiable RX1 2, Cond.initialized RX1, Cond.fieldLink RX2 9 "RealSteps" "tops" "[I", Cond.fieldLink RX2 13 "RealSteps" "fractions" "[J", Cond.instanceMethod yX1_init, Cond.code yX1_init cX1_init 4 none, Cond.methodLink RX1 3 objectInit, Cond.instanceMethod objectInit, Cond.code objectInit ⟨#[0xb1]⟩ 1 none]
def wsX2_extract_r2 : List Cond := [Cond.fieldLink RX1 9 "RealSteps$Real" "top" "I", Cond.fieldLink RX1 15 "RealSteps$Real" "fraction" "J", Cond.instanceMethod yX1_isNought, Cond.selects RX1 yX1_isNought yX1_isNought, Cond.code yX1_isNought cX1_isNought 1 (some .boolean), Cond.methodLink RX1 20 yX1_power, Cond.instanceMethod yX1_power, Cond.selects RX1 yX1_power yX1_power, Cond.code yX1_power cX1_power 1 (some .int), Cond.methodLink RX2 75 yX2_goesOn, Cond.instanceMethod yX2_goesOn, Cond.selects RX2 yX2_goesOn yX2_goesOn, Cond.code yX2_goesOn cX2_goesOn 5 (some .boolean), Cond.fieldLink RX2 154 "RealSteps$Kind" "NO_NUMBER" "LRealSteps$Kind;", Cond.fieldLink RX2 160 "RealSteps$Kind" "DENORMAL" "LRealSteps$Kind;", Cond.instanceMethod yX1_isOf, Cond.selects RX1 yX1_isOf yX1_isOf, Cond.code yX1_isOf cX1_isOf 2 (some .boolean), Cond.methodLink RX1 45 yX1_kind, Cond.instanceMethod yX1_kind, Cond.selects RX1 yX1_kind yX1_kind, Cond.code yX1_kind cX1_kind 2 (some (.object "RealSteps$Kind")), Cond.fieldLink RX1 24 "RealSteps$Kind" "ZERO" "LRealSteps$Kind;", Cond.fieldLink RX1 30 "RealSteps$Kind" "DENORMAL" "LRealSteps$Kind;"]
def wsX2_extract_r3 : List Cond := [Cond.fieldLink RX1 33 "RealSteps$Kind" "INFINITE" "LRealSteps$Kind;", Cond.fieldLink RX1 36 "RealSteps$Kind" "NO_NUMBER" "LRealSteps$Kind;", Cond.fieldLink RX1 39 "RealSteps$Kind" "NORMAL" "LRealSteps$Kind;", Cond.fieldLink RX1 42 "RealSteps$Kind" "UNNORMAL" "LRealSteps$Kind;", Cond.methodLink RX2 157 yX2_tellAtFirst, Cond.instanceMethod yX2_tellAtFirst, Cond.selects RX2 yX2_tellAtFirst yX2_tellAtFirst, Cond.code yX2_tellAtFirst cX2_tellAtFirst 2 none, Cond.methodLink RX2 163 yX2_isMasked, Cond.instanceMethod yX2_isMasked, Cond.selects RX2 yX2_isMasked yX2_isMasked, Cond.code yX2_isMasked cX2_isMasked 2 (some .boolean), Cond.fieldLink RX2 17 "RealSteps" "controlWord" "I", Cond.methodLink RX2 100 yX2_powerOf, Cond.instanceMethod yX2_powerOf, Cond.selects RX2 yX2_powerOf yX2_powerOf, Cond.code yX2_powerOf cX2_powerOf 3 (some (.object "RealSteps$Real")), Cond.fieldLink RX2 106 "RealSteps$Kind" "INFINITE" "LRealSteps$Kind;", Cond.methodLink RX2 241 Lib.Math.abs.name, Cond.static Lib.Math.abs.name, Cond.initialized "java/lang/Math", Cond.code Lib.Math.abs.name Lib.Math.abs.code 1 (some .int), Cond.methodLink RX2 212 yX2_infinite, Cond.static yX2_infinite]
def wsX2_extract_r4 : List Cond := [Cond.code yX2_infinite cX2_infinite 1 (some (.object "RealSteps$Real")), Cond.constantLong RX2 182 (-9223372036854775808), Cond.methodLink RX2 178 yX2_signOf, Cond.static yX2_signOf, Cond.code yX2_signOf cX2_signOf 1 (some .int), Cond.constant RX2 62 (32768), Cond.instanceMethod yX1_exponent, Cond.selects RX1 yX1_exponent yX1_exponent, Cond.code yX1_exponent cX1_exponent 1 (some .int), Cond.methodLink RX1 62 yX1_unit, Cond.instanceMethod yX1_unit, Cond.selects RX1 yX1_unit yX1_unit, Cond.code yX1_unit cX1_unit 1 (some .int), Cond.methodLink RX1 56 Lib.Math.max.name, Cond.static Lib.Math.max.name, Cond.code Lib.Math.max.name Lib.Math.max.code 2 (some .int), Cond.methodLink RX1 65 yJ13_numberOfLeadingZeros_95d88, Cond.static yJ13_numberOfLeadingZeros_95d88, Cond.initialized RJ13, Cond.code yJ13_numberOfLeadingZeros_95d88 cJ13_numberOfLeadingZeros_95d88 3 (some .int), Cond.methodLink RJ13 308 yJ6_numberOfLeadingZeros_0f7a4, Cond.static yJ6_numberOfLeadingZeros_0f7a4, Cond.initialized RJ6, Cond.code yJ6_numberOfLeadingZeros_0f7a4 cJ6_numberOfLeadingZeros_0f7a4 2 (some .int)]
def wsX2_extract_r5 : List Cond := [Cond.constant RJ6 264 (65536), Cond.methodLink RX2 229 yX2_make, Cond.instanceMethod yX2_make, Cond.selects RX2 yX2_make yX2_make, Cond.code yX2_make cX2_make 9 (some (.object "RealSteps$Real")), Cond.methodLink RX2 126 yX2_zero, Cond.static yX2_zero, Cond.code yX2_zero cX2_zero 1 (some (.object "RealSteps$Real")), Cond.methodLink RX2 184 yJ13_numberOfLeadingZeros_95d88, Cond.methodLink RX2 188 yX2_makeUnder, Cond.instanceMethod yX2_makeUnder, Cond.selects RX2 yX2_makeUnder yX2_makeUnder, Cond.code yX2_makeUnder cX2_makeUnder 8 (some (.object "RealSteps$Real")), Cond.methodLink RX2 195 yX2_normal, Cond.static yX2_normal, Cond.code yX2_normal cX2_normal 4 (some (.object "RealSteps$Real")), Cond.methodLink RX2 198 yX2_isCut, Cond.static yX2_isCut, Cond.code yX2_isCut cX2_isCut 3 (some .boolean), Cond.methodLink RX2 202 yX2_rounded, Cond.instanceMethod yX2_rounded, Cond.selects RX2 yX2_rounded yX2_rounded, Cond.code yX2_rounded cX2_rounded 7 (some .long), Cond.methodLink RX2 215 yX2_isRoundedAway]
def wsX2_extract_r6 : List Cond := [Cond.instanceMethod yX2_isRoundedAway, Cond.selects RX2 yX2_isRoundedAway yX2_isRoundedAway, Cond.code yX2_isRoundedAway cX2_isRoundedAway 7 (some .boolean), Cond.methodLink RX2 206 yX2_rounding, Cond.instanceMethod yX2_rounding, Cond.selects RX2 yX2_rounding yX2_rounding, Cond.code yX2_rounding cX2_rounding 1 (some .int), Cond.methodLink RX2 219 yX2_isNearerAbove, Cond.static yX2_isNearerAbove, Cond.code yX2_isNearerAbove cX2_isNearerAbove 9 (some .boolean), Cond.methodLink RX2 172 yJ13_compareUnsigned_74951, Cond.static yJ13_compareUnsigned_74951, Cond.code yJ13_compareUnsigned_74951 cJ13_compareUnsigned_74951 4 (some .int), Cond.constantLong RJ13 168 (-9223372036854775808), Cond.methodLink RJ13 302 yJ13_compare_74951, Cond.static yJ13_compare_74951, Cond.code yJ13_compare_74951 cJ13_compare_74951 4 (some .int), Cond.methodLink RX2 192 yX2_makeOver, Cond.instanceMethod yX2_makeOver, Cond.selects RX2 yX2_makeOver yX2_makeOver, Cond.code yX2_makeOver cX2_makeOver 6 (some (.object "RealSteps$Real")), Cond.constantLong RX2 210 (-1), Cond.methodLink RX2 55 yX2_write, Cond.instanceMethod yX2_write]
def wsX2_extract_r7 : List Cond := [Cond.selects RX2 yX2_write yX2_write, Cond.code yX2_write cX2_write 3 none, Cond.methodLink RX2 103 yX2_fractionOf, Cond.instanceMethod yX2_fractionOf, Cond.selects RX2 yX2_fractionOf yX2_fractionOf, Cond.code yX2_fractionOf cX2_fractionOf 2 (some (.object "RealSteps$Real")), Cond.instanceMethod yX1_isNegative, Cond.selects RX1 yX1_isNegative yX1_isNegative, Cond.code yX1_isNegative cX1_isNegative 1 (some .boolean), Cond.constant RX1 19 (32768), Cond.instanceMethod yX1_normalised, Cond.selects RX1 yX1_normalised yX1_normalised, Cond.code yX1_normalised cX1_normalised 1 (some .long), Cond.methodLink RX2 83 yX2_substitute, Cond.static yX2_substitute, Cond.code yX2_substitute cX2_substitute 4 (some (.object "RealSteps$Real")), Cond.constant RX2 34 (65535), Cond.constantLong RX2 170 (-4611686018427387904), Cond.methodLink RX2 167 yX2_greaterNoNumber, Cond.static yX2_greaterNoNumber, Cond.code yX2_greaterNoNumber cX2_greaterNoNumber 2 (some (.object "RealSteps$Real"))]
def wsX2_extract : List Cond := .code yX2_extract cX2_extract 5 (some .int) :: ((wsX2_extract_r1 ++ (wsX2_extract_r2 ++ (wsX2_extract_r3 ++ (wsX2_extract_r4 ++ (wsX2_extract_r5 ++ (wsX2_extract_r6 ++ wsX2_extract_r7)))))) ++ wsX20 ++ wsX10 ++ (vx_atS RX2 39 "java/lang/IllegalArgumentException" ["java/lang/RuntimeException", "java/lang/Exception"]).filter goodWord ++ (vx_atS RX2 146 "java/lang/IndexOutOfBoundsException" ["java/lang/RuntimeException", "java/lang/Exception"]).filter goodWord)
def wsX2_divide : List Cond := .code yX2_divide cX2_divide 11 (some .long) :: ([.fieldLink RX2 28 "RealSteps" "quotientBits" "I", .methodLink RX2 172 yJ13_compareUnsigned_74951, .static yJ13_compareUnsigned_74951, .initialized RJ13, .code yJ13_compareUnsigned_74951 cJ13_compareUnsigned_74951 4 (some .int), .constantLong RJ13 168 (-9223372036854775808), .methodLink RJ13 302 yJ13_compare_74951, .static yJ13_compare_74951, .code yJ13_compare_74951 cJ13_compare_74951 4 (some .int)] ++ wsX20)
def wsX2_leftOver_r1 : List Cond := [Cond.fieldLink RX2 28 "RealSteps" "quotientBits" "I", Cond.fieldLink RX2 31 "RealSteps" "partial" "Z", Cond.fieldLink RX2 106 "RealSteps$Kind" "INFINITE" "LRealSteps$Kind;", Cond.instanceMethod yX1_isNegative, Cond.initialized RX1, Cond.selects RX1 yX1_isNegative yX1_isNegative, Cond.code yX1_isNegative cX1_isNegative 1 (some .boolean), Cond.fieldLink RX1 9 "RealSteps$Real" "top" "I", Cond.constant RX1 19 (32768), Cond.instanceMethod yX1_exponent, Cond.selects RX1 yX1_exponent yX1_exponent, Cond.code yX1_exponent cX1_exponent 1 (some .int), Cond.fieldLink RX1 15 "RealSteps$Real" "fraction" "J", Cond.methodLink RX1 62 yX1_unit, Cond.instanceMethod yX1_unit, Cond.selects RX1 yX1_unit yX1_unit, Cond.code yX1_unit cX1_unit 1 (some .int), Cond.methodLink RX1 56 Lib.Math.max.name, Cond.static Lib.Math.max.name, Cond.initialized "java/lang/Math", Cond.code Lib.Math.max.name Lib.Math.max.code 2 (some .int), Cond.methodLink RX1 20 yX1_power, Cond.instanceMethod yX1_power, Cond.selects RX1 yX1_power yX1_power]
def wsX2_leftOver_r2 : List Cond := [Cond.code yX1_power cX1_power 1 (some .int), Cond.methodLink RX1 65 yJ13_numberOfLeadingZeros_95d88, Cond.static yJ13_numberOfLeadingZeros_95d88, Cond.initialized RJ13, Cond.code yJ13_numberOfLeadingZeros_95d88 cJ13_numberOfLeadingZeros_95d88 3 (some .int), Cond.methodLink RJ13 308 yJ6_numberOfLeadingZeros_0f7a4, Cond.static yJ6_numberOfLeadingZeros_0f7a4, Cond.initialized RJ6, Cond.code yJ6_numberOfLeadingZeros_0f7a4 cJ6_numberOfLeadingZeros_0f7a4 2 (some .int), Cond.constant RJ6 264 (65536), Cond.instanceMethod yX1_isOf, Cond.selects RX1 yX1_isOf yX1_isOf, Cond.code yX1_isOf cX1_isOf 2 (some .boolean), Cond.methodLink RX1 45 yX1_kind, Cond.instanceMethod yX1_kind, Cond.selects RX1 yX1_kind yX1_kind, Cond.code yX1_kind cX1_kind 2 (some (.object "RealSteps$Kind")), Cond.fieldLink RX1 24 "RealSteps$Kind" "ZERO" "LRealSteps$Kind;", Cond.fieldLink RX1 30 "RealSteps$Kind" "DENORMAL" "LRealSteps$Kind;", Cond.fieldLink RX1 33 "RealSteps$Kind" "INFINITE" "LRealSteps$Kind;", Cond.fieldLink RX1 36 "RealSteps$Kind" "NO_NUMBER" "LRealSteps$Kind;", Cond.fieldLink RX1 39 "RealSteps$Kind" "NORMAL" "LRealSteps$Kind;", Cond.fieldLink RX1 42 "RealSteps$Kind" "UNNORMAL" "LRealSteps$Kind;", Cond.instanceMethod yX1_isNought]
def wsX2_leftOver_r3 : List Cond := [Cond.selects RX1 yX1_isNought yX1_isNought, Cond.code yX1_isNought cX1_isNought 1 (some .boolean), Cond.methodLink RX2 229 yX2_make, Cond.instanceMethod yX2_make, Cond.selects RX2 yX2_make yX2_make, Cond.initialized RX2, Cond.code yX2_make cX2_make 9 (some (.object "RealSteps$Real")), Cond.methodLink RX2 126 yX2_zero, Cond.static yX2_zero, Cond.code yX2_zero cX2_zero 1 (some (.object "RealSteps$Real")), Cond.classLink RX2 48 RX1, Cond.instantiable RX1 2, Cond.methodLink RX2 178 yX2_signOf, Cond.static yX2_signOf, Cond.code yX2_signOf cX2_signOf 1 (some .int), Cond.constant RX2 62 (32768), Cond.instanceMethod yX1_init, Cond.code yX1_init cX1_init 4 none, Cond.methodLink RX1 3 objectInit, Cond.instanceMethod objectInit, Cond.code objectInit ⟨#[0xb1]⟩ 1 none, Cond.methodLink RX2 184 yJ13_numberOfLeadingZeros_95d88, Cond.methodLink RX2 188 yX2_makeUnder, Cond.instanceMethod yX2_makeUnder]
def wsX2_leftOver_r4 : List Cond := [Cond.selects RX2 yX2_makeUnder yX2_makeUnder, Cond.code yX2_makeUnder cX2_makeUnder 8 (some (.object "RealSteps$Real")), Cond.fieldLink RX2 21 "RealSteps" "toldBits" "I", Cond.methodLink RX2 163 yX2_isMasked, Cond.instanceMethod yX2_isMasked, Cond.selects RX2 yX2_isMasked yX2_isMasked, Cond.code yX2_isMasked cX2_isMasked 2 (some .boolean), Cond.fieldLink RX2 17 "RealSteps" "controlWord" "I", Cond.methodLink RX2 195 yX2_normal, Cond.static yX2_normal, Cond.code yX2_normal cX2_normal 4 (some (.object "RealSteps$Real")), Cond.methodLink RX2 198 yX2_isCut, Cond.static yX2_isCut, Cond.code yX2_isCut cX2_isCut 3 (some .boolean), Cond.methodLink RX2 202 yX2_rounded, Cond.instanceMethod yX2_rounded, Cond.selects RX2 yX2_rounded yX2_rounded, Cond.code yX2_rounded cX2_rounded 7 (some .long), Cond.methodLink RX2 215 yX2_isRoundedAway, Cond.instanceMethod yX2_isRoundedAway, Cond.selects RX2 yX2_isRoundedAway yX2_isRoundedAway, Cond.code yX2_isRoundedAway cX2_isRoundedAway 7 (some .boolean), Cond.methodLink RX2 206 yX2_rounding, Cond.instanceMethod yX2_rounding]
def wsX2_leftOver_r5 : List Cond := [Cond.selects RX2 yX2_rounding yX2_rounding, Cond.code yX2_rounding cX2_rounding 1 (some .int), Cond.methodLink RX2 219 yX2_isNearerAbove, Cond.static yX2_isNearerAbove, Cond.code yX2_isNearerAbove cX2_isNearerAbove 9 (some .boolean), Cond.methodLink RX2 172 yJ13_compareUnsigned_74951, Cond.static yJ13_compareUnsigned_74951, Cond.code yJ13_compareUnsigned_74951 cJ13_compareUnsigned_74951 4 (some .int), Cond.constantLong RJ13 168 (-9223372036854775808), Cond.methodLink RJ13 302 yJ13_compare_74951, Cond.static yJ13_compare_74951, Cond.code yJ13_compare_74951 cJ13_compare_74951 4 (some .int), Cond.methodLink RX2 192 yX2_makeOver, Cond.instanceMethod yX2_makeOver, Cond.selects RX2 yX2_makeOver yX2_makeOver, Cond.code yX2_makeOver cX2_makeOver 6 (some (.object "RealSteps$Real")), Cond.constantLong RX2 210 (-1), Cond.methodLink RX2 212 yX2_infinite, Cond.static yX2_infinite, Cond.code yX2_infinite cX2_infinite 1 (some (.object "RealSteps$Real")), Cond.constantLong RX2 182 (-9223372036854775808), Cond.instanceMethod yX1_normalised, Cond.selects RX1 yX1_normalised yX1_normalised, Cond.code yX1_normalised cX1_normalised 1 (some .long)]
def wsX2_leftOver_r6 : List Cond := [Cond.methodLink RX2 247 yX2_divide, Cond.instanceMethod yX2_divide, Cond.selects RX2 yX2_divide yX2_divide, Cond.code yX2_divide cX2_divide 11 (some .long)]
def wsX2_leftOver : List Cond := .code yX2_leftOver cX2_leftOver 8 (some (.object "RealSteps$Real")) :: ((wsX2_leftOver_r1 ++ (wsX2_leftOver_r2 ++ (wsX2_leftOver_r3 ++ (wsX2_leftOver_r4 ++ (wsX2_leftOver_r5 ++ wsX2_leftOver_r6))))) ++ wsX20 ++ wsX10)
def wsX2_remainder_r1 : List Cond := [Cond.fieldLink RX2 106 "RealSteps$Kind" "INFINITE" "LRealSteps$Kind;", Cond.fieldLink RX2 116 "RealSteps$Kind" "UNNORMAL" "LRealSteps$Kind;", Cond.fieldLink RX2 24 "RealSteps" "answered" "Z", Cond.fieldLink RX2 21 "RealSteps" "toldBits" "I", Cond.methodLink RX2 42 yX2_needRegister, Cond.static yX2_needRegister, Cond.initialized RX2, Cond.code yX2_needRegister cX2_needRegister 1 none, Cond.classLink RX2 142 "java/lang/IndexOutOfBoundsException", Cond.initialized "java/lang/IndexOutOfBoundsException", Cond.methodLink RX2 71 yX2_read, Cond.instanceMethod yX2_read, Cond.selects RX2 yX2_read yX2_read, Cond.code yX2_read cX2_read 2 (some (.object "RealSteps$Real")), Cond.classLink RX2 48 RX1, Cond.instantiable RX1 2, Cond.initialized RX1, Cond.fieldLink RX2 9 "RealSteps" "tops" "[I", Cond.fieldLink RX2 13 "RealSteps" "fractions" "[J", Cond.instanceMethod yX1_init, Cond.code yX1_init cX1_init 4 none, Cond.methodLink RX1 3 objectInit, Cond.instanceMethod objectInit, Cond.code objectInit ⟨#[0xb1]⟩ 1 none]
def wsX2_remainder_r2 : List Cond := [Cond.fieldLink RX1 9 "RealSteps$Real" "top" "I", Cond.fieldLink RX1 15 "RealSteps$Real" "fraction" "J", Cond.instanceMethod yX1_isOf, Cond.selects RX1 yX1_isOf yX1_isOf, Cond.code yX1_isOf cX1_isOf 2 (some .boolean), Cond.methodLink RX1 45 yX1_kind, Cond.instanceMethod yX1_kind, Cond.selects RX1 yX1_kind yX1_kind, Cond.code yX1_kind cX1_kind 2 (some (.object "RealSteps$Kind")), Cond.fieldLink RX1 24 "RealSteps$Kind" "ZERO" "LRealSteps$Kind;", Cond.fieldLink RX1 30 "RealSteps$Kind" "DENORMAL" "LRealSteps$Kind;", Cond.fieldLink RX1 33 "RealSteps$Kind" "INFINITE" "LRealSteps$Kind;", Cond.fieldLink RX1 36 "RealSteps$Kind" "NO_NUMBER" "LRealSteps$Kind;", Cond.fieldLink RX1 39 "RealSteps$Kind" "NORMAL" "LRealSteps$Kind;", Cond.fieldLink RX1 42 "RealSteps$Kind" "UNNORMAL" "LRealSteps$Kind;", Cond.methodLink RX1 20 yX1_power, Cond.instanceMethod yX1_power, Cond.selects RX1 yX1_power yX1_power, Cond.code yX1_power cX1_power 1 (some .int), Cond.instanceMethod yX1_isNought, Cond.selects RX1 yX1_isNought yX1_isNought, Cond.code yX1_isNought cX1_isNought 1 (some .boolean), Cond.methodLink RX2 75 yX2_goesOn, Cond.instanceMethod yX2_goesOn]
def wsX2_remainder_r3 : List Cond := [Cond.selects RX2 yX2_goesOn yX2_goesOn, Cond.code yX2_goesOn cX2_goesOn 5 (some .boolean), Cond.fieldLink RX2 154 "RealSteps$Kind" "NO_NUMBER" "LRealSteps$Kind;", Cond.fieldLink RX2 160 "RealSteps$Kind" "DENORMAL" "LRealSteps$Kind;", Cond.methodLink RX2 157 yX2_tellAtFirst, Cond.instanceMethod yX2_tellAtFirst, Cond.selects RX2 yX2_tellAtFirst yX2_tellAtFirst, Cond.code yX2_tellAtFirst cX2_tellAtFirst 2 none, Cond.methodLink RX2 163 yX2_isMasked, Cond.instanceMethod yX2_isMasked, Cond.selects RX2 yX2_isMasked yX2_isMasked, Cond.code yX2_isMasked cX2_isMasked 2 (some .boolean), Cond.fieldLink RX2 17 "RealSteps" "controlWord" "I", Cond.methodLink RX2 119 yX2_leftOver, Cond.instanceMethod yX2_leftOver, Cond.selects RX2 yX2_leftOver yX2_leftOver, Cond.code yX2_leftOver cX2_leftOver 8 (some (.object "RealSteps$Real")), Cond.fieldLink RX2 28 "RealSteps" "quotientBits" "I", Cond.fieldLink RX2 31 "RealSteps" "partial" "Z", Cond.instanceMethod yX1_isNegative, Cond.selects RX1 yX1_isNegative yX1_isNegative, Cond.code yX1_isNegative cX1_isNegative 1 (some .boolean), Cond.constant RX1 19 (32768), Cond.instanceMethod yX1_exponent]
def wsX2_remainder_r4 : List Cond := [Cond.selects RX1 yX1_exponent yX1_exponent, Cond.code yX1_exponent cX1_exponent 1 (some .int), Cond.methodLink RX1 62 yX1_unit, Cond.instanceMethod yX1_unit, Cond.selects RX1 yX1_unit yX1_unit, Cond.code yX1_unit cX1_unit 1 (some .int), Cond.methodLink RX1 56 Lib.Math.max.name, Cond.static Lib.Math.max.name, Cond.initialized "java/lang/Math", Cond.code Lib.Math.max.name Lib.Math.max.code 2 (some .int), Cond.methodLink RX1 65 yJ13_numberOfLeadingZeros_95d88, Cond.static yJ13_numberOfLeadingZeros_95d88, Cond.initialized RJ13, Cond.code yJ13_numberOfLeadingZeros_95d88 cJ13_numberOfLeadingZeros_95d88 3 (some .int), Cond.methodLink RJ13 308 yJ6_numberOfLeadingZeros_0f7a4, Cond.static yJ6_numberOfLeadingZeros_0f7a4, Cond.initialized RJ6, Cond.code yJ6_numberOfLeadingZeros_0f7a4 cJ6_numberOfLeadingZeros_0f7a4 2 (some .int), Cond.constant RJ6 264 (65536), Cond.methodLink RX2 229 yX2_make, Cond.instanceMethod yX2_make, Cond.selects RX2 yX2_make yX2_make, Cond.code yX2_make cX2_make 9 (some (.object "RealSteps$Real")), Cond.methodLink RX2 126 yX2_zero]
def wsX2_remainder_r5 : List Cond := [Cond.static yX2_zero, Cond.code yX2_zero cX2_zero 1 (some (.object "RealSteps$Real")), Cond.methodLink RX2 178 yX2_signOf, Cond.static yX2_signOf, Cond.code yX2_signOf cX2_signOf 1 (some .int), Cond.constant RX2 62 (32768), Cond.methodLink RX2 184 yJ13_numberOfLeadingZeros_95d88, Cond.methodLink RX2 188 yX2_makeUnder, Cond.instanceMethod yX2_makeUnder, Cond.selects RX2 yX2_makeUnder yX2_makeUnder, Cond.code yX2_makeUnder cX2_makeUnder 8 (some (.object "RealSteps$Real")), Cond.methodLink RX2 195 yX2_normal, Cond.static yX2_normal, Cond.code yX2_normal cX2_normal 4 (some (.object "RealSteps$Real")), Cond.methodLink RX2 198 yX2_isCut, Cond.static yX2_isCut, Cond.code yX2_isCut cX2_isCut 3 (some .boolean), Cond.methodLink RX2 202 yX2_rounded, Cond.instanceMethod yX2_rounded, Cond.selects RX2 yX2_rounded yX2_rounded, Cond.code yX2_rounded cX2_rounded 7 (some .long), Cond.methodLink RX2 215 yX2_isRoundedAway, Cond.instanceMethod yX2_isRoundedAway, Cond.selects RX2 yX2_isRoundedAway yX2_isRoundedAway]
def wsX2_remainder_r6 : List Cond := [Cond.code yX2_isRoundedAway cX2_isRoundedAway 7 (some .boolean), Cond.methodLink RX2 206 yX2_rounding, Cond.instanceMethod yX2_rounding, Cond.selects RX2 yX2_rounding yX2_rounding, Cond.code yX2_rounding cX2_rounding 1 (some .int), Cond.methodLink RX2 219 yX2_isNearerAbove, Cond.static yX2_isNearerAbove, Cond.code yX2_isNearerAbove cX2_isNearerAbove 9 (some .boolean), Cond.methodLink RX2 172 yJ13_compareUnsigned_74951, Cond.static yJ13_compareUnsigned_74951, Cond.code yJ13_compareUnsigned_74951 cJ13_compareUnsigned_74951 4 (some .int), Cond.constantLong RJ13 168 (-9223372036854775808), Cond.methodLink RJ13 302 yJ13_compare_74951, Cond.static yJ13_compare_74951, Cond.code yJ13_compare_74951 cJ13_compare_74951 4 (some .int), Cond.methodLink RX2 192 yX2_makeOver, Cond.instanceMethod yX2_makeOver, Cond.selects RX2 yX2_makeOver yX2_makeOver, Cond.code yX2_makeOver cX2_makeOver 6 (some (.object "RealSteps$Real")), Cond.constantLong RX2 210 (-1), Cond.methodLink RX2 212 yX2_infinite, Cond.static yX2_infinite, Cond.code yX2_infinite cX2_infinite 1 (some (.object "RealSteps$Real")), Cond.constantLong RX2 182 (-9223372036854775808)]
def wsX2_remainder_r7 : List Cond := [Cond.instanceMethod yX1_normalised, Cond.selects RX1 yX1_normalised yX1_normalised, Cond.code yX1_normalised cX1_normalised 1 (some .long), Cond.methodLink RX2 247 yX2_divide, Cond.instanceMethod yX2_divide, Cond.selects RX2 yX2_divide yX2_divide, Cond.code yX2_divide cX2_divide 11 (some .long), Cond.methodLink RX2 55 yX2_write, Cond.instanceMethod yX2_write, Cond.selects RX2 yX2_write yX2_write, Cond.code yX2_write cX2_write 3 none, Cond.methodLink RX2 83 yX2_substitute, Cond.static yX2_substitute, Cond.code yX2_substitute cX2_substitute 4 (some (.object "RealSteps$Real")), Cond.constant RX2 34 (65535), Cond.constantLong RX2 170 (-4611686018427387904), Cond.methodLink RX2 167 yX2_greaterNoNumber, Cond.static yX2_greaterNoNumber, Cond.code yX2_greaterNoNumber cX2_greaterNoNumber 2 (some (.object "RealSteps$Real"))]
def wsX2_remainder : List Cond := .code yX2_remainder cX2_remainder 7 (some .int) :: ((wsX2_remainder_r1 ++ (wsX2_remainder_r2 ++ (wsX2_remainder_r3 ++ (wsX2_remainder_r4 ++ (wsX2_remainder_r5 ++ (wsX2_remainder_r6 ++ wsX2_remainder_r7)))))) ++ wsX20 ++ wsX10 ++ (vx_atS RX2 146 "java/lang/IndexOutOfBoundsException" ["java/lang/RuntimeException", "java/lang/Exception"]).filter goodWord)
def wsX2_orderOfSizes_r1 : List Cond := [Cond.fieldLink RX2 106 "RealSteps$Kind" "INFINITE" "LRealSteps$Kind;", Cond.instanceMethod yX1_isOf, Cond.initialized RX1, Cond.selects RX1 yX1_isOf yX1_isOf, Cond.code yX1_isOf cX1_isOf 2 (some .boolean), Cond.methodLink RX1 45 yX1_kind, Cond.instanceMethod yX1_kind, Cond.selects RX1 yX1_kind yX1_kind, Cond.code yX1_kind cX1_kind 2 (some (.object "RealSteps$Kind")), Cond.fieldLink RX1 15 "RealSteps$Real" "fraction" "J", Cond.fieldLink RX1 24 "RealSteps$Kind" "ZERO" "LRealSteps$Kind;", Cond.fieldLink RX1 30 "RealSteps$Kind" "DENORMAL" "LRealSteps$Kind;", Cond.fieldLink RX1 33 "RealSteps$Kind" "INFINITE" "LRealSteps$Kind;", Cond.fieldLink RX1 36 "RealSteps$Kind" "NO_NUMBER" "LRealSteps$Kind;", Cond.fieldLink RX1 39 "RealSteps$Kind" "NORMAL" "LRealSteps$Kind;", Cond.fieldLink RX1 42 "RealSteps$Kind" "UNNORMAL" "LRealSteps$Kind;", Cond.methodLink RX1 20 yX1_power, Cond.instanceMethod yX1_power, Cond.selects RX1 yX1_power yX1_power, Cond.code yX1_power cX1_power 1 (some .int), Cond.fieldLink RX1 9 "RealSteps$Real" "top" "I", Cond.instanceMethod yX1_exponent, Cond.selects RX1 yX1_exponent yX1_exponent, Cond.code yX1_exponent cX1_exponent 1 (some .int)]
def wsX2_orderOfSizes_r2 : List Cond := [Cond.methodLink RX1 62 yX1_unit, Cond.instanceMethod yX1_unit, Cond.selects RX1 yX1_unit yX1_unit, Cond.code yX1_unit cX1_unit 1 (some .int), Cond.methodLink RX1 56 Lib.Math.max.name, Cond.static Lib.Math.max.name, Cond.initialized "java/lang/Math", Cond.code Lib.Math.max.name Lib.Math.max.code 2 (some .int), Cond.methodLink RX1 65 yJ13_numberOfLeadingZeros_95d88, Cond.static yJ13_numberOfLeadingZeros_95d88, Cond.initialized RJ13, Cond.code yJ13_numberOfLeadingZeros_95d88 cJ13_numberOfLeadingZeros_95d88 3 (some .int), Cond.methodLink RJ13 308 yJ6_numberOfLeadingZeros_0f7a4, Cond.static yJ6_numberOfLeadingZeros_0f7a4, Cond.initialized RJ6, Cond.code yJ6_numberOfLeadingZeros_0f7a4 cJ6_numberOfLeadingZeros_0f7a4 2 (some .int), Cond.constant RJ6 264 (65536), Cond.instanceMethod yX1_normalised, Cond.selects RX1 yX1_normalised yX1_normalised, Cond.code yX1_normalised cX1_normalised 1 (some .long), Cond.methodLink RX2 172 yJ13_compareUnsigned_74951, Cond.static yJ13_compareUnsigned_74951, Cond.code yJ13_compareUnsigned_74951 cJ13_compareUnsigned_74951 4 (some .int), Cond.constantLong RJ13 168 (-9223372036854775808)]
def wsX2_orderOfSizes_r3 : List Cond := [Cond.methodLink RJ13 302 yJ13_compare_74951, Cond.static yJ13_compare_74951, Cond.code yJ13_compare_74951 cJ13_compare_74951 4 (some .int)]
def wsX2_orderOfSizes : List Cond := .code yX2_orderOfSizes cX2_orderOfSizes 3 (some .int) :: ((wsX2_orderOfSizes_r1 ++ (wsX2_orderOfSizes_r2 ++ wsX2_orderOfSizes_r3)) ++ wsX10)
def wsX2_order_r1 : List Cond := [Cond.fieldLink RX2 17 "RealSteps" "controlWord" "I", Cond.fieldLink RX2 106 "RealSteps$Kind" "INFINITE" "LRealSteps$Kind;", Cond.fieldLink RX2 24 "RealSteps" "answered" "Z", Cond.instanceMethod yX1_isOf, Cond.initialized RX1, Cond.selects RX1 yX1_isOf yX1_isOf, Cond.code yX1_isOf cX1_isOf 2 (some .boolean), Cond.methodLink RX1 45 yX1_kind, Cond.instanceMethod yX1_kind, Cond.selects RX1 yX1_kind yX1_kind, Cond.code yX1_kind cX1_kind 2 (some (.object "RealSteps$Kind")), Cond.fieldLink RX1 15 "RealSteps$Real" "fraction" "J", Cond.fieldLink RX1 24 "RealSteps$Kind" "ZERO" "LRealSteps$Kind;", Cond.fieldLink RX1 30 "RealSteps$Kind" "DENORMAL" "LRealSteps$Kind;", Cond.fieldLink RX1 33 "RealSteps$Kind" "INFINITE" "LRealSteps$Kind;", Cond.fieldLink RX1 36 "RealSteps$Kind" "NO_NUMBER" "LRealSteps$Kind;", Cond.fieldLink RX1 39 "RealSteps$Kind" "NORMAL" "LRealSteps$Kind;", Cond.fieldLink RX1 42 "RealSteps$Kind" "UNNORMAL" "LRealSteps$Kind;", Cond.methodLink RX1 20 yX1_power, Cond.instanceMethod yX1_power, Cond.selects RX1 yX1_power yX1_power, Cond.code yX1_power cX1_power 1 (some .int), Cond.fieldLink RX1 9 "RealSteps$Real" "top" "I", Cond.methodLink RX2 75 yX2_goesOn]
def wsX2_order_r2 : List Cond := [Cond.instanceMethod yX2_goesOn, Cond.selects RX2 yX2_goesOn yX2_goesOn, Cond.initialized RX2, Cond.code yX2_goesOn cX2_goesOn 5 (some .boolean), Cond.fieldLink RX2 21 "RealSteps" "toldBits" "I", Cond.fieldLink RX2 154 "RealSteps$Kind" "NO_NUMBER" "LRealSteps$Kind;", Cond.fieldLink RX2 160 "RealSteps$Kind" "DENORMAL" "LRealSteps$Kind;", Cond.methodLink RX2 157 yX2_tellAtFirst, Cond.instanceMethod yX2_tellAtFirst, Cond.selects RX2 yX2_tellAtFirst yX2_tellAtFirst, Cond.code yX2_tellAtFirst cX2_tellAtFirst 2 none, Cond.methodLink RX2 163 yX2_isMasked, Cond.instanceMethod yX2_isMasked, Cond.selects RX2 yX2_isMasked yX2_isMasked, Cond.code yX2_isMasked cX2_isMasked 2 (some .boolean), Cond.instanceMethod yX1_side, Cond.selects RX1 yX1_side yX1_side, Cond.code yX1_side cX1_side 1 (some .int), Cond.methodLink RX1 49 yX1_isNought, Cond.instanceMethod yX1_isNought, Cond.selects RX1 yX1_isNought yX1_isNought, Cond.code yX1_isNought cX1_isNought 1 (some .boolean), Cond.methodLink RX1 53 yX1_isNegative, Cond.instanceMethod yX1_isNegative]
def wsX2_order_r3 : List Cond := [Cond.selects RX1 yX1_isNegative yX1_isNegative, Cond.code yX1_isNegative cX1_isNegative 1 (some .boolean), Cond.constant RX1 19 (32768), Cond.methodLink RX2 254 yX2_orderOfSizes, Cond.static yX2_orderOfSizes, Cond.code yX2_orderOfSizes cX2_orderOfSizes 3 (some .int), Cond.instanceMethod yX1_exponent, Cond.selects RX1 yX1_exponent yX1_exponent, Cond.code yX1_exponent cX1_exponent 1 (some .int), Cond.methodLink RX1 62 yX1_unit, Cond.instanceMethod yX1_unit, Cond.selects RX1 yX1_unit yX1_unit, Cond.code yX1_unit cX1_unit 1 (some .int), Cond.methodLink RX1 56 Lib.Math.max.name, Cond.static Lib.Math.max.name, Cond.initialized "java/lang/Math", Cond.code Lib.Math.max.name Lib.Math.max.code 2 (some .int), Cond.methodLink RX1 65 yJ13_numberOfLeadingZeros_95d88, Cond.static yJ13_numberOfLeadingZeros_95d88, Cond.initialized RJ13, Cond.code yJ13_numberOfLeadingZeros_95d88 cJ13_numberOfLeadingZeros_95d88 3 (some .int), Cond.methodLink RJ13 308 yJ6_numberOfLeadingZeros_0f7a4, Cond.static yJ6_numberOfLeadingZeros_0f7a4, Cond.initialized RJ6]
def wsX2_order_r4 : List Cond := [Cond.code yJ6_numberOfLeadingZeros_0f7a4 cJ6_numberOfLeadingZeros_0f7a4 2 (some .int), Cond.constant RJ6 264 (65536), Cond.instanceMethod yX1_normalised, Cond.selects RX1 yX1_normalised yX1_normalised, Cond.code yX1_normalised cX1_normalised 1 (some .long), Cond.methodLink RX2 172 yJ13_compareUnsigned_74951, Cond.static yJ13_compareUnsigned_74951, Cond.code yJ13_compareUnsigned_74951 cJ13_compareUnsigned_74951 4 (some .int), Cond.constantLong RJ13 168 (-9223372036854775808), Cond.methodLink RJ13 302 yJ13_compare_74951, Cond.static yJ13_compare_74951, Cond.code yJ13_compare_74951 cJ13_compare_74951 4 (some .int)]
def wsX2_order : List Cond := .code yX2_order cX2_order 7 (some .int) :: ((wsX2_order_r1 ++ (wsX2_order_r2 ++ (wsX2_order_r3 ++ wsX2_order_r4))) ++ wsX20 ++ wsX10)
def wsX2_compare_r1 : List Cond := [Cond.methodLink RX2 42 yX2_needRegister, Cond.static yX2_needRegister, Cond.initialized RX2, Cond.code yX2_needRegister cX2_needRegister 1 none, Cond.classLink RX2 142 "java/lang/IndexOutOfBoundsException", Cond.initialized "java/lang/IndexOutOfBoundsException", Cond.methodLink RX2 71 yX2_read, Cond.instanceMethod yX2_read, Cond.selects RX2 yX2_read yX2_read, Cond.code yX2_read cX2_read 2 (some (.object "RealSteps$Real")), Cond.classLink RX2 48 RX1, Cond.instantiable RX1 2, Cond.initialized RX1, Cond.fieldLink RX2 9 "RealSteps" "tops" "[I", Cond.fieldLink RX2 13 "RealSteps" "fractions" "[J", Cond.instanceMethod yX1_init, Cond.code yX1_init cX1_init 4 none, Cond.methodLink RX1 3 objectInit, Cond.instanceMethod objectInit, Cond.code objectInit ⟨#[0xb1]⟩ 1 none, Cond.fieldLink RX1 9 "RealSteps$Real" "top" "I", Cond.fieldLink RX1 15 "RealSteps$Real" "fraction" "J", Cond.methodLink RX2 122 yX2_order, Cond.instanceMethod yX2_order]
def wsX2_compare_r2 : List Cond := [Cond.selects RX2 yX2_order yX2_order, Cond.code yX2_order cX2_order 7 (some .int), Cond.fieldLink RX2 17 "RealSteps" "controlWord" "I", Cond.fieldLink RX2 106 "RealSteps$Kind" "INFINITE" "LRealSteps$Kind;", Cond.fieldLink RX2 24 "RealSteps" "answered" "Z", Cond.instanceMethod yX1_isOf, Cond.selects RX1 yX1_isOf yX1_isOf, Cond.code yX1_isOf cX1_isOf 2 (some .boolean), Cond.methodLink RX1 45 yX1_kind, Cond.instanceMethod yX1_kind, Cond.selects RX1 yX1_kind yX1_kind, Cond.code yX1_kind cX1_kind 2 (some (.object "RealSteps$Kind")), Cond.fieldLink RX1 24 "RealSteps$Kind" "ZERO" "LRealSteps$Kind;", Cond.fieldLink RX1 30 "RealSteps$Kind" "DENORMAL" "LRealSteps$Kind;", Cond.fieldLink RX1 33 "RealSteps$Kind" "INFINITE" "LRealSteps$Kind;", Cond.fieldLink RX1 36 "RealSteps$Kind" "NO_NUMBER" "LRealSteps$Kind;", Cond.fieldLink RX1 39 "RealSteps$Kind" "NORMAL" "LRealSteps$Kind;", Cond.fieldLink RX1 42 "RealSteps$Kind" "UNNORMAL" "LRealSteps$Kind;", Cond.methodLink RX1 20 yX1_power, Cond.instanceMethod yX1_power, Cond.selects RX1 yX1_power yX1_power, Cond.code yX1_power cX1_power 1 (some .int), Cond.methodLink RX2 75 yX2_goesOn, Cond.instanceMethod yX2_goesOn]
def wsX2_compare_r3 : List Cond := [Cond.selects RX2 yX2_goesOn yX2_goesOn, Cond.code yX2_goesOn cX2_goesOn 5 (some .boolean), Cond.fieldLink RX2 21 "RealSteps" "toldBits" "I", Cond.fieldLink RX2 154 "RealSteps$Kind" "NO_NUMBER" "LRealSteps$Kind;", Cond.fieldLink RX2 160 "RealSteps$Kind" "DENORMAL" "LRealSteps$Kind;", Cond.methodLink RX2 157 yX2_tellAtFirst, Cond.instanceMethod yX2_tellAtFirst, Cond.selects RX2 yX2_tellAtFirst yX2_tellAtFirst, Cond.code yX2_tellAtFirst cX2_tellAtFirst 2 none, Cond.methodLink RX2 163 yX2_isMasked, Cond.instanceMethod yX2_isMasked, Cond.selects RX2 yX2_isMasked yX2_isMasked, Cond.code yX2_isMasked cX2_isMasked 2 (some .boolean), Cond.instanceMethod yX1_side, Cond.selects RX1 yX1_side yX1_side, Cond.code yX1_side cX1_side 1 (some .int), Cond.methodLink RX1 49 yX1_isNought, Cond.instanceMethod yX1_isNought, Cond.selects RX1 yX1_isNought yX1_isNought, Cond.code yX1_isNought cX1_isNought 1 (some .boolean), Cond.methodLink RX1 53 yX1_isNegative, Cond.instanceMethod yX1_isNegative, Cond.selects RX1 yX1_isNegative yX1_isNegative, Cond.code yX1_isNegative cX1_isNegative 1 (some .boolean)]
def wsX2_compare_r4 : List Cond := [Cond.constant RX1 19 (32768), Cond.methodLink RX2 254 yX2_orderOfSizes, Cond.static yX2_orderOfSizes, Cond.code yX2_orderOfSizes cX2_orderOfSizes 3 (some .int), Cond.instanceMethod yX1_exponent, Cond.selects RX1 yX1_exponent yX1_exponent, Cond.code yX1_exponent cX1_exponent 1 (some .int), Cond.methodLink RX1 62 yX1_unit, Cond.instanceMethod yX1_unit, Cond.selects RX1 yX1_unit yX1_unit, Cond.code yX1_unit cX1_unit 1 (some .int), Cond.methodLink RX1 56 Lib.Math.max.name, Cond.static Lib.Math.max.name, Cond.initialized "java/lang/Math", Cond.code Lib.Math.max.name Lib.Math.max.code 2 (some .int), Cond.methodLink RX1 65 yJ13_numberOfLeadingZeros_95d88, Cond.static yJ13_numberOfLeadingZeros_95d88, Cond.initialized RJ13, Cond.code yJ13_numberOfLeadingZeros_95d88 cJ13_numberOfLeadingZeros_95d88 3 (some .int), Cond.methodLink RJ13 308 yJ6_numberOfLeadingZeros_0f7a4, Cond.static yJ6_numberOfLeadingZeros_0f7a4, Cond.initialized RJ6, Cond.code yJ6_numberOfLeadingZeros_0f7a4 cJ6_numberOfLeadingZeros_0f7a4 2 (some .int), Cond.constant RJ6 264 (65536)]
def wsX2_compare_r5 : List Cond := [Cond.instanceMethod yX1_normalised, Cond.selects RX1 yX1_normalised yX1_normalised, Cond.code yX1_normalised cX1_normalised 1 (some .long), Cond.methodLink RX2 172 yJ13_compareUnsigned_74951, Cond.static yJ13_compareUnsigned_74951, Cond.code yJ13_compareUnsigned_74951 cJ13_compareUnsigned_74951 4 (some .int), Cond.constantLong RJ13 168 (-9223372036854775808), Cond.methodLink RJ13 302 yJ13_compare_74951, Cond.static yJ13_compare_74951, Cond.code yJ13_compare_74951 cJ13_compare_74951 4 (some .int)]
def wsX2_compare : List Cond := .code yX2_compare cX2_compare 3 (some .int) :: ((wsX2_compare_r1 ++ (wsX2_compare_r2 ++ (wsX2_compare_r3 ++ (wsX2_compare_r4 ++ wsX2_compare_r5)))) ++ wsX10 ++ wsX20 ++ (vx_atS RX2 146 "java/lang/IndexOutOfBoundsException" ["java/lang/RuntimeException", "java/lang/Exception"]).filter goodWord)
def wsX2_test_r1 : List Cond := [Cond.methodLink RX2 42 yX2_needRegister, Cond.static yX2_needRegister, Cond.initialized RX2, Cond.code yX2_needRegister cX2_needRegister 1 none, Cond.classLink RX2 142 "java/lang/IndexOutOfBoundsException", Cond.initialized "java/lang/IndexOutOfBoundsException", Cond.methodLink RX2 71 yX2_read, Cond.instanceMethod yX2_read, Cond.selects RX2 yX2_read yX2_read, Cond.code yX2_read cX2_read 2 (some (.object "RealSteps$Real")), Cond.classLink RX2 48 RX1, Cond.instantiable RX1 2, Cond.initialized RX1, Cond.fieldLink RX2 9 "RealSteps" "tops" "[I", Cond.fieldLink RX2 13 "RealSteps" "fractions" "[J", Cond.instanceMethod yX1_init, Cond.code yX1_init cX1_init 4 none, Cond.methodLink RX1 3 objectInit, Cond.instanceMethod objectInit, Cond.code objectInit ⟨#[0xb1]⟩ 1 none, Cond.fieldLink RX1 9 "RealSteps$Real" "top" "I", Cond.fieldLink RX1 15 "RealSteps$Real" "fraction" "J", Cond.methodLink RX2 126 yX2_zero, Cond.static yX2_zero]
def wsX2_test_r2 : List Cond := [Cond.code yX2_zero cX2_zero 1 (some (.object "RealSteps$Real")), Cond.methodLink RX2 178 yX2_signOf, Cond.static yX2_signOf, Cond.code yX2_signOf cX2_signOf 1 (some .int), Cond.constant RX2 62 (32768), Cond.methodLink RX2 122 yX2_order, Cond.instanceMethod yX2_order, Cond.selects RX2 yX2_order yX2_order, Cond.code yX2_order cX2_order 7 (some .int), Cond.fieldLink RX2 17 "RealSteps" "controlWord" "I", Cond.fieldLink RX2 106 "RealSteps$Kind" "INFINITE" "LRealSteps$Kind;", Cond.fieldLink RX2 24 "RealSteps" "answered" "Z", Cond.instanceMethod yX1_isOf, Cond.selects RX1 yX1_isOf yX1_isOf, Cond.code yX1_isOf cX1_isOf 2 (some .boolean), Cond.methodLink RX1 45 yX1_kind, Cond.instanceMethod yX1_kind, Cond.selects RX1 yX1_kind yX1_kind, Cond.code yX1_kind cX1_kind 2 (some (.object "RealSteps$Kind")), Cond.fieldLink RX1 24 "RealSteps$Kind" "ZERO" "LRealSteps$Kind;", Cond.fieldLink RX1 30 "RealSteps$Kind" "DENORMAL" "LRealSteps$Kind;", Cond.fieldLink RX1 33 "RealSteps$Kind" "INFINITE" "LRealSteps$Kind;", Cond.fieldLink RX1 36 "RealSteps$Kind" "NO_NUMBER" "LRealSteps$Kind;", Cond.fieldLink RX1 39 "RealSteps$Kind" "NORMAL" "LRealSteps$Kind;"]
def wsX2_test_r3 : List Cond := [Cond.fieldLink RX1 42 "RealSteps$Kind" "UNNORMAL" "LRealSteps$Kind;", Cond.methodLink RX1 20 yX1_power, Cond.instanceMethod yX1_power, Cond.selects RX1 yX1_power yX1_power, Cond.code yX1_power cX1_power 1 (some .int), Cond.methodLink RX2 75 yX2_goesOn, Cond.instanceMethod yX2_goesOn, Cond.selects RX2 yX2_goesOn yX2_goesOn, Cond.code yX2_goesOn cX2_goesOn 5 (some .boolean), Cond.fieldLink RX2 21 "RealSteps" "toldBits" "I", Cond.fieldLink RX2 154 "RealSteps$Kind" "NO_NUMBER" "LRealSteps$Kind;", Cond.fieldLink RX2 160 "RealSteps$Kind" "DENORMAL" "LRealSteps$Kind;", Cond.methodLink RX2 157 yX2_tellAtFirst, Cond.instanceMethod yX2_tellAtFirst, Cond.selects RX2 yX2_tellAtFirst yX2_tellAtFirst, Cond.code yX2_tellAtFirst cX2_tellAtFirst 2 none, Cond.methodLink RX2 163 yX2_isMasked, Cond.instanceMethod yX2_isMasked, Cond.selects RX2 yX2_isMasked yX2_isMasked, Cond.code yX2_isMasked cX2_isMasked 2 (some .boolean), Cond.instanceMethod yX1_side, Cond.selects RX1 yX1_side yX1_side, Cond.code yX1_side cX1_side 1 (some .int), Cond.methodLink RX1 49 yX1_isNought]
def wsX2_test_r4 : List Cond := [Cond.instanceMethod yX1_isNought, Cond.selects RX1 yX1_isNought yX1_isNought, Cond.code yX1_isNought cX1_isNought 1 (some .boolean), Cond.methodLink RX1 53 yX1_isNegative, Cond.instanceMethod yX1_isNegative, Cond.selects RX1 yX1_isNegative yX1_isNegative, Cond.code yX1_isNegative cX1_isNegative 1 (some .boolean), Cond.constant RX1 19 (32768), Cond.methodLink RX2 254 yX2_orderOfSizes, Cond.static yX2_orderOfSizes, Cond.code yX2_orderOfSizes cX2_orderOfSizes 3 (some .int), Cond.instanceMethod yX1_exponent, Cond.selects RX1 yX1_exponent yX1_exponent, Cond.code yX1_exponent cX1_exponent 1 (some .int), Cond.methodLink RX1 62 yX1_unit, Cond.instanceMethod yX1_unit, Cond.selects RX1 yX1_unit yX1_unit, Cond.code yX1_unit cX1_unit 1 (some .int), Cond.methodLink RX1 56 Lib.Math.max.name, Cond.static Lib.Math.max.name, Cond.initialized "java/lang/Math", Cond.code Lib.Math.max.name Lib.Math.max.code 2 (some .int), Cond.methodLink RX1 65 yJ13_numberOfLeadingZeros_95d88, Cond.static yJ13_numberOfLeadingZeros_95d88]
def wsX2_test_r5 : List Cond := [Cond.initialized RJ13, Cond.code yJ13_numberOfLeadingZeros_95d88 cJ13_numberOfLeadingZeros_95d88 3 (some .int), Cond.methodLink RJ13 308 yJ6_numberOfLeadingZeros_0f7a4, Cond.static yJ6_numberOfLeadingZeros_0f7a4, Cond.initialized RJ6, Cond.code yJ6_numberOfLeadingZeros_0f7a4 cJ6_numberOfLeadingZeros_0f7a4 2 (some .int), Cond.constant RJ6 264 (65536), Cond.instanceMethod yX1_normalised, Cond.selects RX1 yX1_normalised yX1_normalised, Cond.code yX1_normalised cX1_normalised 1 (some .long), Cond.methodLink RX2 172 yJ13_compareUnsigned_74951, Cond.static yJ13_compareUnsigned_74951, Cond.code yJ13_compareUnsigned_74951 cJ13_compareUnsigned_74951 4 (some .int), Cond.constantLong RJ13 168 (-9223372036854775808), Cond.methodLink RJ13 302 yJ13_compare_74951, Cond.static yJ13_compare_74951, Cond.code yJ13_compare_74951 cJ13_compare_74951 4 (some .int)]
def wsX2_test : List Cond := .code yX2_test cX2_test 2 (some .int) :: ((wsX2_test_r1 ++ (wsX2_test_r2 ++ (wsX2_test_r3 ++ (wsX2_test_r4 ++ wsX2_test_r5)))) ++ wsX10 ++ wsX20 ++ (vx_atS RX2 146 "java/lang/IndexOutOfBoundsException" ["java/lang/RuntimeException", "java/lang/Exception"]).filter goodWord)
def wsX2_examine_r1 : List Cond := [Cond.methodLink RX2 42 yX2_needRegister, Cond.static yX2_needRegister, Cond.initialized RX2, Cond.code yX2_needRegister cX2_needRegister 1 none, Cond.classLink RX2 142 "java/lang/IndexOutOfBoundsException", Cond.initialized "java/lang/IndexOutOfBoundsException", Cond.methodLink RX2 71 yX2_read, Cond.instanceMethod yX2_read, Cond.selects RX2 yX2_read yX2_read, Cond.code yX2_read cX2_read 2 (some (.object "RealSteps$Real")), Cond.classLink RX2 48 RX1, Cond.instantiable RX1 2, Cond.initialized RX1, Cond.fieldLink RX2 9 "RealSteps" "tops" "[I", Cond.fieldLink RX2 13 "RealSteps" "fractions" "[J", Cond.instanceMethod yX1_init, Cond.code yX1_init cX1_init 4 none, Cond.methodLink RX1 3 objectInit, Cond.instanceMethod objectInit, Cond.code objectInit ⟨#[0xb1]⟩ 1 none, Cond.fieldLink RX1 9 "RealSteps$Real" "top" "I", Cond.fieldLink RX1 15 "RealSteps$Real" "fraction" "J", Cond.instanceMethod yX1_kind, Cond.selects RX1 yX1_kind yX1_kind]
def wsX2_examine_r2 : List Cond := [Cond.code yX1_kind cX1_kind 2 (some (.object "RealSteps$Kind")), Cond.fieldLink RX1 24 "RealSteps$Kind" "ZERO" "LRealSteps$Kind;", Cond.fieldLink RX1 30 "RealSteps$Kind" "DENORMAL" "LRealSteps$Kind;", Cond.fieldLink RX1 33 "RealSteps$Kind" "INFINITE" "LRealSteps$Kind;", Cond.fieldLink RX1 36 "RealSteps$Kind" "NO_NUMBER" "LRealSteps$Kind;", Cond.fieldLink RX1 39 "RealSteps$Kind" "NORMAL" "LRealSteps$Kind;", Cond.fieldLink RX1 42 "RealSteps$Kind" "UNNORMAL" "LRealSteps$Kind;", Cond.methodLink RX1 20 yX1_power, Cond.instanceMethod yX1_power, Cond.selects RX1 yX1_power yX1_power, Cond.code yX1_power cX1_power 1 (some .int), Cond.instanceMethod yX1_isNegative, Cond.selects RX1 yX1_isNegative yX1_isNegative, Cond.code yX1_isNegative cX1_isNegative 1 (some .boolean), Cond.constant RX1 19 (32768)]
def wsX2_examine : List Cond := .code yX2_examine cX2_examine 3 (some .int) :: ((wsX2_examine_r1 ++ wsX2_examine_r2) ++ wsX10 ++ wsX20 ++ (vx_atS RX2 146 "java/lang/IndexOutOfBoundsException" ["java/lang/RuntimeException", "java/lang/Exception"]).filter goodWord)
def wsX2_told : List Cond := .code yX2_told cX2_told 2 (some .int) :: ([.classLink RX2 35 "java/lang/IllegalArgumentException", .initialized "java/lang/IllegalArgumentException", .fieldLink RX2 21 "RealSteps" "toldBits" "I", .fieldLink RX2 24 "RealSteps" "answered" "Z", .fieldLink RX2 28 "RealSteps" "quotientBits" "I", .fieldLink RX2 31 "RealSteps" "partial" "Z"] ++ wsX20 ++ (vx_atS RX2 39 "java/lang/IllegalArgumentException" ["java/lang/RuntimeException", "java/lang/Exception"]).filter goodWord)
def wsX3_init : List Cond := .code yX3_init cX3_init 1 none :: ([.methodLink RX3 1 objectInit, .instanceMethod objectInit, .code objectInit ⟨#[0xb1]⟩ 1 none, .fieldLink RX3 7 "RealStepsModel" "control" "I", .arrayClass .int, .fieldLink RX3 13 "RealStepsModel" "top" "[I", .arrayClass .long, .fieldLink RX3 17 "RealStepsModel" "fraction" "[J"] ++ wsX30)
def wsX3_thrown : List Cond := .code yX3_thrown cX3_thrown 1 (some .int) :: ([.fieldLink RX3 21 "RealStepsModel" "code" "I"] ++ wsX30)
def wsX3_none : List Cond := .code yX3_none cX3_none 1 (some .boolean) :: ([])
def wsX3_masked : List Cond := .code yX3_masked cX3_masked 2 (some .boolean) :: ([.fieldLink RX3 7 "RealStepsModel" "control" "I"] ++ wsX30)
def wsX3_way : List Cond := .code yX3_way cX3_way 1 (some .int) :: ([.fieldLink RX3 7 "RealStepsModel" "control" "I"] ++ wsX30)
def wsX3_control : List Cond := .code yX3_control cX3_control 2 none :: ([.constant RX3 24 (65535), .fieldLink RX3 21 "RealStepsModel" "code" "I", .fieldLink RX3 7 "RealStepsModel" "control" "I"] ++ wsX30)
def wsX3_set : List Cond := .code yX3_set cX3_set 5 none :: ([.constant RX3 24 (65535), .fieldLink RX3 21 "RealStepsModel" "code" "I", .fieldLink RX3 13 "RealStepsModel" "top" "[I", .fieldLink RX3 17 "RealStepsModel" "fraction" "[J", .constantLong RX3 29 (4294967296), .constantLong RX3 31 (4294967295), .methodLink RX3 25 yX3_none, .static yX3_none, .initialized RX3, .code yX3_none cX3_none 1 (some .boolean)] ++ wsX30)
def wsX3_part : List Cond := .code yX3_part cX3_part 3 (some .int) :: ([.fieldLink RX3 21 "RealStepsModel" "code" "I", .fieldLink RX3 13 "RealStepsModel" "top" "[I", .fieldLink RX3 17 "RealStepsModel" "fraction" "[J", .methodLink RX3 25 yX3_none, .static yX3_none, .initialized RX3, .code yX3_none cX3_none 1 (some .boolean)] ++ wsX30)
def wsX3_turn : List Cond := .code yX3_turn cX3_turn 3 none :: ([.fieldLink RX3 21 "RealStepsModel" "code" "I", .fieldLink RX3 13 "RealStepsModel" "top" "[I", .constant RX3 33 (32768), .methodLink RX3 25 yX3_none, .static yX3_none, .initialized RX3, .code yX3_none cX3_none 1 (some .boolean)] ++ wsX30)
def wsX3_constant : List Cond := .code yX3_constant cX3_constant 3 none :: ([.fieldLink RX3 21 "RealStepsModel" "code" "I", .fieldLink RX3 13 "RealStepsModel" "top" "[I", .fieldLink RX3 17 "RealStepsModel" "fraction" "[J", .constantLong RX3 34 (-9223372036854775808), .constantLong RX3 36 (-3127054724296373506), .constantLong RX3 38 (-5140230975865229124), .constantLong RX3 40 (-3958705157555305931), .constantLong RX3 42 (-7340697496662837351), .constantLong RX3 44 (-5660435428506895956), .methodLink RX3 25 yX3_none, .static yX3_none, .initialized RX3, .code yX3_none cX3_none 1 (some .boolean)] ++ wsX30)
def wsX3_kind : List Cond := .code yX3_kind cX3_kind 4 (some .int) :: ([.fieldLink RX3 13 "RealStepsModel" "top" "[I", .constant RX3 33 (32768), .fieldLink RX3 17 "RealStepsModel" "fraction" "[J", .constantLong RX3 34 (-9223372036854775808)] ++ wsX30)
def wsX3_minus : List Cond := .code yX3_minus cX3_minus 2 (some .boolean) :: ([.fieldLink RX3 13 "RealStepsModel" "top" "[I"] ++ wsX30)
def wsX3_nothing : List Cond := .code yX3_nothing cX3_nothing 2 (some .boolean) :: ([.fieldLink RX3 17 "RealStepsModel" "fraction" "[J", .methodLink RX3 46 yX3_kind, .instanceMethod yX3_kind, .selects RX3 yX3_kind yX3_kind, .initialized RX3, .code yX3_kind cX3_kind 4 (some .int), .fieldLink RX3 13 "RealStepsModel" "top" "[I", .constant RX3 33 (32768), .constantLong RX3 34 (-9223372036854775808)] ++ wsX30)
def wsX3_unit : List Cond := .code yX3_unit cX3_unit 2 (some .int) :: ([.fieldLink RX3 13 "RealStepsModel" "top" "[I", .constant RX3 33 (32768)] ++ wsX30)
def wsX3_apart : List Cond := .code yX3_apart cX3_apart 2 none :: ([.fieldLink RX3 17 "RealStepsModel" "fraction" "[J", .fieldLink RX3 50 "RealStepsModel" "digits" "J", .fieldLink RX3 57 "RealStepsModel" "first" "I", .constantLong RX3 60 (2), .methodLink RX3 54 yX3_unit, .instanceMethod yX3_unit, .selects RX3 yX3_unit yX3_unit, .initialized RX3, .code yX3_unit cX3_unit 2 (some .int), .fieldLink RX3 13 "RealStepsModel" "top" "[I", .constant RX3 33 (32768)] ++ wsX30)
def wsX3_lessSize : List Cond := .code yX3_lessSize cX3_lessSize 4 (some .boolean) :: ([.constantLong RX3 34 (-9223372036854775808)])
def wsX3_answer : List Cond := .code yX3_answer cX3_answer 4 none :: ([.fieldLink RX3 62 "RealStepsModel" "answerTop" "I", .fieldLink RX3 65 "RealStepsModel" "answerFraction" "J", .fieldLink RX3 68 "RealStepsModel" "answered" "Z"] ++ wsX30)
def wsX3_tell : List Cond := .code yX3_tell cX3_tell 2 (some .boolean) :: ([.fieldLink RX3 72 "RealStepsModel" "told" "I", .methodLink RX3 75 yX3_masked, .instanceMethod yX3_masked, .selects RX3 yX3_masked yX3_masked, .initialized RX3, .code yX3_masked cX3_masked 2 (some .boolean), .fieldLink RX3 7 "RealStepsModel" "control" "I"] ++ wsX30)
def wsX3_begin : List Cond := .code yX3_begin cX3_begin 1 none :: ([.fieldLink RX3 72 "RealStepsModel" "told" "I", .fieldLink RX3 68 "RealStepsModel" "answered" "Z"] ++ wsX30)
def wsX3_goesOn_r1 : List Cond := [Cond.fieldLink RX3 17 "RealStepsModel" "fraction" "[J", Cond.fieldLink RX3 13 "RealStepsModel" "top" "[I", Cond.constant RX3 24 (65535), Cond.constantLong RX3 92 (-4611686018427387904), Cond.methodLink RX3 46 yX3_kind, Cond.instanceMethod yX3_kind, Cond.selects RX3 yX3_kind yX3_kind, Cond.initialized RX3, Cond.code yX3_kind cX3_kind 4 (some .int), Cond.constant RX3 33 (32768), Cond.constantLong RX3 34 (-9223372036854775808), Cond.methodLink RX3 78 yX3_lessSize, Cond.static yX3_lessSize, Cond.code yX3_lessSize cX3_lessSize 4 (some .boolean), Cond.methodLink RX3 82 yX3_minus, Cond.instanceMethod yX3_minus, Cond.selects RX3 yX3_minus yX3_minus, Cond.code yX3_minus cX3_minus 2 (some .boolean), Cond.methodLink RX3 85 yX3_tell, Cond.instanceMethod yX3_tell, Cond.selects RX3 yX3_tell yX3_tell, Cond.code yX3_tell cX3_tell 2 (some .boolean), Cond.fieldLink RX3 72 "RealStepsModel" "told" "I", Cond.methodLink RX3 75 yX3_masked]
def wsX3_goesOn_r2 : List Cond := [Cond.instanceMethod yX3_masked, Cond.selects RX3 yX3_masked yX3_masked, Cond.code yX3_masked cX3_masked 2 (some .boolean), Cond.fieldLink RX3 7 "RealStepsModel" "control" "I", Cond.methodLink RX3 88 yX3_answer, Cond.instanceMethod yX3_answer, Cond.selects RX3 yX3_answer yX3_answer, Cond.code yX3_answer cX3_answer 4 none, Cond.fieldLink RX3 62 "RealStepsModel" "answerTop" "I", Cond.fieldLink RX3 65 "RealStepsModel" "answerFraction" "J", Cond.fieldLink RX3 68 "RealStepsModel" "answered" "Z"]
def wsX3_goesOn : List Cond := .code yX3_goesOn cX3_goesOn 7 (some .boolean) :: ((wsX3_goesOn_r1 ++ wsX3_goesOn_r2) ++ wsX30)
def wsX3_rounded : List Cond := .code yX3_rounded cX3_rounded 10 (some .long) :: ([.constantLong RX3 60 (2), .constantLong RX3 96 (9223372036854775807), .fieldLink RX3 98 "RealStepsModel" "lost" "Z", .methodLink RX3 101 yX3_way, .instanceMethod yX3_way, .selects RX3 yX3_way yX3_way, .initialized RX3, .code yX3_way cX3_way 1 (some .int), .fieldLink RX3 7 "RealStepsModel" "control" "I"] ++ wsX30)
def wsX3_make_r1 : List Cond := [Cond.constant RX3 33 (32768), Cond.constantLong RX3 60 (2), Cond.fieldLink RX3 98 "RealStepsModel" "lost" "Z", Cond.constantLong RX3 34 (-9223372036854775808), Cond.constantLong RX3 109 (-1), Cond.methodLink RX3 88 yX3_answer, Cond.instanceMethod yX3_answer, Cond.selects RX3 yX3_answer yX3_answer, Cond.initialized RX3, Cond.code yX3_answer cX3_answer 4 none, Cond.fieldLink RX3 62 "RealStepsModel" "answerTop" "I", Cond.fieldLink RX3 65 "RealStepsModel" "answerFraction" "J", Cond.fieldLink RX3 68 "RealStepsModel" "answered" "Z", Cond.methodLink RX3 75 yX3_masked, Cond.instanceMethod yX3_masked, Cond.selects RX3 yX3_masked yX3_masked, Cond.code yX3_masked cX3_masked 2 (some .boolean), Cond.fieldLink RX3 7 "RealStepsModel" "control" "I", Cond.methodLink RX3 105 yX3_rounded, Cond.instanceMethod yX3_rounded, Cond.selects RX3 yX3_rounded yX3_rounded, Cond.code yX3_rounded cX3_rounded 10 (some .long), Cond.constantLong RX3 96 (9223372036854775807), Cond.methodLink RX3 101 yX3_way]
def wsX3_make_r2 : List Cond := [Cond.instanceMethod yX3_way, Cond.selects RX3 yX3_way yX3_way, Cond.code yX3_way cX3_way 1 (some .int), Cond.methodLink RX3 85 yX3_tell, Cond.instanceMethod yX3_tell, Cond.selects RX3 yX3_tell yX3_tell, Cond.code yX3_tell cX3_tell 2 (some .boolean), Cond.fieldLink RX3 72 "RealStepsModel" "told" "I"]
def wsX3_make : List Cond := .code yX3_make cX3_make 13 none :: ((wsX3_make_r1 ++ wsX3_make_r2) ++ wsX30)
def wsX3_keep : List Cond := .code yX3_keep cX3_keep 2 none :: ([.fieldLink RX3 68 "RealStepsModel" "answered" "Z", .fieldLink RX3 13 "RealStepsModel" "top" "[I", .fieldLink RX3 62 "RealStepsModel" "answerTop" "I", .fieldLink RX3 17 "RealStepsModel" "fraction" "[J", .fieldLink RX3 65 "RealStepsModel" "answerFraction" "J"] ++ wsX30)
def wsX3_whole_r1 : List Cond := [Cond.fieldLink RX3 21 "RealStepsModel" "code" "I", Cond.fieldLink RX3 13 "RealStepsModel" "top" "[I", Cond.fieldLink RX3 17 "RealStepsModel" "fraction" "[J", Cond.fieldLink RX3 98 "RealStepsModel" "lost" "Z", Cond.fieldLink RX3 72 "RealStepsModel" "told" "I", Cond.methodLink RX3 25 yX3_none, Cond.static yX3_none, Cond.initialized RX3, Cond.code yX3_none cX3_none 1 (some .boolean), Cond.methodLink RX3 111 yX3_begin, Cond.instanceMethod yX3_begin, Cond.selects RX3 yX3_begin yX3_begin, Cond.code yX3_begin cX3_begin 1 none, Cond.fieldLink RX3 68 "RealStepsModel" "answered" "Z", Cond.methodLink RX3 114 yX3_goesOn, Cond.instanceMethod yX3_goesOn, Cond.selects RX3 yX3_goesOn yX3_goesOn, Cond.code yX3_goesOn cX3_goesOn 7 (some .boolean), Cond.constant RX3 24 (65535), Cond.constantLong RX3 92 (-4611686018427387904), Cond.methodLink RX3 46 yX3_kind, Cond.instanceMethod yX3_kind, Cond.selects RX3 yX3_kind yX3_kind, Cond.code yX3_kind cX3_kind 4 (some .int)]
def wsX3_whole_r2 : List Cond := [Cond.constant RX3 33 (32768), Cond.constantLong RX3 34 (-9223372036854775808), Cond.methodLink RX3 78 yX3_lessSize, Cond.static yX3_lessSize, Cond.code yX3_lessSize cX3_lessSize 4 (some .boolean), Cond.methodLink RX3 82 yX3_minus, Cond.instanceMethod yX3_minus, Cond.selects RX3 yX3_minus yX3_minus, Cond.code yX3_minus cX3_minus 2 (some .boolean), Cond.methodLink RX3 85 yX3_tell, Cond.instanceMethod yX3_tell, Cond.selects RX3 yX3_tell yX3_tell, Cond.code yX3_tell cX3_tell 2 (some .boolean), Cond.methodLink RX3 75 yX3_masked, Cond.instanceMethod yX3_masked, Cond.selects RX3 yX3_masked yX3_masked, Cond.code yX3_masked cX3_masked 2 (some .boolean), Cond.fieldLink RX3 7 "RealStepsModel" "control" "I", Cond.methodLink RX3 88 yX3_answer, Cond.instanceMethod yX3_answer, Cond.selects RX3 yX3_answer yX3_answer, Cond.code yX3_answer cX3_answer 4 none, Cond.fieldLink RX3 62 "RealStepsModel" "answerTop" "I", Cond.fieldLink RX3 65 "RealStepsModel" "answerFraction" "J"]
def wsX3_whole_r3 : List Cond := [Cond.methodLink RX3 54 yX3_unit, Cond.instanceMethod yX3_unit, Cond.selects RX3 yX3_unit yX3_unit, Cond.code yX3_unit cX3_unit 2 (some .int), Cond.methodLink RX3 118 yX3_make, Cond.instanceMethod yX3_make, Cond.selects RX3 yX3_make yX3_make, Cond.code yX3_make cX3_make 13 none, Cond.constantLong RX3 60 (2), Cond.constantLong RX3 109 (-1), Cond.methodLink RX3 105 yX3_rounded, Cond.instanceMethod yX3_rounded, Cond.selects RX3 yX3_rounded yX3_rounded, Cond.code yX3_rounded cX3_rounded 10 (some .long), Cond.constantLong RX3 96 (9223372036854775807), Cond.methodLink RX3 101 yX3_way, Cond.instanceMethod yX3_way, Cond.selects RX3 yX3_way yX3_way, Cond.code yX3_way cX3_way 1 (some .int), Cond.methodLink RX3 122 yX3_keep, Cond.instanceMethod yX3_keep, Cond.selects RX3 yX3_keep yX3_keep, Cond.code yX3_keep cX3_keep 2 none]
def wsX3_whole : List Cond := .code yX3_whole cX3_whole 5 (some .int) :: ((wsX3_whole_r1 ++ (wsX3_whole_r2 ++ wsX3_whole_r3)) ++ wsX30)
def wsX3_scale_r1 : List Cond := [Cond.fieldLink RX3 21 "RealStepsModel" "code" "I", Cond.fieldLink RX3 57 "RealStepsModel" "first" "I", Cond.fieldLink RX3 13 "RealStepsModel" "top" "[I", Cond.fieldLink RX3 17 "RealStepsModel" "fraction" "[J", Cond.fieldLink RX3 50 "RealStepsModel" "digits" "J", Cond.fieldLink RX3 72 "RealStepsModel" "told" "I", Cond.methodLink RX3 25 yX3_none, Cond.static yX3_none, Cond.initialized RX3, Cond.code yX3_none cX3_none 1 (some .boolean), Cond.methodLink RX3 111 yX3_begin, Cond.instanceMethod yX3_begin, Cond.selects RX3 yX3_begin yX3_begin, Cond.code yX3_begin cX3_begin 1 none, Cond.fieldLink RX3 68 "RealStepsModel" "answered" "Z", Cond.methodLink RX3 46 yX3_kind, Cond.instanceMethod yX3_kind, Cond.selects RX3 yX3_kind yX3_kind, Cond.code yX3_kind cX3_kind 4 (some .int), Cond.constant RX3 33 (32768), Cond.constantLong RX3 34 (-9223372036854775808), Cond.methodLink RX3 126 yX3_nothing, Cond.instanceMethod yX3_nothing, Cond.selects RX3 yX3_nothing yX3_nothing]
def wsX3_scale_r2 : List Cond := [Cond.code yX3_nothing cX3_nothing 2 (some .boolean), Cond.methodLink RX3 129 yX3_apart, Cond.instanceMethod yX3_apart, Cond.selects RX3 yX3_apart yX3_apart, Cond.code yX3_apart cX3_apart 2 none, Cond.constantLong RX3 60 (2), Cond.methodLink RX3 54 yX3_unit, Cond.instanceMethod yX3_unit, Cond.selects RX3 yX3_unit yX3_unit, Cond.code yX3_unit cX3_unit 2 (some .int), Cond.methodLink RX3 114 yX3_goesOn, Cond.instanceMethod yX3_goesOn, Cond.selects RX3 yX3_goesOn yX3_goesOn, Cond.code yX3_goesOn cX3_goesOn 7 (some .boolean), Cond.constant RX3 24 (65535), Cond.constantLong RX3 92 (-4611686018427387904), Cond.methodLink RX3 78 yX3_lessSize, Cond.static yX3_lessSize, Cond.code yX3_lessSize cX3_lessSize 4 (some .boolean), Cond.methodLink RX3 82 yX3_minus, Cond.instanceMethod yX3_minus, Cond.selects RX3 yX3_minus yX3_minus, Cond.code yX3_minus cX3_minus 2 (some .boolean), Cond.methodLink RX3 85 yX3_tell]
def wsX3_scale_r3 : List Cond := [Cond.instanceMethod yX3_tell, Cond.selects RX3 yX3_tell yX3_tell, Cond.code yX3_tell cX3_tell 2 (some .boolean), Cond.methodLink RX3 75 yX3_masked, Cond.instanceMethod yX3_masked, Cond.selects RX3 yX3_masked yX3_masked, Cond.code yX3_masked cX3_masked 2 (some .boolean), Cond.fieldLink RX3 7 "RealStepsModel" "control" "I", Cond.methodLink RX3 88 yX3_answer, Cond.instanceMethod yX3_answer, Cond.selects RX3 yX3_answer yX3_answer, Cond.code yX3_answer cX3_answer 4 none, Cond.fieldLink RX3 62 "RealStepsModel" "answerTop" "I", Cond.fieldLink RX3 65 "RealStepsModel" "answerFraction" "J", Cond.methodLink RX3 118 yX3_make, Cond.instanceMethod yX3_make, Cond.selects RX3 yX3_make yX3_make, Cond.code yX3_make cX3_make 13 none, Cond.fieldLink RX3 98 "RealStepsModel" "lost" "Z", Cond.constantLong RX3 109 (-1), Cond.methodLink RX3 105 yX3_rounded, Cond.instanceMethod yX3_rounded, Cond.selects RX3 yX3_rounded yX3_rounded, Cond.code yX3_rounded cX3_rounded 10 (some .long)]
def wsX3_scale_r4 : List Cond := [Cond.constantLong RX3 96 (9223372036854775807), Cond.methodLink RX3 101 yX3_way, Cond.instanceMethod yX3_way, Cond.selects RX3 yX3_way yX3_way, Cond.code yX3_way cX3_way 1 (some .int), Cond.methodLink RX3 122 yX3_keep, Cond.instanceMethod yX3_keep, Cond.selects RX3 yX3_keep yX3_keep, Cond.code yX3_keep cX3_keep 2 none]
def wsX3_scale : List Cond := .code yX3_scale cX3_scale 7 (some .int) :: ((wsX3_scale_r1 ++ (wsX3_scale_r2 ++ (wsX3_scale_r3 ++ wsX3_scale_r4))) ++ wsX30)
def wsX3_extract_r1 : List Cond := [Cond.fieldLink RX3 21 "RealStepsModel" "code" "I", Cond.constantLong RX3 34 (-9223372036854775808), Cond.fieldLink RX3 13 "RealStepsModel" "top" "[I", Cond.fieldLink RX3 17 "RealStepsModel" "fraction" "[J", Cond.constant RX3 24 (65535), Cond.constant RX3 33 (32768), Cond.fieldLink RX3 57 "RealStepsModel" "first" "I", Cond.fieldLink RX3 50 "RealStepsModel" "digits" "J", Cond.fieldLink RX3 62 "RealStepsModel" "answerTop" "I", Cond.fieldLink RX3 65 "RealStepsModel" "answerFraction" "J", Cond.fieldLink RX3 68 "RealStepsModel" "answered" "Z", Cond.fieldLink RX3 72 "RealStepsModel" "told" "I", Cond.methodLink RX3 25 yX3_none, Cond.static yX3_none, Cond.initialized RX3, Cond.code yX3_none cX3_none 1 (some .boolean), Cond.methodLink RX3 111 yX3_begin, Cond.instanceMethod yX3_begin, Cond.selects RX3 yX3_begin yX3_begin, Cond.code yX3_begin cX3_begin 1 none, Cond.methodLink RX3 114 yX3_goesOn, Cond.instanceMethod yX3_goesOn, Cond.selects RX3 yX3_goesOn yX3_goesOn, Cond.code yX3_goesOn cX3_goesOn 7 (some .boolean)]
def wsX3_extract_r2 : List Cond := [Cond.constantLong RX3 92 (-4611686018427387904), Cond.methodLink RX3 46 yX3_kind, Cond.instanceMethod yX3_kind, Cond.selects RX3 yX3_kind yX3_kind, Cond.code yX3_kind cX3_kind 4 (some .int), Cond.methodLink RX3 78 yX3_lessSize, Cond.static yX3_lessSize, Cond.code yX3_lessSize cX3_lessSize 4 (some .boolean), Cond.methodLink RX3 82 yX3_minus, Cond.instanceMethod yX3_minus, Cond.selects RX3 yX3_minus yX3_minus, Cond.code yX3_minus cX3_minus 2 (some .boolean), Cond.methodLink RX3 85 yX3_tell, Cond.instanceMethod yX3_tell, Cond.selects RX3 yX3_tell yX3_tell, Cond.code yX3_tell cX3_tell 2 (some .boolean), Cond.methodLink RX3 75 yX3_masked, Cond.instanceMethod yX3_masked, Cond.selects RX3 yX3_masked yX3_masked, Cond.code yX3_masked cX3_masked 2 (some .boolean), Cond.fieldLink RX3 7 "RealStepsModel" "control" "I", Cond.methodLink RX3 88 yX3_answer, Cond.instanceMethod yX3_answer, Cond.selects RX3 yX3_answer yX3_answer]
def wsX3_extract_r3 : List Cond := [Cond.code yX3_answer cX3_answer 4 none, Cond.methodLink RX3 126 yX3_nothing, Cond.instanceMethod yX3_nothing, Cond.selects RX3 yX3_nothing yX3_nothing, Cond.code yX3_nothing cX3_nothing 2 (some .boolean), Cond.methodLink RX3 129 yX3_apart, Cond.instanceMethod yX3_apart, Cond.selects RX3 yX3_apart yX3_apart, Cond.code yX3_apart cX3_apart 2 none, Cond.constantLong RX3 60 (2), Cond.methodLink RX3 54 yX3_unit, Cond.instanceMethod yX3_unit, Cond.selects RX3 yX3_unit yX3_unit, Cond.code yX3_unit cX3_unit 2 (some .int), Cond.methodLink RX3 118 yX3_make, Cond.instanceMethod yX3_make, Cond.selects RX3 yX3_make yX3_make, Cond.code yX3_make cX3_make 13 none, Cond.fieldLink RX3 98 "RealStepsModel" "lost" "Z", Cond.constantLong RX3 109 (-1), Cond.methodLink RX3 105 yX3_rounded, Cond.instanceMethod yX3_rounded, Cond.selects RX3 yX3_rounded yX3_rounded, Cond.code yX3_rounded cX3_rounded 10 (some .long)]
def wsX3_extract_r4 : List Cond := [Cond.constantLong RX3 96 (9223372036854775807), Cond.methodLink RX3 101 yX3_way, Cond.instanceMethod yX3_way, Cond.selects RX3 yX3_way yX3_way, Cond.code yX3_way cX3_way 1 (some .int), Cond.methodLink RX3 122 yX3_keep, Cond.instanceMethod yX3_keep, Cond.selects RX3 yX3_keep yX3_keep, Cond.code yX3_keep cX3_keep 2 none]
def wsX3_extract : List Cond := .code yX3_extract cX3_extract 10 (some .int) :: ((wsX3_extract_r1 ++ (wsX3_extract_r2 ++ (wsX3_extract_r3 ++ wsX3_extract_r4))) ++ wsX30)
def wsX3_divide_r1 : List Cond := [Cond.fieldLink RX3 136 "RealStepsModel" "quotient" "I", Cond.fieldLink RX3 139 "RealStepsModel" "partial" "Z", Cond.fieldLink RX3 50 "RealStepsModel" "digits" "J", Cond.fieldLink RX3 57 "RealStepsModel" "first" "I", Cond.fieldLink RX3 17 "RealStepsModel" "fraction" "[J", Cond.constantLong RX3 60 (2), Cond.methodLink RX3 46 yX3_kind, Cond.instanceMethod yX3_kind, Cond.selects RX3 yX3_kind yX3_kind, Cond.initialized RX3, Cond.code yX3_kind cX3_kind 4 (some .int), Cond.fieldLink RX3 13 "RealStepsModel" "top" "[I", Cond.constant RX3 33 (32768), Cond.constantLong RX3 34 (-9223372036854775808), Cond.methodLink RX3 126 yX3_nothing, Cond.instanceMethod yX3_nothing, Cond.selects RX3 yX3_nothing yX3_nothing, Cond.code yX3_nothing cX3_nothing 2 (some .boolean), Cond.methodLink RX3 129 yX3_apart, Cond.instanceMethod yX3_apart, Cond.selects RX3 yX3_apart yX3_apart, Cond.code yX3_apart cX3_apart 2 none, Cond.methodLink RX3 54 yX3_unit, Cond.instanceMethod yX3_unit]
def wsX3_divide_r2 : List Cond := [Cond.selects RX3 yX3_unit yX3_unit, Cond.code yX3_unit cX3_unit 2 (some .int), Cond.methodLink RX3 82 yX3_minus, Cond.instanceMethod yX3_minus, Cond.selects RX3 yX3_minus yX3_minus, Cond.code yX3_minus cX3_minus 2 (some .boolean), Cond.methodLink RX3 118 yX3_make, Cond.instanceMethod yX3_make, Cond.selects RX3 yX3_make yX3_make, Cond.code yX3_make cX3_make 13 none, Cond.fieldLink RX3 98 "RealStepsModel" "lost" "Z", Cond.constantLong RX3 109 (-1), Cond.methodLink RX3 88 yX3_answer, Cond.instanceMethod yX3_answer, Cond.selects RX3 yX3_answer yX3_answer, Cond.code yX3_answer cX3_answer 4 none, Cond.fieldLink RX3 62 "RealStepsModel" "answerTop" "I", Cond.fieldLink RX3 65 "RealStepsModel" "answerFraction" "J", Cond.fieldLink RX3 68 "RealStepsModel" "answered" "Z", Cond.methodLink RX3 75 yX3_masked, Cond.instanceMethod yX3_masked, Cond.selects RX3 yX3_masked yX3_masked, Cond.code yX3_masked cX3_masked 2 (some .boolean), Cond.fieldLink RX3 7 "RealStepsModel" "control" "I"]
def wsX3_divide_r3 : List Cond := [Cond.methodLink RX3 105 yX3_rounded, Cond.instanceMethod yX3_rounded, Cond.selects RX3 yX3_rounded yX3_rounded, Cond.code yX3_rounded cX3_rounded 10 (some .long), Cond.constantLong RX3 96 (9223372036854775807), Cond.methodLink RX3 101 yX3_way, Cond.instanceMethod yX3_way, Cond.selects RX3 yX3_way yX3_way, Cond.code yX3_way cX3_way 1 (some .int), Cond.methodLink RX3 85 yX3_tell, Cond.instanceMethod yX3_tell, Cond.selects RX3 yX3_tell yX3_tell, Cond.code yX3_tell cX3_tell 2 (some .boolean), Cond.fieldLink RX3 72 "RealStepsModel" "told" "I", Cond.methodLink RX3 78 yX3_lessSize, Cond.static yX3_lessSize, Cond.code yX3_lessSize cX3_lessSize 4 (some .boolean)]
def wsX3_divide : List Cond := .code yX3_divide cX3_divide 12 none :: ((wsX3_divide_r1 ++ (wsX3_divide_r2 ++ wsX3_divide_r3)) ++ wsX30)
def wsX3_remainder_r1 : List Cond := [Cond.fieldLink RX3 21 "RealStepsModel" "code" "I", Cond.fieldLink RX3 72 "RealStepsModel" "told" "I", Cond.methodLink RX3 25 yX3_none, Cond.static yX3_none, Cond.initialized RX3, Cond.code yX3_none cX3_none 1 (some .boolean), Cond.methodLink RX3 111 yX3_begin, Cond.instanceMethod yX3_begin, Cond.selects RX3 yX3_begin yX3_begin, Cond.code yX3_begin cX3_begin 1 none, Cond.fieldLink RX3 68 "RealStepsModel" "answered" "Z", Cond.methodLink RX3 46 yX3_kind, Cond.instanceMethod yX3_kind, Cond.selects RX3 yX3_kind yX3_kind, Cond.code yX3_kind cX3_kind 4 (some .int), Cond.fieldLink RX3 13 "RealStepsModel" "top" "[I", Cond.constant RX3 33 (32768), Cond.fieldLink RX3 17 "RealStepsModel" "fraction" "[J", Cond.constantLong RX3 34 (-9223372036854775808), Cond.methodLink RX3 126 yX3_nothing, Cond.instanceMethod yX3_nothing, Cond.selects RX3 yX3_nothing yX3_nothing, Cond.code yX3_nothing cX3_nothing 2 (some .boolean), Cond.methodLink RX3 114 yX3_goesOn]
def wsX3_remainder_r2 : List Cond := [Cond.instanceMethod yX3_goesOn, Cond.selects RX3 yX3_goesOn yX3_goesOn, Cond.code yX3_goesOn cX3_goesOn 7 (some .boolean), Cond.constant RX3 24 (65535), Cond.constantLong RX3 92 (-4611686018427387904), Cond.methodLink RX3 78 yX3_lessSize, Cond.static yX3_lessSize, Cond.code yX3_lessSize cX3_lessSize 4 (some .boolean), Cond.methodLink RX3 82 yX3_minus, Cond.instanceMethod yX3_minus, Cond.selects RX3 yX3_minus yX3_minus, Cond.code yX3_minus cX3_minus 2 (some .boolean), Cond.methodLink RX3 85 yX3_tell, Cond.instanceMethod yX3_tell, Cond.selects RX3 yX3_tell yX3_tell, Cond.code yX3_tell cX3_tell 2 (some .boolean), Cond.methodLink RX3 75 yX3_masked, Cond.instanceMethod yX3_masked, Cond.selects RX3 yX3_masked yX3_masked, Cond.code yX3_masked cX3_masked 2 (some .boolean), Cond.fieldLink RX3 7 "RealStepsModel" "control" "I", Cond.methodLink RX3 88 yX3_answer, Cond.instanceMethod yX3_answer, Cond.selects RX3 yX3_answer yX3_answer]
def wsX3_remainder_r3 : List Cond := [Cond.code yX3_answer cX3_answer 4 none, Cond.fieldLink RX3 62 "RealStepsModel" "answerTop" "I", Cond.fieldLink RX3 65 "RealStepsModel" "answerFraction" "J", Cond.methodLink RX3 132 yX3_divide, Cond.instanceMethod yX3_divide, Cond.selects RX3 yX3_divide yX3_divide, Cond.code yX3_divide cX3_divide 12 none, Cond.fieldLink RX3 136 "RealStepsModel" "quotient" "I", Cond.fieldLink RX3 139 "RealStepsModel" "partial" "Z", Cond.fieldLink RX3 50 "RealStepsModel" "digits" "J", Cond.fieldLink RX3 57 "RealStepsModel" "first" "I", Cond.constantLong RX3 60 (2), Cond.methodLink RX3 129 yX3_apart, Cond.instanceMethod yX3_apart, Cond.selects RX3 yX3_apart yX3_apart, Cond.code yX3_apart cX3_apart 2 none, Cond.methodLink RX3 54 yX3_unit, Cond.instanceMethod yX3_unit, Cond.selects RX3 yX3_unit yX3_unit, Cond.code yX3_unit cX3_unit 2 (some .int), Cond.methodLink RX3 118 yX3_make, Cond.instanceMethod yX3_make, Cond.selects RX3 yX3_make yX3_make, Cond.code yX3_make cX3_make 13 none]
def wsX3_remainder_r4 : List Cond := [Cond.fieldLink RX3 98 "RealStepsModel" "lost" "Z", Cond.constantLong RX3 109 (-1), Cond.methodLink RX3 105 yX3_rounded, Cond.instanceMethod yX3_rounded, Cond.selects RX3 yX3_rounded yX3_rounded, Cond.code yX3_rounded cX3_rounded 10 (some .long), Cond.constantLong RX3 96 (9223372036854775807), Cond.methodLink RX3 101 yX3_way, Cond.instanceMethod yX3_way, Cond.selects RX3 yX3_way yX3_way, Cond.code yX3_way cX3_way 1 (some .int), Cond.methodLink RX3 122 yX3_keep, Cond.instanceMethod yX3_keep, Cond.selects RX3 yX3_keep yX3_keep, Cond.code yX3_keep cX3_keep 2 none]
def wsX3_remainder : List Cond := .code yX3_remainder cX3_remainder 4 (some .int) :: ((wsX3_remainder_r1 ++ (wsX3_remainder_r2 ++ (wsX3_remainder_r3 ++ wsX3_remainder_r4))) ++ wsX30)
def wsX3_order_r1 : List Cond := [Cond.fieldLink RX3 50 "RealStepsModel" "digits" "J", Cond.fieldLink RX3 57 "RealStepsModel" "first" "I", Cond.methodLink RX3 126 yX3_nothing, Cond.instanceMethod yX3_nothing, Cond.selects RX3 yX3_nothing yX3_nothing, Cond.initialized RX3, Cond.code yX3_nothing cX3_nothing 2 (some .boolean), Cond.fieldLink RX3 17 "RealStepsModel" "fraction" "[J", Cond.methodLink RX3 46 yX3_kind, Cond.instanceMethod yX3_kind, Cond.selects RX3 yX3_kind yX3_kind, Cond.code yX3_kind cX3_kind 4 (some .int), Cond.fieldLink RX3 13 "RealStepsModel" "top" "[I", Cond.constant RX3 33 (32768), Cond.constantLong RX3 34 (-9223372036854775808), Cond.methodLink RX3 82 yX3_minus, Cond.instanceMethod yX3_minus, Cond.selects RX3 yX3_minus yX3_minus, Cond.code yX3_minus cX3_minus 2 (some .boolean), Cond.methodLink RX3 75 yX3_masked, Cond.instanceMethod yX3_masked, Cond.selects RX3 yX3_masked yX3_masked, Cond.code yX3_masked cX3_masked 2 (some .boolean), Cond.fieldLink RX3 7 "RealStepsModel" "control" "I"]
def wsX3_order_r2 : List Cond := [Cond.methodLink RX3 129 yX3_apart, Cond.instanceMethod yX3_apart, Cond.selects RX3 yX3_apart yX3_apart, Cond.code yX3_apart cX3_apart 2 none, Cond.constantLong RX3 60 (2), Cond.methodLink RX3 54 yX3_unit, Cond.instanceMethod yX3_unit, Cond.selects RX3 yX3_unit yX3_unit, Cond.code yX3_unit cX3_unit 2 (some .int), Cond.methodLink RX3 78 yX3_lessSize, Cond.static yX3_lessSize, Cond.code yX3_lessSize cX3_lessSize 4 (some .boolean)]
def wsX3_order : List Cond := .code yX3_order cX3_order 11 (some .int) :: ((wsX3_order_r1 ++ wsX3_order_r2) ++ wsX30)
def wsX3_compared_r1 : List Cond := [Cond.fieldLink RX3 68 "RealStepsModel" "answered" "Z", Cond.methodLink RX3 111 yX3_begin, Cond.instanceMethod yX3_begin, Cond.selects RX3 yX3_begin yX3_begin, Cond.initialized RX3, Cond.code yX3_begin cX3_begin 1 none, Cond.fieldLink RX3 72 "RealStepsModel" "told" "I", Cond.methodLink RX3 46 yX3_kind, Cond.instanceMethod yX3_kind, Cond.selects RX3 yX3_kind yX3_kind, Cond.code yX3_kind cX3_kind 4 (some .int), Cond.fieldLink RX3 13 "RealStepsModel" "top" "[I", Cond.constant RX3 33 (32768), Cond.fieldLink RX3 17 "RealStepsModel" "fraction" "[J", Cond.constantLong RX3 34 (-9223372036854775808), Cond.methodLink RX3 75 yX3_masked, Cond.instanceMethod yX3_masked, Cond.selects RX3 yX3_masked yX3_masked, Cond.code yX3_masked cX3_masked 2 (some .boolean), Cond.fieldLink RX3 7 "RealStepsModel" "control" "I", Cond.methodLink RX3 114 yX3_goesOn, Cond.instanceMethod yX3_goesOn, Cond.selects RX3 yX3_goesOn yX3_goesOn, Cond.code yX3_goesOn cX3_goesOn 7 (some .boolean)]
def wsX3_compared_r2 : List Cond := [Cond.constant RX3 24 (65535), Cond.constantLong RX3 92 (-4611686018427387904), Cond.methodLink RX3 78 yX3_lessSize, Cond.static yX3_lessSize, Cond.code yX3_lessSize cX3_lessSize 4 (some .boolean), Cond.methodLink RX3 82 yX3_minus, Cond.instanceMethod yX3_minus, Cond.selects RX3 yX3_minus yX3_minus, Cond.code yX3_minus cX3_minus 2 (some .boolean), Cond.methodLink RX3 85 yX3_tell, Cond.instanceMethod yX3_tell, Cond.selects RX3 yX3_tell yX3_tell, Cond.code yX3_tell cX3_tell 2 (some .boolean), Cond.methodLink RX3 88 yX3_answer, Cond.instanceMethod yX3_answer, Cond.selects RX3 yX3_answer yX3_answer, Cond.code yX3_answer cX3_answer 4 none, Cond.fieldLink RX3 62 "RealStepsModel" "answerTop" "I", Cond.fieldLink RX3 65 "RealStepsModel" "answerFraction" "J", Cond.methodLink RX3 142 yX3_order, Cond.instanceMethod yX3_order, Cond.selects RX3 yX3_order yX3_order, Cond.code yX3_order cX3_order 11 (some .int), Cond.fieldLink RX3 50 "RealStepsModel" "digits" "J"]
def wsX3_compared_r3 : List Cond := [Cond.fieldLink RX3 57 "RealStepsModel" "first" "I", Cond.methodLink RX3 126 yX3_nothing, Cond.instanceMethod yX3_nothing, Cond.selects RX3 yX3_nothing yX3_nothing, Cond.code yX3_nothing cX3_nothing 2 (some .boolean), Cond.methodLink RX3 129 yX3_apart, Cond.instanceMethod yX3_apart, Cond.selects RX3 yX3_apart yX3_apart, Cond.code yX3_apart cX3_apart 2 none, Cond.constantLong RX3 60 (2), Cond.methodLink RX3 54 yX3_unit, Cond.instanceMethod yX3_unit, Cond.selects RX3 yX3_unit yX3_unit, Cond.code yX3_unit cX3_unit 2 (some .int)]
def wsX3_compared : List Cond := .code yX3_compared cX3_compared 6 (some .int) :: ((wsX3_compared_r1 ++ (wsX3_compared_r2 ++ wsX3_compared_r3)) ++ wsX30)
def wsX3_compare_r1 : List Cond := [Cond.fieldLink RX3 21 "RealStepsModel" "code" "I", Cond.methodLink RX3 25 yX3_none, Cond.static yX3_none, Cond.initialized RX3, Cond.code yX3_none cX3_none 1 (some .boolean), Cond.methodLink RX3 146 yX3_compared, Cond.instanceMethod yX3_compared, Cond.selects RX3 yX3_compared yX3_compared, Cond.code yX3_compared cX3_compared 6 (some .int), Cond.fieldLink RX3 68 "RealStepsModel" "answered" "Z", Cond.methodLink RX3 111 yX3_begin, Cond.instanceMethod yX3_begin, Cond.selects RX3 yX3_begin yX3_begin, Cond.code yX3_begin cX3_begin 1 none, Cond.fieldLink RX3 72 "RealStepsModel" "told" "I", Cond.methodLink RX3 46 yX3_kind, Cond.instanceMethod yX3_kind, Cond.selects RX3 yX3_kind yX3_kind, Cond.code yX3_kind cX3_kind 4 (some .int), Cond.fieldLink RX3 13 "RealStepsModel" "top" "[I", Cond.constant RX3 33 (32768), Cond.fieldLink RX3 17 "RealStepsModel" "fraction" "[J", Cond.constantLong RX3 34 (-9223372036854775808), Cond.methodLink RX3 75 yX3_masked]
def wsX3_compare_r2 : List Cond := [Cond.instanceMethod yX3_masked, Cond.selects RX3 yX3_masked yX3_masked, Cond.code yX3_masked cX3_masked 2 (some .boolean), Cond.fieldLink RX3 7 "RealStepsModel" "control" "I", Cond.methodLink RX3 114 yX3_goesOn, Cond.instanceMethod yX3_goesOn, Cond.selects RX3 yX3_goesOn yX3_goesOn, Cond.code yX3_goesOn cX3_goesOn 7 (some .boolean), Cond.constant RX3 24 (65535), Cond.constantLong RX3 92 (-4611686018427387904), Cond.methodLink RX3 78 yX3_lessSize, Cond.static yX3_lessSize, Cond.code yX3_lessSize cX3_lessSize 4 (some .boolean), Cond.methodLink RX3 82 yX3_minus, Cond.instanceMethod yX3_minus, Cond.selects RX3 yX3_minus yX3_minus, Cond.code yX3_minus cX3_minus 2 (some .boolean), Cond.methodLink RX3 85 yX3_tell, Cond.instanceMethod yX3_tell, Cond.selects RX3 yX3_tell yX3_tell, Cond.code yX3_tell cX3_tell 2 (some .boolean), Cond.methodLink RX3 88 yX3_answer, Cond.instanceMethod yX3_answer, Cond.selects RX3 yX3_answer yX3_answer]
def wsX3_compare_r3 : List Cond := [Cond.code yX3_answer cX3_answer 4 none, Cond.fieldLink RX3 62 "RealStepsModel" "answerTop" "I", Cond.fieldLink RX3 65 "RealStepsModel" "answerFraction" "J", Cond.methodLink RX3 142 yX3_order, Cond.instanceMethod yX3_order, Cond.selects RX3 yX3_order yX3_order, Cond.code yX3_order cX3_order 11 (some .int), Cond.fieldLink RX3 50 "RealStepsModel" "digits" "J", Cond.fieldLink RX3 57 "RealStepsModel" "first" "I", Cond.methodLink RX3 126 yX3_nothing, Cond.instanceMethod yX3_nothing, Cond.selects RX3 yX3_nothing yX3_nothing, Cond.code yX3_nothing cX3_nothing 2 (some .boolean), Cond.methodLink RX3 129 yX3_apart, Cond.instanceMethod yX3_apart, Cond.selects RX3 yX3_apart yX3_apart, Cond.code yX3_apart cX3_apart 2 none, Cond.constantLong RX3 60 (2), Cond.methodLink RX3 54 yX3_unit, Cond.instanceMethod yX3_unit, Cond.selects RX3 yX3_unit yX3_unit, Cond.code yX3_unit cX3_unit 2 (some .int)]
def wsX3_compare : List Cond := .code yX3_compare cX3_compare 3 (some .int) :: ((wsX3_compare_r1 ++ (wsX3_compare_r2 ++ wsX3_compare_r3)) ++ wsX30)
def wsX3_test_r1 : List Cond := [Cond.fieldLink RX3 21 "RealStepsModel" "code" "I", Cond.methodLink RX3 25 yX3_none, Cond.static yX3_none, Cond.initialized RX3, Cond.code yX3_none cX3_none 1 (some .boolean), Cond.methodLink RX3 146 yX3_compared, Cond.instanceMethod yX3_compared, Cond.selects RX3 yX3_compared yX3_compared, Cond.code yX3_compared cX3_compared 6 (some .int), Cond.fieldLink RX3 68 "RealStepsModel" "answered" "Z", Cond.methodLink RX3 111 yX3_begin, Cond.instanceMethod yX3_begin, Cond.selects RX3 yX3_begin yX3_begin, Cond.code yX3_begin cX3_begin 1 none, Cond.fieldLink RX3 72 "RealStepsModel" "told" "I", Cond.methodLink RX3 46 yX3_kind, Cond.instanceMethod yX3_kind, Cond.selects RX3 yX3_kind yX3_kind, Cond.code yX3_kind cX3_kind 4 (some .int), Cond.fieldLink RX3 13 "RealStepsModel" "top" "[I", Cond.constant RX3 33 (32768), Cond.fieldLink RX3 17 "RealStepsModel" "fraction" "[J", Cond.constantLong RX3 34 (-9223372036854775808), Cond.methodLink RX3 75 yX3_masked]
def wsX3_test_r2 : List Cond := [Cond.instanceMethod yX3_masked, Cond.selects RX3 yX3_masked yX3_masked, Cond.code yX3_masked cX3_masked 2 (some .boolean), Cond.fieldLink RX3 7 "RealStepsModel" "control" "I", Cond.methodLink RX3 114 yX3_goesOn, Cond.instanceMethod yX3_goesOn, Cond.selects RX3 yX3_goesOn yX3_goesOn, Cond.code yX3_goesOn cX3_goesOn 7 (some .boolean), Cond.constant RX3 24 (65535), Cond.constantLong RX3 92 (-4611686018427387904), Cond.methodLink RX3 78 yX3_lessSize, Cond.static yX3_lessSize, Cond.code yX3_lessSize cX3_lessSize 4 (some .boolean), Cond.methodLink RX3 82 yX3_minus, Cond.instanceMethod yX3_minus, Cond.selects RX3 yX3_minus yX3_minus, Cond.code yX3_minus cX3_minus 2 (some .boolean), Cond.methodLink RX3 85 yX3_tell, Cond.instanceMethod yX3_tell, Cond.selects RX3 yX3_tell yX3_tell, Cond.code yX3_tell cX3_tell 2 (some .boolean), Cond.methodLink RX3 88 yX3_answer, Cond.instanceMethod yX3_answer, Cond.selects RX3 yX3_answer yX3_answer]
def wsX3_test_r3 : List Cond := [Cond.code yX3_answer cX3_answer 4 none, Cond.fieldLink RX3 62 "RealStepsModel" "answerTop" "I", Cond.fieldLink RX3 65 "RealStepsModel" "answerFraction" "J", Cond.methodLink RX3 142 yX3_order, Cond.instanceMethod yX3_order, Cond.selects RX3 yX3_order yX3_order, Cond.code yX3_order cX3_order 11 (some .int), Cond.fieldLink RX3 50 "RealStepsModel" "digits" "J", Cond.fieldLink RX3 57 "RealStepsModel" "first" "I", Cond.methodLink RX3 126 yX3_nothing, Cond.instanceMethod yX3_nothing, Cond.selects RX3 yX3_nothing yX3_nothing, Cond.code yX3_nothing cX3_nothing 2 (some .boolean), Cond.methodLink RX3 129 yX3_apart, Cond.instanceMethod yX3_apart, Cond.selects RX3 yX3_apart yX3_apart, Cond.code yX3_apart cX3_apart 2 none, Cond.constantLong RX3 60 (2), Cond.methodLink RX3 54 yX3_unit, Cond.instanceMethod yX3_unit, Cond.selects RX3 yX3_unit yX3_unit, Cond.code yX3_unit cX3_unit 2 (some .int)]
def wsX3_test : List Cond := .code yX3_test cX3_test 2 (some .int) :: ((wsX3_test_r1 ++ (wsX3_test_r2 ++ wsX3_test_r3)) ++ wsX30)
def wsX3_examine : List Cond := .code yX3_examine cX3_examine 4 (some .int) :: ([.fieldLink RX3 21 "RealStepsModel" "code" "I", .methodLink RX3 25 yX3_none, .static yX3_none, .initialized RX3, .code yX3_none cX3_none 1 (some .boolean), .methodLink RX3 46 yX3_kind, .instanceMethod yX3_kind, .selects RX3 yX3_kind yX3_kind, .code yX3_kind cX3_kind 4 (some .int), .fieldLink RX3 13 "RealStepsModel" "top" "[I", .constant RX3 33 (32768), .fieldLink RX3 17 "RealStepsModel" "fraction" "[J", .constantLong RX3 34 (-9223372036854775808), .methodLink RX3 82 yX3_minus, .instanceMethod yX3_minus, .selects RX3 yX3_minus yX3_minus, .code yX3_minus cX3_minus 2 (some .boolean)] ++ wsX30)
def wsX3_told : List Cond := .code yX3_told cX3_told 2 (some .int) :: ([.fieldLink RX3 21 "RealStepsModel" "code" "I", .fieldLink RX3 72 "RealStepsModel" "told" "I", .fieldLink RX3 68 "RealStepsModel" "answered" "Z", .fieldLink RX3 136 "RealStepsModel" "quotient" "I", .fieldLink RX3 139 "RealStepsModel" "partial" "Z"] ++ wsX30)
def wsJ9_abs_0f7a4 : List Cond := .code yJ9_abs_0f7a4 cJ9_abs_0f7a4 1 (some .int) :: ([])
def wsJ9_max_7cf53 : List Cond := .code yJ9_max_7cf53 cJ9_max_7cf53 2 (some .int) :: ([])
def wsL_control : List Cond := .codeWith yL_control cL_control 3 (some .int) [(0, 5, 8, 13)] :: ([.classLink RL 13 "java/lang/IllegalArgumentException", .methodLink RL 7 yX2_control, .instanceMethod yX2_control, .selects RX2 yX2_control yX2_control, .initialized RX2, .code yX2_control cX2_control 2 none, .classLink RX2 35 "java/lang/IllegalArgumentException", .initialized "java/lang/IllegalArgumentException", .constant RX2 34 (65535), .fieldLink RX2 17 "RealSteps" "controlWord" "I"] ++ wsX20 ++ (vx_atS RX2 39 "java/lang/IllegalArgumentException" ["java/lang/RuntimeException", "java/lang/Exception"]).filter goodWord)
def wsL_set_r1 : List Cond := [Cond.classLink RL 19 "java/lang/IndexOutOfBoundsException", Cond.classLink RL 13 "java/lang/IllegalArgumentException", Cond.methodLink RL 15 yX2_set, Cond.instanceMethod yX2_set, Cond.selects RX2 yX2_set yX2_set, Cond.initialized RX2, Cond.code yX2_set cX2_set 5 none, Cond.classLink RX2 35 "java/lang/IllegalArgumentException", Cond.initialized "java/lang/IllegalArgumentException", Cond.constant RX2 34 (65535), Cond.classLink RX2 48 RX1, Cond.instantiable RX1 2, Cond.initialized RX1, Cond.constantLong RX2 50 (4294967295), Cond.methodLink RX2 42 yX2_needRegister, Cond.static yX2_needRegister, Cond.code yX2_needRegister cX2_needRegister 1 none, Cond.classLink RX2 142 "java/lang/IndexOutOfBoundsException", Cond.initialized "java/lang/IndexOutOfBoundsException", Cond.instanceMethod yX1_init, Cond.code yX1_init cX1_init 4 none, Cond.methodLink RX1 3 objectInit, Cond.instanceMethod objectInit, Cond.code objectInit ⟨#[0xb1]⟩ 1 none]
def wsL_set_r2 : List Cond := [Cond.fieldLink RX1 9 "RealSteps$Real" "top" "I", Cond.fieldLink RX1 15 "RealSteps$Real" "fraction" "J", Cond.methodLink RX2 55 yX2_write, Cond.instanceMethod yX2_write, Cond.selects RX2 yX2_write yX2_write, Cond.code yX2_write cX2_write 3 none, Cond.fieldLink RX2 9 "RealSteps" "tops" "[I", Cond.fieldLink RX2 13 "RealSteps" "fractions" "[J"]
def wsL_set : List Cond := .codeWith yL_set cL_set 6 (some .int) [(0, 9, 12, 19), (0, 9, 16, 13)] :: ((wsL_set_r1 ++ wsL_set_r2) ++ wsX10 ++ wsX20 ++ (vx_atS RX2 39 "java/lang/IllegalArgumentException" ["java/lang/RuntimeException", "java/lang/Exception"]).filter goodWord ++ (vx_atS RX2 146 "java/lang/IndexOutOfBoundsException" ["java/lang/RuntimeException", "java/lang/Exception"]).filter goodWord)
def wsL_part : List Cond := .codeWith yL_part cL_part 5 (some .int) [(0, 10, 13, 19), (0, 10, 17, 13)] :: ([.classLink RL 19 "java/lang/IndexOutOfBoundsException", .classLink RL 13 "java/lang/IllegalArgumentException", .methodLink RL 21 yX2_part, .instanceMethod yX2_part, .selects RX2 yX2_part yX2_part, .initialized RX2, .code yX2_part cX2_part 3 (some .int), .classLink RX2 35 "java/lang/IllegalArgumentException", .initialized "java/lang/IllegalArgumentException", .fieldLink RX2 9 "RealSteps" "tops" "[I", .fieldLink RX2 13 "RealSteps" "fractions" "[J", .methodLink RX2 42 yX2_needRegister, .static yX2_needRegister, .code yX2_needRegister cX2_needRegister 1 none, .classLink RX2 142 "java/lang/IndexOutOfBoundsException", .initialized "java/lang/IndexOutOfBoundsException"] ++ wsX20 ++ (vx_atS RX2 39 "java/lang/IllegalArgumentException" ["java/lang/RuntimeException", "java/lang/Exception"]).filter goodWord ++ (vx_atS RX2 146 "java/lang/IndexOutOfBoundsException" ["java/lang/RuntimeException", "java/lang/Exception"]).filter goodWord)
def wsL_turn : List Cond := .codeWith yL_turn cL_turn 4 (some .int) [(0, 6, 9, 19)] :: ([.classLink RL 19 "java/lang/IndexOutOfBoundsException", .methodLink RL 25 yX2_turn, .instanceMethod yX2_turn, .selects RX2 yX2_turn yX2_turn, .initialized RX2, .code yX2_turn cX2_turn 3 none, .fieldLink RX2 9 "RealSteps" "tops" "[I", .constant RX2 61 (-32769), .constant RX2 62 (32768), .methodLink RX2 42 yX2_needRegister, .static yX2_needRegister, .code yX2_needRegister cX2_needRegister 1 none, .classLink RX2 142 "java/lang/IndexOutOfBoundsException", .initialized "java/lang/IndexOutOfBoundsException"] ++ wsX20 ++ (vx_atS RX2 146 "java/lang/IndexOutOfBoundsException" ["java/lang/RuntimeException", "java/lang/Exception"]).filter goodWord)
def wsL_constant_r1 : List Cond := [Cond.classLink RL 19 "java/lang/IndexOutOfBoundsException", Cond.classLink RL 13 "java/lang/IllegalArgumentException", Cond.methodLink RL 29 yX2_constant, Cond.instanceMethod yX2_constant, Cond.selects RX2 yX2_constant yX2_constant, Cond.initialized RX2, Cond.code yX2_constant cX2_constant 3 none, Cond.classLink RX2 35 "java/lang/IllegalArgumentException", Cond.initialized "java/lang/IllegalArgumentException", Cond.fieldLink RX2 63 "RealSteps" "CONSTANT_TOPS" "[I", Cond.fieldLink RX2 66 "RealSteps" "CONSTANT_FRACTIONS" "[J", Cond.classLink RX2 48 RX1, Cond.instantiable RX1 2, Cond.initialized RX1, Cond.methodLink RX2 42 yX2_needRegister, Cond.static yX2_needRegister, Cond.code yX2_needRegister cX2_needRegister 1 none, Cond.classLink RX2 142 "java/lang/IndexOutOfBoundsException", Cond.initialized "java/lang/IndexOutOfBoundsException", Cond.instanceMethod yX1_init, Cond.code yX1_init cX1_init 4 none, Cond.methodLink RX1 3 objectInit, Cond.instanceMethod objectInit, Cond.code objectInit ⟨#[0xb1]⟩ 1 none]
def wsL_constant_r2 : List Cond := [Cond.fieldLink RX1 9 "RealSteps$Real" "top" "I", Cond.fieldLink RX1 15 "RealSteps$Real" "fraction" "J", Cond.methodLink RX2 55 yX2_write, Cond.instanceMethod yX2_write, Cond.selects RX2 yX2_write yX2_write, Cond.code yX2_write cX2_write 3 none, Cond.fieldLink RX2 9 "RealSteps" "tops" "[I", Cond.fieldLink RX2 13 "RealSteps" "fractions" "[J"]
def wsL_constant : List Cond := .codeWith yL_constant cL_constant 4 (some .int) [(0, 6, 9, 19), (0, 6, 12, 13)] :: ((wsL_constant_r1 ++ wsL_constant_r2) ++ wsX10 ++ wsX20 ++ (vx_atS RX2 39 "java/lang/IllegalArgumentException" ["java/lang/RuntimeException", "java/lang/Exception"]).filter goodWord ++ (vx_atS RX2 146 "java/lang/IndexOutOfBoundsException" ["java/lang/RuntimeException", "java/lang/Exception"]).filter goodWord)
def wsL_whole_r1 : List Cond := [Cond.classLink RL 19 "java/lang/IndexOutOfBoundsException", Cond.methodLink RL 33 yX2_whole, Cond.instanceMethod yX2_whole, Cond.selects RX2 yX2_whole yX2_whole, Cond.initialized RX2, Cond.code yX2_whole cX2_whole 4 (some .int), Cond.fieldLink RX2 24 "RealSteps" "answered" "Z", Cond.fieldLink RX2 21 "RealSteps" "toldBits" "I", Cond.methodLink RX2 42 yX2_needRegister, Cond.static yX2_needRegister, Cond.code yX2_needRegister cX2_needRegister 1 none, Cond.classLink RX2 142 "java/lang/IndexOutOfBoundsException", Cond.initialized "java/lang/IndexOutOfBoundsException", Cond.methodLink RX2 71 yX2_read, Cond.instanceMethod yX2_read, Cond.selects RX2 yX2_read yX2_read, Cond.code yX2_read cX2_read 2 (some (.object "RealSteps$Real")), Cond.classLink RX2 48 RX1, Cond.instantiable RX1 2, Cond.initialized RX1, Cond.fieldLink RX2 9 "RealSteps" "tops" "[I", Cond.fieldLink RX2 13 "RealSteps" "fractions" "[J", Cond.instanceMethod yX1_init, Cond.code yX1_init cX1_init 4 none]
def wsL_whole_r2 : List Cond := [Cond.methodLink RX1 3 objectInit, Cond.instanceMethod objectInit, Cond.code objectInit ⟨#[0xb1]⟩ 1 none, Cond.fieldLink RX1 9 "RealSteps$Real" "top" "I", Cond.fieldLink RX1 15 "RealSteps$Real" "fraction" "J", Cond.methodLink RX2 75 yX2_goesOn, Cond.instanceMethod yX2_goesOn, Cond.selects RX2 yX2_goesOn yX2_goesOn, Cond.code yX2_goesOn cX2_goesOn 5 (some .boolean), Cond.fieldLink RX2 154 "RealSteps$Kind" "NO_NUMBER" "LRealSteps$Kind;", Cond.fieldLink RX2 160 "RealSteps$Kind" "DENORMAL" "LRealSteps$Kind;", Cond.instanceMethod yX1_isOf, Cond.selects RX1 yX1_isOf yX1_isOf, Cond.code yX1_isOf cX1_isOf 2 (some .boolean), Cond.methodLink RX1 45 yX1_kind, Cond.instanceMethod yX1_kind, Cond.selects RX1 yX1_kind yX1_kind, Cond.code yX1_kind cX1_kind 2 (some (.object "RealSteps$Kind")), Cond.fieldLink RX1 24 "RealSteps$Kind" "ZERO" "LRealSteps$Kind;", Cond.fieldLink RX1 30 "RealSteps$Kind" "DENORMAL" "LRealSteps$Kind;", Cond.fieldLink RX1 33 "RealSteps$Kind" "INFINITE" "LRealSteps$Kind;", Cond.fieldLink RX1 36 "RealSteps$Kind" "NO_NUMBER" "LRealSteps$Kind;", Cond.fieldLink RX1 39 "RealSteps$Kind" "NORMAL" "LRealSteps$Kind;", Cond.fieldLink RX1 42 "RealSteps$Kind" "UNNORMAL" "LRealSteps$Kind;"]
def wsL_whole_r3 : List Cond := [Cond.methodLink RX1 20 yX1_power, Cond.instanceMethod yX1_power, Cond.selects RX1 yX1_power yX1_power, Cond.code yX1_power cX1_power 1 (some .int), Cond.methodLink RX2 157 yX2_tellAtFirst, Cond.instanceMethod yX2_tellAtFirst, Cond.selects RX2 yX2_tellAtFirst yX2_tellAtFirst, Cond.code yX2_tellAtFirst cX2_tellAtFirst 2 none, Cond.methodLink RX2 163 yX2_isMasked, Cond.instanceMethod yX2_isMasked, Cond.selects RX2 yX2_isMasked yX2_isMasked, Cond.code yX2_isMasked cX2_isMasked 2 (some .boolean), Cond.fieldLink RX2 17 "RealSteps" "controlWord" "I", Cond.methodLink RX2 79 yX2_wholeOf, Cond.instanceMethod yX2_wholeOf, Cond.selects RX2 yX2_wholeOf yX2_wholeOf, Cond.code yX2_wholeOf cX2_wholeOf 6 (some (.object "RealSteps$Real")), Cond.fieldLink RX2 106 "RealSteps$Kind" "INFINITE" "LRealSteps$Kind;", Cond.instanceMethod yX1_isNegative, Cond.selects RX1 yX1_isNegative yX1_isNegative, Cond.code yX1_isNegative cX1_isNegative 1 (some .boolean), Cond.constant RX1 19 (32768), Cond.instanceMethod yX1_exponent, Cond.selects RX1 yX1_exponent yX1_exponent]
def wsL_whole_r4 : List Cond := [Cond.code yX1_exponent cX1_exponent 1 (some .int), Cond.methodLink RX1 62 yX1_unit, Cond.instanceMethod yX1_unit, Cond.selects RX1 yX1_unit yX1_unit, Cond.code yX1_unit cX1_unit 1 (some .int), Cond.methodLink RX1 56 Lib.Math.max.name, Cond.static Lib.Math.max.name, Cond.initialized "java/lang/Math", Cond.code Lib.Math.max.name Lib.Math.max.code 2 (some .int), Cond.methodLink RX1 65 yJ13_numberOfLeadingZeros_95d88, Cond.static yJ13_numberOfLeadingZeros_95d88, Cond.initialized RJ13, Cond.code yJ13_numberOfLeadingZeros_95d88 cJ13_numberOfLeadingZeros_95d88 3 (some .int), Cond.methodLink RJ13 308 yJ6_numberOfLeadingZeros_0f7a4, Cond.static yJ6_numberOfLeadingZeros_0f7a4, Cond.initialized RJ6, Cond.code yJ6_numberOfLeadingZeros_0f7a4 cJ6_numberOfLeadingZeros_0f7a4 2 (some .int), Cond.constant RJ6 264 (65536), Cond.instanceMethod yX1_isNought, Cond.selects RX1 yX1_isNought yX1_isNought, Cond.code yX1_isNought cX1_isNought 1 (some .boolean), Cond.methodLink RX2 229 yX2_make, Cond.instanceMethod yX2_make, Cond.selects RX2 yX2_make yX2_make]
def wsL_whole_r5 : List Cond := [Cond.code yX2_make cX2_make 9 (some (.object "RealSteps$Real")), Cond.methodLink RX2 126 yX2_zero, Cond.static yX2_zero, Cond.code yX2_zero cX2_zero 1 (some (.object "RealSteps$Real")), Cond.methodLink RX2 178 yX2_signOf, Cond.static yX2_signOf, Cond.code yX2_signOf cX2_signOf 1 (some .int), Cond.constant RX2 62 (32768), Cond.methodLink RX2 184 yJ13_numberOfLeadingZeros_95d88, Cond.methodLink RX2 188 yX2_makeUnder, Cond.instanceMethod yX2_makeUnder, Cond.selects RX2 yX2_makeUnder yX2_makeUnder, Cond.code yX2_makeUnder cX2_makeUnder 8 (some (.object "RealSteps$Real")), Cond.methodLink RX2 195 yX2_normal, Cond.static yX2_normal, Cond.code yX2_normal cX2_normal 4 (some (.object "RealSteps$Real")), Cond.methodLink RX2 198 yX2_isCut, Cond.static yX2_isCut, Cond.code yX2_isCut cX2_isCut 3 (some .boolean), Cond.methodLink RX2 202 yX2_rounded, Cond.instanceMethod yX2_rounded, Cond.selects RX2 yX2_rounded yX2_rounded, Cond.code yX2_rounded cX2_rounded 7 (some .long), Cond.methodLink RX2 215 yX2_isRoundedAway]
def wsL_whole_r6 : List Cond := [Cond.instanceMethod yX2_isRoundedAway, Cond.selects RX2 yX2_isRoundedAway yX2_isRoundedAway, Cond.code yX2_isRoundedAway cX2_isRoundedAway 7 (some .boolean), Cond.methodLink RX2 206 yX2_rounding, Cond.instanceMethod yX2_rounding, Cond.selects RX2 yX2_rounding yX2_rounding, Cond.code yX2_rounding cX2_rounding 1 (some .int), Cond.methodLink RX2 219 yX2_isNearerAbove, Cond.static yX2_isNearerAbove, Cond.code yX2_isNearerAbove cX2_isNearerAbove 9 (some .boolean), Cond.methodLink RX2 172 yJ13_compareUnsigned_74951, Cond.static yJ13_compareUnsigned_74951, Cond.code yJ13_compareUnsigned_74951 cJ13_compareUnsigned_74951 4 (some .int), Cond.constantLong RJ13 168 (-9223372036854775808), Cond.methodLink RJ13 302 yJ13_compare_74951, Cond.static yJ13_compare_74951, Cond.code yJ13_compare_74951 cJ13_compare_74951 4 (some .int), Cond.methodLink RX2 192 yX2_makeOver, Cond.instanceMethod yX2_makeOver, Cond.selects RX2 yX2_makeOver yX2_makeOver, Cond.code yX2_makeOver cX2_makeOver 6 (some (.object "RealSteps$Real")), Cond.constantLong RX2 210 (-1), Cond.methodLink RX2 212 yX2_infinite, Cond.static yX2_infinite]
def wsL_whole_r7 : List Cond := [Cond.code yX2_infinite cX2_infinite 1 (some (.object "RealSteps$Real")), Cond.constantLong RX2 182 (-9223372036854775808), Cond.instanceMethod yX1_normalised, Cond.selects RX1 yX1_normalised yX1_normalised, Cond.code yX1_normalised cX1_normalised 1 (some .long), Cond.methodLink RX2 55 yX2_write, Cond.instanceMethod yX2_write, Cond.selects RX2 yX2_write yX2_write, Cond.code yX2_write cX2_write 3 none, Cond.methodLink RX2 83 yX2_substitute, Cond.static yX2_substitute, Cond.code yX2_substitute cX2_substitute 4 (some (.object "RealSteps$Real")), Cond.constant RX2 34 (65535), Cond.constantLong RX2 170 (-4611686018427387904), Cond.methodLink RX2 167 yX2_greaterNoNumber, Cond.static yX2_greaterNoNumber, Cond.code yX2_greaterNoNumber cX2_greaterNoNumber 2 (some (.object "RealSteps$Real"))]
def wsL_whole : List Cond := .codeWith yL_whole cL_whole 5 (some .int) [(0, 10, 13, 19)] :: ((wsL_whole_r1 ++ (wsL_whole_r2 ++ (wsL_whole_r3 ++ (wsL_whole_r4 ++ (wsL_whole_r5 ++ (wsL_whole_r6 ++ wsL_whole_r7)))))) ++ wsX20 ++ wsX10 ++ (vx_atS RX2 146 "java/lang/IndexOutOfBoundsException" ["java/lang/RuntimeException", "java/lang/Exception"]).filter goodWord)
def wsL_scale_r1 : List Cond := [Cond.classLink RL 19 "java/lang/IndexOutOfBoundsException", Cond.methodLink RL 36 yX2_scale, Cond.instanceMethod yX2_scale, Cond.selects RX2 yX2_scale yX2_scale, Cond.initialized RX2, Cond.code yX2_scale cX2_scale 6 (some .int), Cond.fieldLink RX2 24 "RealSteps" "answered" "Z", Cond.fieldLink RX2 21 "RealSteps" "toldBits" "I", Cond.methodLink RX2 42 yX2_needRegister, Cond.static yX2_needRegister, Cond.code yX2_needRegister cX2_needRegister 1 none, Cond.classLink RX2 142 "java/lang/IndexOutOfBoundsException", Cond.initialized "java/lang/IndexOutOfBoundsException", Cond.methodLink RX2 71 yX2_read, Cond.instanceMethod yX2_read, Cond.selects RX2 yX2_read yX2_read, Cond.code yX2_read cX2_read 2 (some (.object "RealSteps$Real")), Cond.classLink RX2 48 RX1, Cond.instantiable RX1 2, Cond.initialized RX1, Cond.fieldLink RX2 9 "RealSteps" "tops" "[I", Cond.fieldLink RX2 13 "RealSteps" "fractions" "[J", Cond.instanceMethod yX1_init, Cond.code yX1_init cX1_init 4 none]
def wsL_scale_r2 : List Cond := [Cond.methodLink RX1 3 objectInit, Cond.instanceMethod objectInit, Cond.code objectInit ⟨#[0xb1]⟩ 1 none, Cond.fieldLink RX1 9 "RealSteps$Real" "top" "I", Cond.fieldLink RX1 15 "RealSteps$Real" "fraction" "J", Cond.methodLink RX2 87 yX2_isBeyondScale, Cond.static yX2_isBeyondScale, Cond.code yX2_isBeyondScale cX2_isBeyondScale 1 (some .boolean), Cond.fieldLink RX2 106 "RealSteps$Kind" "INFINITE" "LRealSteps$Kind;", Cond.instanceMethod yX1_isNought, Cond.selects RX1 yX1_isNought yX1_isNought, Cond.code yX1_isNought cX1_isNought 1 (some .boolean), Cond.methodLink RX1 20 yX1_power, Cond.instanceMethod yX1_power, Cond.selects RX1 yX1_power yX1_power, Cond.code yX1_power cX1_power 1 (some .int), Cond.instanceMethod yX1_isOf, Cond.selects RX1 yX1_isOf yX1_isOf, Cond.code yX1_isOf cX1_isOf 2 (some .boolean), Cond.methodLink RX1 45 yX1_kind, Cond.instanceMethod yX1_kind, Cond.selects RX1 yX1_kind yX1_kind, Cond.code yX1_kind cX1_kind 2 (some (.object "RealSteps$Kind")), Cond.fieldLink RX1 24 "RealSteps$Kind" "ZERO" "LRealSteps$Kind;"]
def wsL_scale_r3 : List Cond := [Cond.fieldLink RX1 30 "RealSteps$Kind" "DENORMAL" "LRealSteps$Kind;", Cond.fieldLink RX1 33 "RealSteps$Kind" "INFINITE" "LRealSteps$Kind;", Cond.fieldLink RX1 36 "RealSteps$Kind" "NO_NUMBER" "LRealSteps$Kind;", Cond.fieldLink RX1 39 "RealSteps$Kind" "NORMAL" "LRealSteps$Kind;", Cond.fieldLink RX1 42 "RealSteps$Kind" "UNNORMAL" "LRealSteps$Kind;", Cond.instanceMethod yX1_exponent, Cond.selects RX1 yX1_exponent yX1_exponent, Cond.code yX1_exponent cX1_exponent 1 (some .int), Cond.methodLink RX1 62 yX1_unit, Cond.instanceMethod yX1_unit, Cond.selects RX1 yX1_unit yX1_unit, Cond.code yX1_unit cX1_unit 1 (some .int), Cond.methodLink RX1 56 Lib.Math.max.name, Cond.static Lib.Math.max.name, Cond.initialized "java/lang/Math", Cond.code Lib.Math.max.name Lib.Math.max.code 2 (some .int), Cond.methodLink RX1 65 yJ13_numberOfLeadingZeros_95d88, Cond.static yJ13_numberOfLeadingZeros_95d88, Cond.initialized RJ13, Cond.code yJ13_numberOfLeadingZeros_95d88 cJ13_numberOfLeadingZeros_95d88 3 (some .int), Cond.methodLink RJ13 308 yJ6_numberOfLeadingZeros_0f7a4, Cond.static yJ6_numberOfLeadingZeros_0f7a4, Cond.initialized RJ6, Cond.code yJ6_numberOfLeadingZeros_0f7a4 cJ6_numberOfLeadingZeros_0f7a4 2 (some .int)]
def wsL_scale_r4 : List Cond := [Cond.constant RJ6 264 (65536), Cond.methodLink RX2 75 yX2_goesOn, Cond.instanceMethod yX2_goesOn, Cond.selects RX2 yX2_goesOn yX2_goesOn, Cond.code yX2_goesOn cX2_goesOn 5 (some .boolean), Cond.fieldLink RX2 154 "RealSteps$Kind" "NO_NUMBER" "LRealSteps$Kind;", Cond.fieldLink RX2 160 "RealSteps$Kind" "DENORMAL" "LRealSteps$Kind;", Cond.methodLink RX2 157 yX2_tellAtFirst, Cond.instanceMethod yX2_tellAtFirst, Cond.selects RX2 yX2_tellAtFirst yX2_tellAtFirst, Cond.code yX2_tellAtFirst cX2_tellAtFirst 2 none, Cond.methodLink RX2 163 yX2_isMasked, Cond.instanceMethod yX2_isMasked, Cond.selects RX2 yX2_isMasked yX2_isMasked, Cond.code yX2_isMasked cX2_isMasked 2 (some .boolean), Cond.fieldLink RX2 17 "RealSteps" "controlWord" "I", Cond.methodLink RX2 91 yX2_scaled, Cond.instanceMethod yX2_scaled, Cond.selects RX2 yX2_scaled yX2_scaled, Cond.code yX2_scaled cX2_scaled 3 (some (.object "RealSteps$Real")), Cond.instanceMethod yX1_isNegative, Cond.selects RX1 yX1_isNegative yX1_isNegative, Cond.code yX1_isNegative cX1_isNegative 1 (some .boolean), Cond.constant RX1 19 (32768)]
def wsL_scale_r5 : List Cond := [Cond.methodLink RX2 237 yX2_cutOff, Cond.static yX2_cutOff, Cond.code yX2_cutOff cX2_cutOff 3 (some .int), Cond.instanceMethod yX1_normalised, Cond.selects RX1 yX1_normalised yX1_normalised, Cond.code yX1_normalised cX1_normalised 1 (some .long), Cond.methodLink RX2 229 yX2_make, Cond.instanceMethod yX2_make, Cond.selects RX2 yX2_make yX2_make, Cond.code yX2_make cX2_make 9 (some (.object "RealSteps$Real")), Cond.methodLink RX2 126 yX2_zero, Cond.static yX2_zero, Cond.code yX2_zero cX2_zero 1 (some (.object "RealSteps$Real")), Cond.methodLink RX2 178 yX2_signOf, Cond.static yX2_signOf, Cond.code yX2_signOf cX2_signOf 1 (some .int), Cond.constant RX2 62 (32768), Cond.methodLink RX2 184 yJ13_numberOfLeadingZeros_95d88, Cond.methodLink RX2 188 yX2_makeUnder, Cond.instanceMethod yX2_makeUnder, Cond.selects RX2 yX2_makeUnder yX2_makeUnder, Cond.code yX2_makeUnder cX2_makeUnder 8 (some (.object "RealSteps$Real")), Cond.methodLink RX2 195 yX2_normal, Cond.static yX2_normal]
def wsL_scale_r6 : List Cond := [Cond.code yX2_normal cX2_normal 4 (some (.object "RealSteps$Real")), Cond.methodLink RX2 198 yX2_isCut, Cond.static yX2_isCut, Cond.code yX2_isCut cX2_isCut 3 (some .boolean), Cond.methodLink RX2 202 yX2_rounded, Cond.instanceMethod yX2_rounded, Cond.selects RX2 yX2_rounded yX2_rounded, Cond.code yX2_rounded cX2_rounded 7 (some .long), Cond.methodLink RX2 215 yX2_isRoundedAway, Cond.instanceMethod yX2_isRoundedAway, Cond.selects RX2 yX2_isRoundedAway yX2_isRoundedAway, Cond.code yX2_isRoundedAway cX2_isRoundedAway 7 (some .boolean), Cond.methodLink RX2 206 yX2_rounding, Cond.instanceMethod yX2_rounding, Cond.selects RX2 yX2_rounding yX2_rounding, Cond.code yX2_rounding cX2_rounding 1 (some .int), Cond.methodLink RX2 219 yX2_isNearerAbove, Cond.static yX2_isNearerAbove, Cond.code yX2_isNearerAbove cX2_isNearerAbove 9 (some .boolean), Cond.methodLink RX2 172 yJ13_compareUnsigned_74951, Cond.static yJ13_compareUnsigned_74951, Cond.code yJ13_compareUnsigned_74951 cJ13_compareUnsigned_74951 4 (some .int), Cond.constantLong RJ13 168 (-9223372036854775808), Cond.methodLink RJ13 302 yJ13_compare_74951]
def wsL_scale_r7 : List Cond := [Cond.static yJ13_compare_74951, Cond.code yJ13_compare_74951 cJ13_compare_74951 4 (some .int), Cond.methodLink RX2 192 yX2_makeOver, Cond.instanceMethod yX2_makeOver, Cond.selects RX2 yX2_makeOver yX2_makeOver, Cond.code yX2_makeOver cX2_makeOver 6 (some (.object "RealSteps$Real")), Cond.constantLong RX2 210 (-1), Cond.methodLink RX2 212 yX2_infinite, Cond.static yX2_infinite, Cond.code yX2_infinite cX2_infinite 1 (some (.object "RealSteps$Real")), Cond.constantLong RX2 182 (-9223372036854775808), Cond.methodLink RX2 55 yX2_write, Cond.instanceMethod yX2_write, Cond.selects RX2 yX2_write yX2_write, Cond.code yX2_write cX2_write 3 none, Cond.methodLink RX2 83 yX2_substitute, Cond.static yX2_substitute, Cond.code yX2_substitute cX2_substitute 4 (some (.object "RealSteps$Real")), Cond.constant RX2 34 (65535), Cond.constantLong RX2 170 (-4611686018427387904), Cond.methodLink RX2 167 yX2_greaterNoNumber, Cond.static yX2_greaterNoNumber, Cond.code yX2_greaterNoNumber cX2_greaterNoNumber 2 (some (.object "RealSteps$Real"))]
def wsL_scale : List Cond := .codeWith yL_scale cL_scale 6 (some .int) [(0, 12, 15, 19)] :: ((wsL_scale_r1 ++ (wsL_scale_r2 ++ (wsL_scale_r3 ++ (wsL_scale_r4 ++ (wsL_scale_r5 ++ (wsL_scale_r6 ++ wsL_scale_r7)))))) ++ wsX20 ++ wsX10 ++ (vx_atS RX2 146 "java/lang/IndexOutOfBoundsException" ["java/lang/RuntimeException", "java/lang/Exception"]).filter goodWord)
def wsL_extract_r1 : List Cond := [Cond.classLink RL 19 "java/lang/IndexOutOfBoundsException", Cond.classLink RL 13 "java/lang/IllegalArgumentException", Cond.methodLink RL 40 yX2_extract, Cond.instanceMethod yX2_extract, Cond.selects RX2 yX2_extract yX2_extract, Cond.initialized RX2, Cond.code yX2_extract cX2_extract 5 (some .int), Cond.classLink RX2 35 "java/lang/IllegalArgumentException", Cond.initialized "java/lang/IllegalArgumentException", Cond.fieldLink RX2 24 "RealSteps" "answered" "Z", Cond.fieldLink RX2 21 "RealSteps" "toldBits" "I", Cond.methodLink RX2 42 yX2_needRegister, Cond.static yX2_needRegister, Cond.code yX2_needRegister cX2_needRegister 1 none, Cond.classLink RX2 142 "java/lang/IndexOutOfBoundsException", Cond.initialized "java/lang/IndexOutOfBoundsException", Cond.methodLink RX2 71 yX2_read, Cond.instanceMethod yX2_read, Cond.selects RX2 yX2_read yX2_read, Cond.code yX2_read cX2_read 2 (some (.object "RealSteps$Real")), Cond.classLink RX2 48 RX1, Cond.instantiable RX1 2, Cond.initialized RX1, Cond.fieldLink RX2 9 "RealSteps" "tops" "[I"]
def wsL_extract_r2 : List Cond := [Cond.fieldLink RX2 13 "RealSteps" "fractions" "[J", Cond.instanceMethod yX1_init, Cond.code yX1_init cX1_init 4 none, Cond.methodLink RX1 3 objectInit, Cond.instanceMethod objectInit, Cond.code objectInit ⟨#[0xb1]⟩ 1 none, Cond.fieldLink RX1 9 "RealSteps$Real" "top" "I", Cond.fieldLink RX1 15 "RealSteps$Real" "fraction" "J", Cond.instanceMethod yX1_isNought, Cond.selects RX1 yX1_isNought yX1_isNought, Cond.code yX1_isNought cX1_isNought 1 (some .boolean), Cond.methodLink RX1 20 yX1_power, Cond.instanceMethod yX1_power, Cond.selects RX1 yX1_power yX1_power, Cond.code yX1_power cX1_power 1 (some .int), Cond.methodLink RX2 75 yX2_goesOn, Cond.instanceMethod yX2_goesOn, Cond.selects RX2 yX2_goesOn yX2_goesOn, Cond.code yX2_goesOn cX2_goesOn 5 (some .boolean), Cond.fieldLink RX2 154 "RealSteps$Kind" "NO_NUMBER" "LRealSteps$Kind;", Cond.fieldLink RX2 160 "RealSteps$Kind" "DENORMAL" "LRealSteps$Kind;", Cond.instanceMethod yX1_isOf, Cond.selects RX1 yX1_isOf yX1_isOf, Cond.code yX1_isOf cX1_isOf 2 (some .boolean)]
def wsL_extract_r3 : List Cond := [Cond.methodLink RX1 45 yX1_kind, Cond.instanceMethod yX1_kind, Cond.selects RX1 yX1_kind yX1_kind, Cond.code yX1_kind cX1_kind 2 (some (.object "RealSteps$Kind")), Cond.fieldLink RX1 24 "RealSteps$Kind" "ZERO" "LRealSteps$Kind;", Cond.fieldLink RX1 30 "RealSteps$Kind" "DENORMAL" "LRealSteps$Kind;", Cond.fieldLink RX1 33 "RealSteps$Kind" "INFINITE" "LRealSteps$Kind;", Cond.fieldLink RX1 36 "RealSteps$Kind" "NO_NUMBER" "LRealSteps$Kind;", Cond.fieldLink RX1 39 "RealSteps$Kind" "NORMAL" "LRealSteps$Kind;", Cond.fieldLink RX1 42 "RealSteps$Kind" "UNNORMAL" "LRealSteps$Kind;", Cond.methodLink RX2 157 yX2_tellAtFirst, Cond.instanceMethod yX2_tellAtFirst, Cond.selects RX2 yX2_tellAtFirst yX2_tellAtFirst, Cond.code yX2_tellAtFirst cX2_tellAtFirst 2 none, Cond.methodLink RX2 163 yX2_isMasked, Cond.instanceMethod yX2_isMasked, Cond.selects RX2 yX2_isMasked yX2_isMasked, Cond.code yX2_isMasked cX2_isMasked 2 (some .boolean), Cond.fieldLink RX2 17 "RealSteps" "controlWord" "I", Cond.methodLink RX2 100 yX2_powerOf, Cond.instanceMethod yX2_powerOf, Cond.selects RX2 yX2_powerOf yX2_powerOf, Cond.code yX2_powerOf cX2_powerOf 3 (some (.object "RealSteps$Real")), Cond.fieldLink RX2 106 "RealSteps$Kind" "INFINITE" "LRealSteps$Kind;"]
def wsL_extract_r4 : List Cond := [Cond.methodLink RX2 241 Lib.Math.abs.name, Cond.static Lib.Math.abs.name, Cond.initialized "java/lang/Math", Cond.code Lib.Math.abs.name Lib.Math.abs.code 1 (some .int), Cond.methodLink RX2 212 yX2_infinite, Cond.static yX2_infinite, Cond.code yX2_infinite cX2_infinite 1 (some (.object "RealSteps$Real")), Cond.constantLong RX2 182 (-9223372036854775808), Cond.methodLink RX2 178 yX2_signOf, Cond.static yX2_signOf, Cond.code yX2_signOf cX2_signOf 1 (some .int), Cond.constant RX2 62 (32768), Cond.instanceMethod yX1_exponent, Cond.selects RX1 yX1_exponent yX1_exponent, Cond.code yX1_exponent cX1_exponent 1 (some .int), Cond.methodLink RX1 62 yX1_unit, Cond.instanceMethod yX1_unit, Cond.selects RX1 yX1_unit yX1_unit, Cond.code yX1_unit cX1_unit 1 (some .int), Cond.methodLink RX1 56 Lib.Math.max.name, Cond.static Lib.Math.max.name, Cond.code Lib.Math.max.name Lib.Math.max.code 2 (some .int), Cond.methodLink RX1 65 yJ13_numberOfLeadingZeros_95d88, Cond.static yJ13_numberOfLeadingZeros_95d88]
def wsL_extract_r5 : List Cond := [Cond.initialized RJ13, Cond.code yJ13_numberOfLeadingZeros_95d88 cJ13_numberOfLeadingZeros_95d88 3 (some .int), Cond.methodLink RJ13 308 yJ6_numberOfLeadingZeros_0f7a4, Cond.static yJ6_numberOfLeadingZeros_0f7a4, Cond.initialized RJ6, Cond.code yJ6_numberOfLeadingZeros_0f7a4 cJ6_numberOfLeadingZeros_0f7a4 2 (some .int), Cond.constant RJ6 264 (65536), Cond.methodLink RX2 229 yX2_make, Cond.instanceMethod yX2_make, Cond.selects RX2 yX2_make yX2_make, Cond.code yX2_make cX2_make 9 (some (.object "RealSteps$Real")), Cond.methodLink RX2 126 yX2_zero, Cond.static yX2_zero, Cond.code yX2_zero cX2_zero 1 (some (.object "RealSteps$Real")), Cond.methodLink RX2 184 yJ13_numberOfLeadingZeros_95d88, Cond.methodLink RX2 188 yX2_makeUnder, Cond.instanceMethod yX2_makeUnder, Cond.selects RX2 yX2_makeUnder yX2_makeUnder, Cond.code yX2_makeUnder cX2_makeUnder 8 (some (.object "RealSteps$Real")), Cond.methodLink RX2 195 yX2_normal, Cond.static yX2_normal, Cond.code yX2_normal cX2_normal 4 (some (.object "RealSteps$Real")), Cond.methodLink RX2 198 yX2_isCut, Cond.static yX2_isCut]
def wsL_extract_r6 : List Cond := [Cond.code yX2_isCut cX2_isCut 3 (some .boolean), Cond.methodLink RX2 202 yX2_rounded, Cond.instanceMethod yX2_rounded, Cond.selects RX2 yX2_rounded yX2_rounded, Cond.code yX2_rounded cX2_rounded 7 (some .long), Cond.methodLink RX2 215 yX2_isRoundedAway, Cond.instanceMethod yX2_isRoundedAway, Cond.selects RX2 yX2_isRoundedAway yX2_isRoundedAway, Cond.code yX2_isRoundedAway cX2_isRoundedAway 7 (some .boolean), Cond.methodLink RX2 206 yX2_rounding, Cond.instanceMethod yX2_rounding, Cond.selects RX2 yX2_rounding yX2_rounding, Cond.code yX2_rounding cX2_rounding 1 (some .int), Cond.methodLink RX2 219 yX2_isNearerAbove, Cond.static yX2_isNearerAbove, Cond.code yX2_isNearerAbove cX2_isNearerAbove 9 (some .boolean), Cond.methodLink RX2 172 yJ13_compareUnsigned_74951, Cond.static yJ13_compareUnsigned_74951, Cond.code yJ13_compareUnsigned_74951 cJ13_compareUnsigned_74951 4 (some .int), Cond.constantLong RJ13 168 (-9223372036854775808), Cond.methodLink RJ13 302 yJ13_compare_74951, Cond.static yJ13_compare_74951, Cond.code yJ13_compare_74951 cJ13_compare_74951 4 (some .int), Cond.methodLink RX2 192 yX2_makeOver]
def wsL_extract_r7 : List Cond := [Cond.instanceMethod yX2_makeOver, Cond.selects RX2 yX2_makeOver yX2_makeOver, Cond.code yX2_makeOver cX2_makeOver 6 (some (.object "RealSteps$Real")), Cond.constantLong RX2 210 (-1), Cond.methodLink RX2 55 yX2_write, Cond.instanceMethod yX2_write, Cond.selects RX2 yX2_write yX2_write, Cond.code yX2_write cX2_write 3 none, Cond.methodLink RX2 103 yX2_fractionOf, Cond.instanceMethod yX2_fractionOf, Cond.selects RX2 yX2_fractionOf yX2_fractionOf, Cond.code yX2_fractionOf cX2_fractionOf 2 (some (.object "RealSteps$Real")), Cond.instanceMethod yX1_isNegative, Cond.selects RX1 yX1_isNegative yX1_isNegative, Cond.code yX1_isNegative cX1_isNegative 1 (some .boolean), Cond.constant RX1 19 (32768), Cond.instanceMethod yX1_normalised, Cond.selects RX1 yX1_normalised yX1_normalised, Cond.code yX1_normalised cX1_normalised 1 (some .long), Cond.methodLink RX2 83 yX2_substitute, Cond.static yX2_substitute, Cond.code yX2_substitute cX2_substitute 4 (some (.object "RealSteps$Real")), Cond.constant RX2 34 (65535), Cond.constantLong RX2 170 (-4611686018427387904)]
def wsL_extract_r8 : List Cond := [Cond.methodLink RX2 167 yX2_greaterNoNumber, Cond.static yX2_greaterNoNumber, Cond.code yX2_greaterNoNumber cX2_greaterNoNumber 2 (some (.object "RealSteps$Real"))]
def wsL_extract : List Cond := .codeWith yL_extract cL_extract 6 (some .int) [(0, 12, 15, 19), (0, 12, 19, 13)] :: ((wsL_extract_r1 ++ (wsL_extract_r2 ++ (wsL_extract_r3 ++ (wsL_extract_r4 ++ (wsL_extract_r5 ++ (wsL_extract_r6 ++ (wsL_extract_r7 ++ wsL_extract_r8))))))) ++ wsX20 ++ wsX10 ++ (vx_atS RX2 39 "java/lang/IllegalArgumentException" ["java/lang/RuntimeException", "java/lang/Exception"]).filter goodWord ++ (vx_atS RX2 146 "java/lang/IndexOutOfBoundsException" ["java/lang/RuntimeException", "java/lang/Exception"]).filter goodWord)
def wsL_remainder_r1 : List Cond := [Cond.classLink RL 19 "java/lang/IndexOutOfBoundsException", Cond.methodLink RL 43 yX2_remainder, Cond.instanceMethod yX2_remainder, Cond.selects RX2 yX2_remainder yX2_remainder, Cond.initialized RX2, Cond.code yX2_remainder cX2_remainder 7 (some .int), Cond.fieldLink RX2 106 "RealSteps$Kind" "INFINITE" "LRealSteps$Kind;", Cond.fieldLink RX2 116 "RealSteps$Kind" "UNNORMAL" "LRealSteps$Kind;", Cond.fieldLink RX2 24 "RealSteps" "answered" "Z", Cond.fieldLink RX2 21 "RealSteps" "toldBits" "I", Cond.methodLink RX2 42 yX2_needRegister, Cond.static yX2_needRegister, Cond.code yX2_needRegister cX2_needRegister 1 none, Cond.classLink RX2 142 "java/lang/IndexOutOfBoundsException", Cond.initialized "java/lang/IndexOutOfBoundsException", Cond.methodLink RX2 71 yX2_read, Cond.instanceMethod yX2_read, Cond.selects RX2 yX2_read yX2_read, Cond.code yX2_read cX2_read 2 (some (.object "RealSteps$Real")), Cond.classLink RX2 48 RX1, Cond.instantiable RX1 2, Cond.initialized RX1, Cond.fieldLink RX2 9 "RealSteps" "tops" "[I", Cond.fieldLink RX2 13 "RealSteps" "fractions" "[J"]
def wsL_remainder_r2 : List Cond := [Cond.instanceMethod yX1_init, Cond.code yX1_init cX1_init 4 none, Cond.methodLink RX1 3 objectInit, Cond.instanceMethod objectInit, Cond.code objectInit ⟨#[0xb1]⟩ 1 none, Cond.fieldLink RX1 9 "RealSteps$Real" "top" "I", Cond.fieldLink RX1 15 "RealSteps$Real" "fraction" "J", Cond.instanceMethod yX1_isOf, Cond.selects RX1 yX1_isOf yX1_isOf, Cond.code yX1_isOf cX1_isOf 2 (some .boolean), Cond.methodLink RX1 45 yX1_kind, Cond.instanceMethod yX1_kind, Cond.selects RX1 yX1_kind yX1_kind, Cond.code yX1_kind cX1_kind 2 (some (.object "RealSteps$Kind")), Cond.fieldLink RX1 24 "RealSteps$Kind" "ZERO" "LRealSteps$Kind;", Cond.fieldLink RX1 30 "RealSteps$Kind" "DENORMAL" "LRealSteps$Kind;", Cond.fieldLink RX1 33 "RealSteps$Kind" "INFINITE" "LRealSteps$Kind;", Cond.fieldLink RX1 36 "RealSteps$Kind" "NO_NUMBER" "LRealSteps$Kind;", Cond.fieldLink RX1 39 "RealSteps$Kind" "NORMAL" "LRealSteps$Kind;", Cond.fieldLink RX1 42 "RealSteps$Kind" "UNNORMAL" "LRealSteps$Kind;", Cond.methodLink RX1 20 yX1_power, Cond.instanceMethod yX1_power, Cond.selects RX1 yX1_power yX1_power, Cond.code yX1_power cX1_power 1 (some .int)]
def wsL_remainder_r3 : List Cond := [Cond.instanceMethod yX1_isNought, Cond.selects RX1 yX1_isNought yX1_isNought, Cond.code yX1_isNought cX1_isNought 1 (some .boolean), Cond.methodLink RX2 75 yX2_goesOn, Cond.instanceMethod yX2_goesOn, Cond.selects RX2 yX2_goesOn yX2_goesOn, Cond.code yX2_goesOn cX2_goesOn 5 (some .boolean), Cond.fieldLink RX2 154 "RealSteps$Kind" "NO_NUMBER" "LRealSteps$Kind;", Cond.fieldLink RX2 160 "RealSteps$Kind" "DENORMAL" "LRealSteps$Kind;", Cond.methodLink RX2 157 yX2_tellAtFirst, Cond.instanceMethod yX2_tellAtFirst, Cond.selects RX2 yX2_tellAtFirst yX2_tellAtFirst, Cond.code yX2_tellAtFirst cX2_tellAtFirst 2 none, Cond.methodLink RX2 163 yX2_isMasked, Cond.instanceMethod yX2_isMasked, Cond.selects RX2 yX2_isMasked yX2_isMasked, Cond.code yX2_isMasked cX2_isMasked 2 (some .boolean), Cond.fieldLink RX2 17 "RealSteps" "controlWord" "I", Cond.methodLink RX2 119 yX2_leftOver, Cond.instanceMethod yX2_leftOver, Cond.selects RX2 yX2_leftOver yX2_leftOver, Cond.code yX2_leftOver cX2_leftOver 8 (some (.object "RealSteps$Real")), Cond.fieldLink RX2 28 "RealSteps" "quotientBits" "I", Cond.fieldLink RX2 31 "RealSteps" "partial" "Z"]
def wsL_remainder_r4 : List Cond := [Cond.instanceMethod yX1_isNegative, Cond.selects RX1 yX1_isNegative yX1_isNegative, Cond.code yX1_isNegative cX1_isNegative 1 (some .boolean), Cond.constant RX1 19 (32768), Cond.instanceMethod yX1_exponent, Cond.selects RX1 yX1_exponent yX1_exponent, Cond.code yX1_exponent cX1_exponent 1 (some .int), Cond.methodLink RX1 62 yX1_unit, Cond.instanceMethod yX1_unit, Cond.selects RX1 yX1_unit yX1_unit, Cond.code yX1_unit cX1_unit 1 (some .int), Cond.methodLink RX1 56 Lib.Math.max.name, Cond.static Lib.Math.max.name, Cond.initialized "java/lang/Math", Cond.code Lib.Math.max.name Lib.Math.max.code 2 (some .int), Cond.methodLink RX1 65 yJ13_numberOfLeadingZeros_95d88, Cond.static yJ13_numberOfLeadingZeros_95d88, Cond.initialized RJ13, Cond.code yJ13_numberOfLeadingZeros_95d88 cJ13_numberOfLeadingZeros_95d88 3 (some .int), Cond.methodLink RJ13 308 yJ6_numberOfLeadingZeros_0f7a4, Cond.static yJ6_numberOfLeadingZeros_0f7a4, Cond.initialized RJ6, Cond.code yJ6_numberOfLeadingZeros_0f7a4 cJ6_numberOfLeadingZeros_0f7a4 2 (some .int), Cond.constant RJ6 264 (65536)]
def wsL_remainder_r5 : List Cond := [Cond.methodLink RX2 229 yX2_make, Cond.instanceMethod yX2_make, Cond.selects RX2 yX2_make yX2_make, Cond.code yX2_make cX2_make 9 (some (.object "RealSteps$Real")), Cond.methodLink RX2 126 yX2_zero, Cond.static yX2_zero, Cond.code yX2_zero cX2_zero 1 (some (.object "RealSteps$Real")), Cond.methodLink RX2 178 yX2_signOf, Cond.static yX2_signOf, Cond.code yX2_signOf cX2_signOf 1 (some .int), Cond.constant RX2 62 (32768), Cond.methodLink RX2 184 yJ13_numberOfLeadingZeros_95d88, Cond.methodLink RX2 188 yX2_makeUnder, Cond.instanceMethod yX2_makeUnder, Cond.selects RX2 yX2_makeUnder yX2_makeUnder, Cond.code yX2_makeUnder cX2_makeUnder 8 (some (.object "RealSteps$Real")), Cond.methodLink RX2 195 yX2_normal, Cond.static yX2_normal, Cond.code yX2_normal cX2_normal 4 (some (.object "RealSteps$Real")), Cond.methodLink RX2 198 yX2_isCut, Cond.static yX2_isCut, Cond.code yX2_isCut cX2_isCut 3 (some .boolean), Cond.methodLink RX2 202 yX2_rounded, Cond.instanceMethod yX2_rounded]
def wsL_remainder_r6 : List Cond := [Cond.selects RX2 yX2_rounded yX2_rounded, Cond.code yX2_rounded cX2_rounded 7 (some .long), Cond.methodLink RX2 215 yX2_isRoundedAway, Cond.instanceMethod yX2_isRoundedAway, Cond.selects RX2 yX2_isRoundedAway yX2_isRoundedAway, Cond.code yX2_isRoundedAway cX2_isRoundedAway 7 (some .boolean), Cond.methodLink RX2 206 yX2_rounding, Cond.instanceMethod yX2_rounding, Cond.selects RX2 yX2_rounding yX2_rounding, Cond.code yX2_rounding cX2_rounding 1 (some .int), Cond.methodLink RX2 219 yX2_isNearerAbove, Cond.static yX2_isNearerAbove, Cond.code yX2_isNearerAbove cX2_isNearerAbove 9 (some .boolean), Cond.methodLink RX2 172 yJ13_compareUnsigned_74951, Cond.static yJ13_compareUnsigned_74951, Cond.code yJ13_compareUnsigned_74951 cJ13_compareUnsigned_74951 4 (some .int), Cond.constantLong RJ13 168 (-9223372036854775808), Cond.methodLink RJ13 302 yJ13_compare_74951, Cond.static yJ13_compare_74951, Cond.code yJ13_compare_74951 cJ13_compare_74951 4 (some .int), Cond.methodLink RX2 192 yX2_makeOver, Cond.instanceMethod yX2_makeOver, Cond.selects RX2 yX2_makeOver yX2_makeOver, Cond.code yX2_makeOver cX2_makeOver 6 (some (.object "RealSteps$Real"))]
def wsL_remainder_r7 : List Cond := [Cond.constantLong RX2 210 (-1), Cond.methodLink RX2 212 yX2_infinite, Cond.static yX2_infinite, Cond.code yX2_infinite cX2_infinite 1 (some (.object "RealSteps$Real")), Cond.constantLong RX2 182 (-9223372036854775808), Cond.instanceMethod yX1_normalised, Cond.selects RX1 yX1_normalised yX1_normalised, Cond.code yX1_normalised cX1_normalised 1 (some .long), Cond.methodLink RX2 247 yX2_divide, Cond.instanceMethod yX2_divide, Cond.selects RX2 yX2_divide yX2_divide, Cond.code yX2_divide cX2_divide 11 (some .long), Cond.methodLink RX2 55 yX2_write, Cond.instanceMethod yX2_write, Cond.selects RX2 yX2_write yX2_write, Cond.code yX2_write cX2_write 3 none, Cond.methodLink RX2 83 yX2_substitute, Cond.static yX2_substitute, Cond.code yX2_substitute cX2_substitute 4 (some (.object "RealSteps$Real")), Cond.constant RX2 34 (65535), Cond.constantLong RX2 170 (-4611686018427387904), Cond.methodLink RX2 167 yX2_greaterNoNumber, Cond.static yX2_greaterNoNumber, Cond.code yX2_greaterNoNumber cX2_greaterNoNumber 2 (some (.object "RealSteps$Real"))]
def wsL_remainder : List Cond := .codeWith yL_remainder cL_remainder 6 (some .int) [(0, 12, 15, 19)] :: ((wsL_remainder_r1 ++ (wsL_remainder_r2 ++ (wsL_remainder_r3 ++ (wsL_remainder_r4 ++ (wsL_remainder_r5 ++ (wsL_remainder_r6 ++ wsL_remainder_r7)))))) ++ wsX20 ++ wsX10 ++ (vx_atS RX2 146 "java/lang/IndexOutOfBoundsException" ["java/lang/RuntimeException", "java/lang/Exception"]).filter goodWord)
def wsL_compare_r1 : List Cond := [Cond.classLink RL 19 "java/lang/IndexOutOfBoundsException", Cond.methodLink RL 46 yX2_compare, Cond.instanceMethod yX2_compare, Cond.selects RX2 yX2_compare yX2_compare, Cond.initialized RX2, Cond.code yX2_compare cX2_compare 3 (some .int), Cond.methodLink RX2 42 yX2_needRegister, Cond.static yX2_needRegister, Cond.code yX2_needRegister cX2_needRegister 1 none, Cond.classLink RX2 142 "java/lang/IndexOutOfBoundsException", Cond.initialized "java/lang/IndexOutOfBoundsException", Cond.methodLink RX2 71 yX2_read, Cond.instanceMethod yX2_read, Cond.selects RX2 yX2_read yX2_read, Cond.code yX2_read cX2_read 2 (some (.object "RealSteps$Real")), Cond.classLink RX2 48 RX1, Cond.instantiable RX1 2, Cond.initialized RX1, Cond.fieldLink RX2 9 "RealSteps" "tops" "[I", Cond.fieldLink RX2 13 "RealSteps" "fractions" "[J", Cond.instanceMethod yX1_init, Cond.code yX1_init cX1_init 4 none, Cond.methodLink RX1 3 objectInit, Cond.instanceMethod objectInit]
def wsL_compare_r2 : List Cond := [Cond.code objectInit ⟨#[0xb1]⟩ 1 none, Cond.fieldLink RX1 9 "RealSteps$Real" "top" "I", Cond.fieldLink RX1 15 "RealSteps$Real" "fraction" "J", Cond.methodLink RX2 122 yX2_order, Cond.instanceMethod yX2_order, Cond.selects RX2 yX2_order yX2_order, Cond.code yX2_order cX2_order 7 (some .int), Cond.fieldLink RX2 17 "RealSteps" "controlWord" "I", Cond.fieldLink RX2 106 "RealSteps$Kind" "INFINITE" "LRealSteps$Kind;", Cond.fieldLink RX2 24 "RealSteps" "answered" "Z", Cond.instanceMethod yX1_isOf, Cond.selects RX1 yX1_isOf yX1_isOf, Cond.code yX1_isOf cX1_isOf 2 (some .boolean), Cond.methodLink RX1 45 yX1_kind, Cond.instanceMethod yX1_kind, Cond.selects RX1 yX1_kind yX1_kind, Cond.code yX1_kind cX1_kind 2 (some (.object "RealSteps$Kind")), Cond.fieldLink RX1 24 "RealSteps$Kind" "ZERO" "LRealSteps$Kind;", Cond.fieldLink RX1 30 "RealSteps$Kind" "DENORMAL" "LRealSteps$Kind;", Cond.fieldLink RX1 33 "RealSteps$Kind" "INFINITE" "LRealSteps$Kind;", Cond.fieldLink RX1 36 "RealSteps$Kind" "NO_NUMBER" "LRealSteps$Kind;", Cond.fieldLink RX1 39 "RealSteps$Kind" "NORMAL" "LRealSteps$Kind;", Cond.fieldLink RX1 42 "RealSteps$Kind" "UNNORMAL" "LRealSteps$Kind;", Cond.methodLink RX1 20 yX1_power]
def wsL_compare_r3 : List Cond := [Cond.instanceMethod yX1_power, Cond.selects RX1 yX1_power yX1_power, Cond.code yX1_power cX1_power 1 (some .int), Cond.methodLink RX2 75 yX2_goesOn, Cond.instanceMethod yX2_goesOn, Cond.selects RX2 yX2_goesOn yX2_goesOn, Cond.code yX2_goesOn cX2_goesOn 5 (some .boolean), Cond.fieldLink RX2 21 "RealSteps" "toldBits" "I", Cond.fieldLink RX2 154 "RealSteps$Kind" "NO_NUMBER" "LRealSteps$Kind;", Cond.fieldLink RX2 160 "RealSteps$Kind" "DENORMAL" "LRealSteps$Kind;", Cond.methodLink RX2 157 yX2_tellAtFirst, Cond.instanceMethod yX2_tellAtFirst, Cond.selects RX2 yX2_tellAtFirst yX2_tellAtFirst, Cond.code yX2_tellAtFirst cX2_tellAtFirst 2 none, Cond.methodLink RX2 163 yX2_isMasked, Cond.instanceMethod yX2_isMasked, Cond.selects RX2 yX2_isMasked yX2_isMasked, Cond.code yX2_isMasked cX2_isMasked 2 (some .boolean), Cond.instanceMethod yX1_side, Cond.selects RX1 yX1_side yX1_side, Cond.code yX1_side cX1_side 1 (some .int), Cond.methodLink RX1 49 yX1_isNought, Cond.instanceMethod yX1_isNought, Cond.selects RX1 yX1_isNought yX1_isNought]
def wsL_compare_r4 : List Cond := [Cond.code yX1_isNought cX1_isNought 1 (some .boolean), Cond.methodLink RX1 53 yX1_isNegative, Cond.instanceMethod yX1_isNegative, Cond.selects RX1 yX1_isNegative yX1_isNegative, Cond.code yX1_isNegative cX1_isNegative 1 (some .boolean), Cond.constant RX1 19 (32768), Cond.methodLink RX2 254 yX2_orderOfSizes, Cond.static yX2_orderOfSizes, Cond.code yX2_orderOfSizes cX2_orderOfSizes 3 (some .int), Cond.instanceMethod yX1_exponent, Cond.selects RX1 yX1_exponent yX1_exponent, Cond.code yX1_exponent cX1_exponent 1 (some .int), Cond.methodLink RX1 62 yX1_unit, Cond.instanceMethod yX1_unit, Cond.selects RX1 yX1_unit yX1_unit, Cond.code yX1_unit cX1_unit 1 (some .int), Cond.methodLink RX1 56 Lib.Math.max.name, Cond.static Lib.Math.max.name, Cond.initialized "java/lang/Math", Cond.code Lib.Math.max.name Lib.Math.max.code 2 (some .int), Cond.methodLink RX1 65 yJ13_numberOfLeadingZeros_95d88, Cond.static yJ13_numberOfLeadingZeros_95d88, Cond.initialized RJ13, Cond.code yJ13_numberOfLeadingZeros_95d88 cJ13_numberOfLeadingZeros_95d88 3 (some .int)]
def wsL_compare_r5 : List Cond := [Cond.methodLink RJ13 308 yJ6_numberOfLeadingZeros_0f7a4, Cond.static yJ6_numberOfLeadingZeros_0f7a4, Cond.initialized RJ6, Cond.code yJ6_numberOfLeadingZeros_0f7a4 cJ6_numberOfLeadingZeros_0f7a4 2 (some .int), Cond.constant RJ6 264 (65536), Cond.instanceMethod yX1_normalised, Cond.selects RX1 yX1_normalised yX1_normalised, Cond.code yX1_normalised cX1_normalised 1 (some .long), Cond.methodLink RX2 172 yJ13_compareUnsigned_74951, Cond.static yJ13_compareUnsigned_74951, Cond.code yJ13_compareUnsigned_74951 cJ13_compareUnsigned_74951 4 (some .int), Cond.constantLong RJ13 168 (-9223372036854775808), Cond.methodLink RJ13 302 yJ13_compare_74951, Cond.static yJ13_compare_74951, Cond.code yJ13_compare_74951 cJ13_compare_74951 4 (some .int)]
def wsL_compare : List Cond := .codeWith yL_compare cL_compare 5 (some .int) [(0, 10, 13, 19)] :: ((wsL_compare_r1 ++ (wsL_compare_r2 ++ (wsL_compare_r3 ++ (wsL_compare_r4 ++ wsL_compare_r5)))) ++ wsX10 ++ wsX20 ++ (vx_atS RX2 146 "java/lang/IndexOutOfBoundsException" ["java/lang/RuntimeException", "java/lang/Exception"]).filter goodWord)
def wsL_test_r1 : List Cond := [Cond.classLink RL 19 "java/lang/IndexOutOfBoundsException", Cond.methodLink RL 49 yX2_test, Cond.instanceMethod yX2_test, Cond.selects RX2 yX2_test yX2_test, Cond.initialized RX2, Cond.code yX2_test cX2_test 2 (some .int), Cond.methodLink RX2 42 yX2_needRegister, Cond.static yX2_needRegister, Cond.code yX2_needRegister cX2_needRegister 1 none, Cond.classLink RX2 142 "java/lang/IndexOutOfBoundsException", Cond.initialized "java/lang/IndexOutOfBoundsException", Cond.methodLink RX2 71 yX2_read, Cond.instanceMethod yX2_read, Cond.selects RX2 yX2_read yX2_read, Cond.code yX2_read cX2_read 2 (some (.object "RealSteps$Real")), Cond.classLink RX2 48 RX1, Cond.instantiable RX1 2, Cond.initialized RX1, Cond.fieldLink RX2 9 "RealSteps" "tops" "[I", Cond.fieldLink RX2 13 "RealSteps" "fractions" "[J", Cond.instanceMethod yX1_init, Cond.code yX1_init cX1_init 4 none, Cond.methodLink RX1 3 objectInit, Cond.instanceMethod objectInit]
def wsL_test_r2 : List Cond := [Cond.code objectInit ⟨#[0xb1]⟩ 1 none, Cond.fieldLink RX1 9 "RealSteps$Real" "top" "I", Cond.fieldLink RX1 15 "RealSteps$Real" "fraction" "J", Cond.methodLink RX2 126 yX2_zero, Cond.static yX2_zero, Cond.code yX2_zero cX2_zero 1 (some (.object "RealSteps$Real")), Cond.methodLink RX2 178 yX2_signOf, Cond.static yX2_signOf, Cond.code yX2_signOf cX2_signOf 1 (some .int), Cond.constant RX2 62 (32768), Cond.methodLink RX2 122 yX2_order, Cond.instanceMethod yX2_order, Cond.selects RX2 yX2_order yX2_order, Cond.code yX2_order cX2_order 7 (some .int), Cond.fieldLink RX2 17 "RealSteps" "controlWord" "I", Cond.fieldLink RX2 106 "RealSteps$Kind" "INFINITE" "LRealSteps$Kind;", Cond.fieldLink RX2 24 "RealSteps" "answered" "Z", Cond.instanceMethod yX1_isOf, Cond.selects RX1 yX1_isOf yX1_isOf, Cond.code yX1_isOf cX1_isOf 2 (some .boolean), Cond.methodLink RX1 45 yX1_kind, Cond.instanceMethod yX1_kind, Cond.selects RX1 yX1_kind yX1_kind, Cond.code yX1_kind cX1_kind 2 (some (.object "RealSteps$Kind"))]
def wsL_test_r3 : List Cond := [Cond.fieldLink RX1 24 "RealSteps$Kind" "ZERO" "LRealSteps$Kind;", Cond.fieldLink RX1 30 "RealSteps$Kind" "DENORMAL" "LRealSteps$Kind;", Cond.fieldLink RX1 33 "RealSteps$Kind" "INFINITE" "LRealSteps$Kind;", Cond.fieldLink RX1 36 "RealSteps$Kind" "NO_NUMBER" "LRealSteps$Kind;", Cond.fieldLink RX1 39 "RealSteps$Kind" "NORMAL" "LRealSteps$Kind;", Cond.fieldLink RX1 42 "RealSteps$Kind" "UNNORMAL" "LRealSteps$Kind;", Cond.methodLink RX1 20 yX1_power, Cond.instanceMethod yX1_power, Cond.selects RX1 yX1_power yX1_power, Cond.code yX1_power cX1_power 1 (some .int), Cond.methodLink RX2 75 yX2_goesOn, Cond.instanceMethod yX2_goesOn, Cond.selects RX2 yX2_goesOn yX2_goesOn, Cond.code yX2_goesOn cX2_goesOn 5 (some .boolean), Cond.fieldLink RX2 21 "RealSteps" "toldBits" "I", Cond.fieldLink RX2 154 "RealSteps$Kind" "NO_NUMBER" "LRealSteps$Kind;", Cond.fieldLink RX2 160 "RealSteps$Kind" "DENORMAL" "LRealSteps$Kind;", Cond.methodLink RX2 157 yX2_tellAtFirst, Cond.instanceMethod yX2_tellAtFirst, Cond.selects RX2 yX2_tellAtFirst yX2_tellAtFirst, Cond.code yX2_tellAtFirst cX2_tellAtFirst 2 none, Cond.methodLink RX2 163 yX2_isMasked, Cond.instanceMethod yX2_isMasked, Cond.selects RX2 yX2_isMasked yX2_isMasked]
def wsL_test_r4 : List Cond := [Cond.code yX2_isMasked cX2_isMasked 2 (some .boolean), Cond.instanceMethod yX1_side, Cond.selects RX1 yX1_side yX1_side, Cond.code yX1_side cX1_side 1 (some .int), Cond.methodLink RX1 49 yX1_isNought, Cond.instanceMethod yX1_isNought, Cond.selects RX1 yX1_isNought yX1_isNought, Cond.code yX1_isNought cX1_isNought 1 (some .boolean), Cond.methodLink RX1 53 yX1_isNegative, Cond.instanceMethod yX1_isNegative, Cond.selects RX1 yX1_isNegative yX1_isNegative, Cond.code yX1_isNegative cX1_isNegative 1 (some .boolean), Cond.constant RX1 19 (32768), Cond.methodLink RX2 254 yX2_orderOfSizes, Cond.static yX2_orderOfSizes, Cond.code yX2_orderOfSizes cX2_orderOfSizes 3 (some .int), Cond.instanceMethod yX1_exponent, Cond.selects RX1 yX1_exponent yX1_exponent, Cond.code yX1_exponent cX1_exponent 1 (some .int), Cond.methodLink RX1 62 yX1_unit, Cond.instanceMethod yX1_unit, Cond.selects RX1 yX1_unit yX1_unit, Cond.code yX1_unit cX1_unit 1 (some .int), Cond.methodLink RX1 56 Lib.Math.max.name]
def wsL_test_r5 : List Cond := [Cond.static Lib.Math.max.name, Cond.initialized "java/lang/Math", Cond.code Lib.Math.max.name Lib.Math.max.code 2 (some .int), Cond.methodLink RX1 65 yJ13_numberOfLeadingZeros_95d88, Cond.static yJ13_numberOfLeadingZeros_95d88, Cond.initialized RJ13, Cond.code yJ13_numberOfLeadingZeros_95d88 cJ13_numberOfLeadingZeros_95d88 3 (some .int), Cond.methodLink RJ13 308 yJ6_numberOfLeadingZeros_0f7a4, Cond.static yJ6_numberOfLeadingZeros_0f7a4, Cond.initialized RJ6, Cond.code yJ6_numberOfLeadingZeros_0f7a4 cJ6_numberOfLeadingZeros_0f7a4 2 (some .int), Cond.constant RJ6 264 (65536), Cond.instanceMethod yX1_normalised, Cond.selects RX1 yX1_normalised yX1_normalised, Cond.code yX1_normalised cX1_normalised 1 (some .long), Cond.methodLink RX2 172 yJ13_compareUnsigned_74951, Cond.static yJ13_compareUnsigned_74951, Cond.code yJ13_compareUnsigned_74951 cJ13_compareUnsigned_74951 4 (some .int), Cond.constantLong RJ13 168 (-9223372036854775808), Cond.methodLink RJ13 302 yJ13_compare_74951, Cond.static yJ13_compare_74951, Cond.code yJ13_compare_74951 cJ13_compare_74951 4 (some .int)]
def wsL_test : List Cond := .codeWith yL_test cL_test 4 (some .int) [(0, 9, 12, 19)] :: ((wsL_test_r1 ++ (wsL_test_r2 ++ (wsL_test_r3 ++ (wsL_test_r4 ++ wsL_test_r5)))) ++ wsX10 ++ wsX20 ++ (vx_atS RX2 146 "java/lang/IndexOutOfBoundsException" ["java/lang/RuntimeException", "java/lang/Exception"]).filter goodWord)
def wsL_examine_r1 : List Cond := [Cond.classLink RL 19 "java/lang/IndexOutOfBoundsException", Cond.methodLink RL 53 yX2_examine, Cond.instanceMethod yX2_examine, Cond.selects RX2 yX2_examine yX2_examine, Cond.initialized RX2, Cond.code yX2_examine cX2_examine 3 (some .int), Cond.methodLink RX2 42 yX2_needRegister, Cond.static yX2_needRegister, Cond.code yX2_needRegister cX2_needRegister 1 none, Cond.classLink RX2 142 "java/lang/IndexOutOfBoundsException", Cond.initialized "java/lang/IndexOutOfBoundsException", Cond.methodLink RX2 71 yX2_read, Cond.instanceMethod yX2_read, Cond.selects RX2 yX2_read yX2_read, Cond.code yX2_read cX2_read 2 (some (.object "RealSteps$Real")), Cond.classLink RX2 48 RX1, Cond.instantiable RX1 2, Cond.initialized RX1, Cond.fieldLink RX2 9 "RealSteps" "tops" "[I", Cond.fieldLink RX2 13 "RealSteps" "fractions" "[J", Cond.instanceMethod yX1_init, Cond.code yX1_init cX1_init 4 none, Cond.methodLink RX1 3 objectInit, Cond.instanceMethod objectInit]
def wsL_examine_r2 : List Cond := [Cond.code objectInit ⟨#[0xb1]⟩ 1 none, Cond.fieldLink RX1 9 "RealSteps$Real" "top" "I", Cond.fieldLink RX1 15 "RealSteps$Real" "fraction" "J", Cond.instanceMethod yX1_kind, Cond.selects RX1 yX1_kind yX1_kind, Cond.code yX1_kind cX1_kind 2 (some (.object "RealSteps$Kind")), Cond.fieldLink RX1 24 "RealSteps$Kind" "ZERO" "LRealSteps$Kind;", Cond.fieldLink RX1 30 "RealSteps$Kind" "DENORMAL" "LRealSteps$Kind;", Cond.fieldLink RX1 33 "RealSteps$Kind" "INFINITE" "LRealSteps$Kind;", Cond.fieldLink RX1 36 "RealSteps$Kind" "NO_NUMBER" "LRealSteps$Kind;", Cond.fieldLink RX1 39 "RealSteps$Kind" "NORMAL" "LRealSteps$Kind;", Cond.fieldLink RX1 42 "RealSteps$Kind" "UNNORMAL" "LRealSteps$Kind;", Cond.methodLink RX1 20 yX1_power, Cond.instanceMethod yX1_power, Cond.selects RX1 yX1_power yX1_power, Cond.code yX1_power cX1_power 1 (some .int), Cond.instanceMethod yX1_isNegative, Cond.selects RX1 yX1_isNegative yX1_isNegative, Cond.code yX1_isNegative cX1_isNegative 1 (some .boolean), Cond.constant RX1 19 (32768)]
def wsL_examine : List Cond := .codeWith yL_examine cL_examine 4 (some .int) [(0, 9, 12, 19)] :: ((wsL_examine_r1 ++ wsL_examine_r2) ++ wsX10 ++ wsX20 ++ (vx_atS RX2 146 "java/lang/IndexOutOfBoundsException" ["java/lang/RuntimeException", "java/lang/Exception"]).filter goodWord)
def wsL_told : List Cond := .codeWith yL_told cL_told 4 (some .int) [(0, 9, 12, 13)] :: ([.classLink RL 13 "java/lang/IllegalArgumentException", .methodLink RL 56 yX2_told, .instanceMethod yX2_told, .selects RX2 yX2_told yX2_told, .initialized RX2, .code yX2_told cX2_told 2 (some .int), .classLink RX2 35 "java/lang/IllegalArgumentException", .initialized "java/lang/IllegalArgumentException", .fieldLink RX2 21 "RealSteps" "toldBits" "I", .fieldLink RX2 24 "RealSteps" "answered" "Z", .fieldLink RX2 28 "RealSteps" "quotientBits" "I", .fieldLink RX2 31 "RealSteps" "partial" "Z"] ++ wsX20 ++ (vx_atS RX2 39 "java/lang/IllegalArgumentException" ["java/lang/RuntimeException", "java/lang/Exception"]).filter goodWord)
def wsL_law0_r1 : List Cond := [Cond.classLink RL 8 RX2, Cond.instantiable RX2 7, Cond.initialized RX2, Cond.classLink RL 60 RX3, Cond.instantiable RX3 13, Cond.initialized RX3, Cond.arrayClass .long, Cond.methodLink RL 59 yX2_init, Cond.instanceMethod yX2_init, Cond.code yX2_init cX2_init 1 none, Cond.methodLink RX2 3 objectInit, Cond.instanceMethod objectInit, Cond.code objectInit ⟨#[0xb1]⟩ 1 none, Cond.arrayClass .int, Cond.fieldLink RX2 9 "RealSteps" "tops" "[I", Cond.fieldLink RX2 13 "RealSteps" "fractions" "[J", Cond.fieldLink RX2 17 "RealSteps" "controlWord" "I", Cond.fieldLink RX2 21 "RealSteps" "toldBits" "I", Cond.fieldLink RX2 24 "RealSteps" "answered" "Z", Cond.fieldLink RX2 28 "RealSteps" "quotientBits" "I", Cond.fieldLink RX2 31 "RealSteps" "partial" "Z", Cond.methodLink RL 62 yX3_init, Cond.instanceMethod yX3_init, Cond.code yX3_init cX3_init 1 none]
def wsL_law0_r2 : List Cond := [Cond.methodLink RX3 1 objectInit, Cond.fieldLink RX3 7 "RealStepsModel" "control" "I", Cond.fieldLink RX3 13 "RealStepsModel" "top" "[I", Cond.fieldLink RX3 17 "RealStepsModel" "fraction" "[J", Cond.methodLink RL 63 yL_control, Cond.static yL_control, Cond.initialized RL, Cond.codeWith yL_control cL_control 3 (some .int) [(0, 5, 8, 13)], Cond.classLink RL 13 "java/lang/IllegalArgumentException", Cond.methodLink RL 7 yX2_control, Cond.instanceMethod yX2_control, Cond.selects RX2 yX2_control yX2_control, Cond.code yX2_control cX2_control 2 none, Cond.classLink RX2 35 "java/lang/IllegalArgumentException", Cond.initialized "java/lang/IllegalArgumentException", Cond.constant RX2 34 (65535), Cond.methodLink RL 68 yX3_control, Cond.instanceMethod yX3_control, Cond.selects RX3 yX3_control yX3_control, Cond.code yX3_control cX3_control 2 none, Cond.constant RX3 24 (65535), Cond.fieldLink RX3 21 "RealStepsModel" "code" "I", Cond.methodLink RL 69 yX3_thrown, Cond.instanceMethod yX3_thrown]
def wsL_law0_r3 : List Cond := [Cond.selects RX3 yX3_thrown yX3_thrown, Cond.code yX3_thrown cX3_thrown 1 (some .int), Cond.methodLink RL 73 yL_set, Cond.static yL_set, Cond.codeWith yL_set cL_set 6 (some .int) [(0, 9, 12, 19), (0, 9, 16, 13)], Cond.classLink RL 19 "java/lang/IndexOutOfBoundsException", Cond.methodLink RL 15 yX2_set, Cond.instanceMethod yX2_set, Cond.selects RX2 yX2_set yX2_set, Cond.code yX2_set cX2_set 5 none, Cond.classLink RX2 48 RX1, Cond.instantiable RX1 2, Cond.initialized RX1, Cond.constantLong RX2 50 (4294967295), Cond.methodLink RX2 42 yX2_needRegister, Cond.static yX2_needRegister, Cond.code yX2_needRegister cX2_needRegister 1 none, Cond.classLink RX2 142 "java/lang/IndexOutOfBoundsException", Cond.initialized "java/lang/IndexOutOfBoundsException", Cond.instanceMethod yX1_init, Cond.code yX1_init cX1_init 4 none, Cond.methodLink RX1 3 objectInit, Cond.fieldLink RX1 9 "RealSteps$Real" "top" "I", Cond.fieldLink RX1 15 "RealSteps$Real" "fraction" "J"]
def wsL_law0_r4 : List Cond := [Cond.methodLink RX2 55 yX2_write, Cond.instanceMethod yX2_write, Cond.selects RX2 yX2_write yX2_write, Cond.code yX2_write cX2_write 3 none, Cond.methodLink RL 76 yX3_set, Cond.instanceMethod yX3_set, Cond.selects RX3 yX3_set yX3_set, Cond.code yX3_set cX3_set 5 none, Cond.constantLong RX3 29 (4294967296), Cond.constantLong RX3 31 (4294967295), Cond.methodLink RX3 25 yX3_none, Cond.static yX3_none, Cond.code yX3_none cX3_none 1 (some .boolean), Cond.methodLink RL 77 yL_part, Cond.static yL_part, Cond.codeWith yL_part cL_part 5 (some .int) [(0, 10, 13, 19), (0, 10, 17, 13)], Cond.methodLink RL 21 yX2_part, Cond.instanceMethod yX2_part, Cond.selects RX2 yX2_part yX2_part, Cond.code yX2_part cX2_part 3 (some .int), Cond.methodLink RL 80 yX3_part, Cond.instanceMethod yX3_part, Cond.selects RX3 yX3_part yX3_part, Cond.code yX3_part cX3_part 3 (some .int)]
def wsL_law0_r5 : List Cond := [Cond.methodLink RL 81 yL_turn, Cond.static yL_turn, Cond.codeWith yL_turn cL_turn 4 (some .int) [(0, 6, 9, 19)], Cond.methodLink RL 25 yX2_turn, Cond.instanceMethod yX2_turn, Cond.selects RX2 yX2_turn yX2_turn, Cond.code yX2_turn cX2_turn 3 none, Cond.constant RX2 61 (-32769), Cond.constant RX2 62 (32768), Cond.methodLink RL 84 yX3_turn, Cond.instanceMethod yX3_turn, Cond.selects RX3 yX3_turn yX3_turn, Cond.code yX3_turn cX3_turn 3 none, Cond.constant RX3 33 (32768), Cond.methodLink RL 85 yL_constant, Cond.static yL_constant, Cond.codeWith yL_constant cL_constant 4 (some .int) [(0, 6, 9, 19), (0, 6, 12, 13)], Cond.methodLink RL 29 yX2_constant, Cond.instanceMethod yX2_constant, Cond.selects RX2 yX2_constant yX2_constant, Cond.code yX2_constant cX2_constant 3 none, Cond.fieldLink RX2 63 "RealSteps" "CONSTANT_TOPS" "[I", Cond.fieldLink RX2 66 "RealSteps" "CONSTANT_FRACTIONS" "[J", Cond.methodLink RL 88 yX3_constant]
def wsL_law0_r6 : List Cond := [Cond.instanceMethod yX3_constant, Cond.selects RX3 yX3_constant yX3_constant, Cond.code yX3_constant cX3_constant 3 none, Cond.constantLong RX3 34 (-9223372036854775808), Cond.constantLong RX3 36 (-3127054724296373506), Cond.constantLong RX3 38 (-5140230975865229124), Cond.constantLong RX3 40 (-3958705157555305931), Cond.constantLong RX3 42 (-7340697496662837351), Cond.constantLong RX3 44 (-5660435428506895956), Cond.methodLink RL 89 yL_whole, Cond.static yL_whole, Cond.codeWith yL_whole cL_whole 5 (some .int) [(0, 10, 13, 19)], Cond.methodLink RL 33 yX2_whole, Cond.instanceMethod yX2_whole, Cond.selects RX2 yX2_whole yX2_whole, Cond.code yX2_whole cX2_whole 4 (some .int), Cond.methodLink RX2 71 yX2_read, Cond.instanceMethod yX2_read, Cond.selects RX2 yX2_read yX2_read, Cond.code yX2_read cX2_read 2 (some (.object "RealSteps$Real")), Cond.methodLink RX2 75 yX2_goesOn, Cond.instanceMethod yX2_goesOn, Cond.selects RX2 yX2_goesOn yX2_goesOn, Cond.code yX2_goesOn cX2_goesOn 5 (some .boolean)]
def wsL_law0_r7 : List Cond := [Cond.fieldLink RX2 154 "RealSteps$Kind" "NO_NUMBER" "LRealSteps$Kind;", Cond.fieldLink RX2 160 "RealSteps$Kind" "DENORMAL" "LRealSteps$Kind;", Cond.instanceMethod yX1_isOf, Cond.selects RX1 yX1_isOf yX1_isOf, Cond.code yX1_isOf cX1_isOf 2 (some .boolean), Cond.methodLink RX1 45 yX1_kind, Cond.instanceMethod yX1_kind, Cond.selects RX1 yX1_kind yX1_kind, Cond.code yX1_kind cX1_kind 2 (some (.object "RealSteps$Kind")), Cond.fieldLink RX1 24 "RealSteps$Kind" "ZERO" "LRealSteps$Kind;", Cond.fieldLink RX1 30 "RealSteps$Kind" "DENORMAL" "LRealSteps$Kind;", Cond.fieldLink RX1 33 "RealSteps$Kind" "INFINITE" "LRealSteps$Kind;", Cond.fieldLink RX1 36 "RealSteps$Kind" "NO_NUMBER" "LRealSteps$Kind;", Cond.fieldLink RX1 39 "RealSteps$Kind" "NORMAL" "LRealSteps$Kind;", Cond.fieldLink RX1 42 "RealSteps$Kind" "UNNORMAL" "LRealSteps$Kind;", Cond.methodLink RX1 20 yX1_power, Cond.instanceMethod yX1_power, Cond.selects RX1 yX1_power yX1_power, Cond.code yX1_power cX1_power 1 (some .int), Cond.methodLink RX2 157 yX2_tellAtFirst, Cond.instanceMethod yX2_tellAtFirst, Cond.selects RX2 yX2_tellAtFirst yX2_tellAtFirst, Cond.code yX2_tellAtFirst cX2_tellAtFirst 2 none, Cond.methodLink RX2 163 yX2_isMasked]
def wsL_law0_r8 : List Cond := [Cond.instanceMethod yX2_isMasked, Cond.selects RX2 yX2_isMasked yX2_isMasked, Cond.code yX2_isMasked cX2_isMasked 2 (some .boolean), Cond.methodLink RX2 79 yX2_wholeOf, Cond.instanceMethod yX2_wholeOf, Cond.selects RX2 yX2_wholeOf yX2_wholeOf, Cond.code yX2_wholeOf cX2_wholeOf 6 (some (.object "RealSteps$Real")), Cond.fieldLink RX2 106 "RealSteps$Kind" "INFINITE" "LRealSteps$Kind;", Cond.instanceMethod yX1_isNegative, Cond.selects RX1 yX1_isNegative yX1_isNegative, Cond.code yX1_isNegative cX1_isNegative 1 (some .boolean), Cond.constant RX1 19 (32768), Cond.instanceMethod yX1_exponent, Cond.selects RX1 yX1_exponent yX1_exponent, Cond.code yX1_exponent cX1_exponent 1 (some .int), Cond.methodLink RX1 62 yX1_unit, Cond.instanceMethod yX1_unit, Cond.selects RX1 yX1_unit yX1_unit, Cond.code yX1_unit cX1_unit 1 (some .int), Cond.methodLink RX1 56 Lib.Math.max.name, Cond.static Lib.Math.max.name, Cond.initialized "java/lang/Math", Cond.code Lib.Math.max.name Lib.Math.max.code 2 (some .int), Cond.methodLink RX1 65 yJ13_numberOfLeadingZeros_95d88]
def wsL_law0_r9 : List Cond := [Cond.static yJ13_numberOfLeadingZeros_95d88, Cond.initialized RJ13, Cond.code yJ13_numberOfLeadingZeros_95d88 cJ13_numberOfLeadingZeros_95d88 3 (some .int), Cond.methodLink RJ13 308 yJ6_numberOfLeadingZeros_0f7a4, Cond.static yJ6_numberOfLeadingZeros_0f7a4, Cond.initialized RJ6, Cond.code yJ6_numberOfLeadingZeros_0f7a4 cJ6_numberOfLeadingZeros_0f7a4 2 (some .int), Cond.constant RJ6 264 (65536), Cond.instanceMethod yX1_isNought, Cond.selects RX1 yX1_isNought yX1_isNought, Cond.code yX1_isNought cX1_isNought 1 (some .boolean), Cond.methodLink RX2 229 yX2_make, Cond.instanceMethod yX2_make, Cond.selects RX2 yX2_make yX2_make, Cond.code yX2_make cX2_make 9 (some (.object "RealSteps$Real")), Cond.methodLink RX2 126 yX2_zero, Cond.static yX2_zero, Cond.code yX2_zero cX2_zero 1 (some (.object "RealSteps$Real")), Cond.methodLink RX2 178 yX2_signOf, Cond.static yX2_signOf, Cond.code yX2_signOf cX2_signOf 1 (some .int), Cond.methodLink RX2 184 yJ13_numberOfLeadingZeros_95d88, Cond.methodLink RX2 188 yX2_makeUnder, Cond.instanceMethod yX2_makeUnder]
def wsL_law0_r10 : List Cond := [Cond.selects RX2 yX2_makeUnder yX2_makeUnder, Cond.code yX2_makeUnder cX2_makeUnder 8 (some (.object "RealSteps$Real")), Cond.methodLink RX2 195 yX2_normal, Cond.static yX2_normal, Cond.code yX2_normal cX2_normal 4 (some (.object "RealSteps$Real")), Cond.methodLink RX2 198 yX2_isCut, Cond.static yX2_isCut, Cond.code yX2_isCut cX2_isCut 3 (some .boolean), Cond.methodLink RX2 202 yX2_rounded, Cond.instanceMethod yX2_rounded, Cond.selects RX2 yX2_rounded yX2_rounded, Cond.code yX2_rounded cX2_rounded 7 (some .long), Cond.methodLink RX2 215 yX2_isRoundedAway, Cond.instanceMethod yX2_isRoundedAway, Cond.selects RX2 yX2_isRoundedAway yX2_isRoundedAway, Cond.code yX2_isRoundedAway cX2_isRoundedAway 7 (some .boolean), Cond.methodLink RX2 206 yX2_rounding, Cond.instanceMethod yX2_rounding, Cond.selects RX2 yX2_rounding yX2_rounding, Cond.code yX2_rounding cX2_rounding 1 (some .int), Cond.methodLink RX2 219 yX2_isNearerAbove, Cond.static yX2_isNearerAbove, Cond.code yX2_isNearerAbove cX2_isNearerAbove 9 (some .boolean), Cond.methodLink RX2 172 yJ13_compareUnsigned_74951]
def wsL_law0_r11 : List Cond := [Cond.static yJ13_compareUnsigned_74951, Cond.code yJ13_compareUnsigned_74951 cJ13_compareUnsigned_74951 4 (some .int), Cond.constantLong RJ13 168 (-9223372036854775808), Cond.methodLink RJ13 302 yJ13_compare_74951, Cond.static yJ13_compare_74951, Cond.code yJ13_compare_74951 cJ13_compare_74951 4 (some .int), Cond.methodLink RX2 192 yX2_makeOver, Cond.instanceMethod yX2_makeOver, Cond.selects RX2 yX2_makeOver yX2_makeOver, Cond.code yX2_makeOver cX2_makeOver 6 (some (.object "RealSteps$Real")), Cond.constantLong RX2 210 (-1), Cond.methodLink RX2 212 yX2_infinite, Cond.static yX2_infinite, Cond.code yX2_infinite cX2_infinite 1 (some (.object "RealSteps$Real")), Cond.constantLong RX2 182 (-9223372036854775808), Cond.instanceMethod yX1_normalised, Cond.selects RX1 yX1_normalised yX1_normalised, Cond.code yX1_normalised cX1_normalised 1 (some .long), Cond.methodLink RX2 83 yX2_substitute, Cond.static yX2_substitute, Cond.code yX2_substitute cX2_substitute 4 (some (.object "RealSteps$Real")), Cond.constantLong RX2 170 (-4611686018427387904), Cond.methodLink RX2 167 yX2_greaterNoNumber, Cond.static yX2_greaterNoNumber]
def wsL_law0_r12 : List Cond := [Cond.code yX2_greaterNoNumber cX2_greaterNoNumber 2 (some (.object "RealSteps$Real")), Cond.methodLink RL 91 yX3_whole, Cond.instanceMethod yX3_whole, Cond.selects RX3 yX3_whole yX3_whole, Cond.code yX3_whole cX3_whole 5 (some .int), Cond.fieldLink RX3 98 "RealStepsModel" "lost" "Z", Cond.fieldLink RX3 72 "RealStepsModel" "told" "I", Cond.methodLink RX3 111 yX3_begin, Cond.instanceMethod yX3_begin, Cond.selects RX3 yX3_begin yX3_begin, Cond.code yX3_begin cX3_begin 1 none, Cond.fieldLink RX3 68 "RealStepsModel" "answered" "Z", Cond.methodLink RX3 114 yX3_goesOn, Cond.instanceMethod yX3_goesOn, Cond.selects RX3 yX3_goesOn yX3_goesOn, Cond.code yX3_goesOn cX3_goesOn 7 (some .boolean), Cond.constantLong RX3 92 (-4611686018427387904), Cond.methodLink RX3 46 yX3_kind, Cond.instanceMethod yX3_kind, Cond.selects RX3 yX3_kind yX3_kind, Cond.code yX3_kind cX3_kind 4 (some .int), Cond.methodLink RX3 78 yX3_lessSize, Cond.static yX3_lessSize, Cond.code yX3_lessSize cX3_lessSize 4 (some .boolean)]
def wsL_law0_r13 : List Cond := [Cond.methodLink RX3 82 yX3_minus, Cond.instanceMethod yX3_minus, Cond.selects RX3 yX3_minus yX3_minus, Cond.code yX3_minus cX3_minus 2 (some .boolean), Cond.methodLink RX3 85 yX3_tell, Cond.instanceMethod yX3_tell, Cond.selects RX3 yX3_tell yX3_tell, Cond.code yX3_tell cX3_tell 2 (some .boolean), Cond.methodLink RX3 75 yX3_masked, Cond.instanceMethod yX3_masked, Cond.selects RX3 yX3_masked yX3_masked, Cond.code yX3_masked cX3_masked 2 (some .boolean), Cond.methodLink RX3 88 yX3_answer, Cond.instanceMethod yX3_answer, Cond.selects RX3 yX3_answer yX3_answer, Cond.code yX3_answer cX3_answer 4 none, Cond.fieldLink RX3 62 "RealStepsModel" "answerTop" "I", Cond.fieldLink RX3 65 "RealStepsModel" "answerFraction" "J", Cond.methodLink RX3 54 yX3_unit, Cond.instanceMethod yX3_unit, Cond.selects RX3 yX3_unit yX3_unit, Cond.code yX3_unit cX3_unit 2 (some .int), Cond.methodLink RX3 118 yX3_make, Cond.instanceMethod yX3_make]
def wsL_law0_r14 : List Cond := [Cond.selects RX3 yX3_make yX3_make, Cond.code yX3_make cX3_make 13 none, Cond.constantLong RX3 60 (2), Cond.constantLong RX3 109 (-1), Cond.methodLink RX3 105 yX3_rounded, Cond.instanceMethod yX3_rounded, Cond.selects RX3 yX3_rounded yX3_rounded, Cond.code yX3_rounded cX3_rounded 10 (some .long), Cond.constantLong RX3 96 (9223372036854775807), Cond.methodLink RX3 101 yX3_way, Cond.instanceMethod yX3_way, Cond.selects RX3 yX3_way yX3_way, Cond.code yX3_way cX3_way 1 (some .int), Cond.methodLink RX3 122 yX3_keep, Cond.instanceMethod yX3_keep, Cond.selects RX3 yX3_keep yX3_keep, Cond.code yX3_keep cX3_keep 2 none, Cond.methodLink RL 92 yL_scale, Cond.static yL_scale, Cond.codeWith yL_scale cL_scale 6 (some .int) [(0, 12, 15, 19)], Cond.methodLink RL 36 yX2_scale, Cond.instanceMethod yX2_scale, Cond.selects RX2 yX2_scale yX2_scale, Cond.code yX2_scale cX2_scale 6 (some .int)]
def wsL_law0_r15 : List Cond := [Cond.methodLink RX2 87 yX2_isBeyondScale, Cond.static yX2_isBeyondScale, Cond.code yX2_isBeyondScale cX2_isBeyondScale 1 (some .boolean), Cond.methodLink RX2 91 yX2_scaled, Cond.instanceMethod yX2_scaled, Cond.selects RX2 yX2_scaled yX2_scaled, Cond.code yX2_scaled cX2_scaled 3 (some (.object "RealSteps$Real")), Cond.methodLink RX2 237 yX2_cutOff, Cond.static yX2_cutOff, Cond.code yX2_cutOff cX2_cutOff 3 (some .int), Cond.methodLink RL 95 yX3_scale, Cond.instanceMethod yX3_scale, Cond.selects RX3 yX3_scale yX3_scale, Cond.code yX3_scale cX3_scale 7 (some .int), Cond.fieldLink RX3 57 "RealStepsModel" "first" "I", Cond.fieldLink RX3 50 "RealStepsModel" "digits" "J", Cond.methodLink RX3 126 yX3_nothing, Cond.instanceMethod yX3_nothing, Cond.selects RX3 yX3_nothing yX3_nothing, Cond.code yX3_nothing cX3_nothing 2 (some .boolean), Cond.methodLink RX3 129 yX3_apart, Cond.instanceMethod yX3_apart, Cond.selects RX3 yX3_apart yX3_apart, Cond.code yX3_apart cX3_apart 2 none]
def wsL_law0_r16 : List Cond := [Cond.methodLink RL 96 yL_extract, Cond.static yL_extract, Cond.codeWith yL_extract cL_extract 6 (some .int) [(0, 12, 15, 19), (0, 12, 19, 13)], Cond.methodLink RL 40 yX2_extract, Cond.instanceMethod yX2_extract, Cond.selects RX2 yX2_extract yX2_extract, Cond.code yX2_extract cX2_extract 5 (some .int), Cond.methodLink RX2 100 yX2_powerOf, Cond.instanceMethod yX2_powerOf, Cond.selects RX2 yX2_powerOf yX2_powerOf, Cond.code yX2_powerOf cX2_powerOf 3 (some (.object "RealSteps$Real")), Cond.methodLink RX2 241 Lib.Math.abs.name, Cond.static Lib.Math.abs.name, Cond.code Lib.Math.abs.name Lib.Math.abs.code 1 (some .int), Cond.methodLink RX2 103 yX2_fractionOf, Cond.instanceMethod yX2_fractionOf, Cond.selects RX2 yX2_fractionOf yX2_fractionOf, Cond.code yX2_fractionOf cX2_fractionOf 2 (some (.object "RealSteps$Real")), Cond.methodLink RL 98 yX3_extract, Cond.instanceMethod yX3_extract, Cond.selects RX3 yX3_extract yX3_extract, Cond.code yX3_extract cX3_extract 10 (some .int), Cond.methodLink RL 99 yL_remainder, Cond.static yL_remainder]
def wsL_law0_r17 : List Cond := [Cond.codeWith yL_remainder cL_remainder 6 (some .int) [(0, 12, 15, 19)], Cond.methodLink RL 43 yX2_remainder, Cond.instanceMethod yX2_remainder, Cond.selects RX2 yX2_remainder yX2_remainder, Cond.code yX2_remainder cX2_remainder 7 (some .int), Cond.fieldLink RX2 116 "RealSteps$Kind" "UNNORMAL" "LRealSteps$Kind;", Cond.methodLink RX2 119 yX2_leftOver, Cond.instanceMethod yX2_leftOver, Cond.selects RX2 yX2_leftOver yX2_leftOver, Cond.code yX2_leftOver cX2_leftOver 8 (some (.object "RealSteps$Real")), Cond.methodLink RX2 247 yX2_divide, Cond.instanceMethod yX2_divide, Cond.selects RX2 yX2_divide yX2_divide, Cond.code yX2_divide cX2_divide 11 (some .long), Cond.methodLink RL 101 yX3_remainder, Cond.instanceMethod yX3_remainder, Cond.selects RX3 yX3_remainder yX3_remainder, Cond.code yX3_remainder cX3_remainder 4 (some .int), Cond.methodLink RX3 132 yX3_divide, Cond.instanceMethod yX3_divide, Cond.selects RX3 yX3_divide yX3_divide, Cond.code yX3_divide cX3_divide 12 none, Cond.fieldLink RX3 136 "RealStepsModel" "quotient" "I", Cond.fieldLink RX3 139 "RealStepsModel" "partial" "Z"]
def wsL_law0_r18 : List Cond := [Cond.methodLink RL 102 yL_compare, Cond.static yL_compare, Cond.codeWith yL_compare cL_compare 5 (some .int) [(0, 10, 13, 19)], Cond.methodLink RL 46 yX2_compare, Cond.instanceMethod yX2_compare, Cond.selects RX2 yX2_compare yX2_compare, Cond.code yX2_compare cX2_compare 3 (some .int), Cond.methodLink RX2 122 yX2_order, Cond.instanceMethod yX2_order, Cond.selects RX2 yX2_order yX2_order, Cond.code yX2_order cX2_order 7 (some .int), Cond.instanceMethod yX1_side, Cond.selects RX1 yX1_side yX1_side, Cond.code yX1_side cX1_side 1 (some .int), Cond.methodLink RX1 49 yX1_isNought, Cond.methodLink RX1 53 yX1_isNegative, Cond.methodLink RX2 254 yX2_orderOfSizes, Cond.static yX2_orderOfSizes, Cond.code yX2_orderOfSizes cX2_orderOfSizes 3 (some .int), Cond.methodLink RL 104 yX3_compare, Cond.instanceMethod yX3_compare, Cond.selects RX3 yX3_compare yX3_compare, Cond.code yX3_compare cX3_compare 3 (some .int), Cond.methodLink RX3 146 yX3_compared]
def wsL_law0_r19 : List Cond := [Cond.instanceMethod yX3_compared, Cond.selects RX3 yX3_compared yX3_compared, Cond.code yX3_compared cX3_compared 6 (some .int), Cond.methodLink RX3 142 yX3_order, Cond.instanceMethod yX3_order, Cond.selects RX3 yX3_order yX3_order, Cond.code yX3_order cX3_order 11 (some .int), Cond.methodLink RL 105 yL_test, Cond.static yL_test, Cond.codeWith yL_test cL_test 4 (some .int) [(0, 9, 12, 19)], Cond.methodLink RL 49 yX2_test, Cond.instanceMethod yX2_test, Cond.selects RX2 yX2_test yX2_test, Cond.code yX2_test cX2_test 2 (some .int), Cond.methodLink RL 108 yX3_test, Cond.instanceMethod yX3_test, Cond.selects RX3 yX3_test yX3_test, Cond.code yX3_test cX3_test 2 (some .int), Cond.methodLink RL 109 yL_examine, Cond.static yL_examine, Cond.codeWith yL_examine cL_examine 4 (some .int) [(0, 9, 12, 19)], Cond.methodLink RL 53 yX2_examine, Cond.instanceMethod yX2_examine, Cond.selects RX2 yX2_examine yX2_examine]
def wsL_law0_r20 : List Cond := [Cond.code yX2_examine cX2_examine 3 (some .int), Cond.methodLink RL 111 yX3_examine, Cond.instanceMethod yX3_examine, Cond.selects RX3 yX3_examine yX3_examine, Cond.code yX3_examine cX3_examine 4 (some .int), Cond.methodLink RL 112 yL_told, Cond.static yL_told, Cond.codeWith yL_told cL_told 4 (some .int) [(0, 9, 12, 13)], Cond.methodLink RL 56 yX2_told, Cond.instanceMethod yX2_told, Cond.selects RX2 yX2_told yX2_told, Cond.code yX2_told cX2_told 2 (some .int), Cond.methodLink RL 114 yX3_told, Cond.instanceMethod yX3_told, Cond.selects RX3 yX3_told yX3_told, Cond.code yX3_told cX3_told 2 (some .int)]
def wsL_law0 : List Cond := (wsL_law0_r1 ++ (wsL_law0_r2 ++ (wsL_law0_r3 ++ (wsL_law0_r4 ++ (wsL_law0_r5 ++ (wsL_law0_r6 ++ (wsL_law0_r7 ++ (wsL_law0_r8 ++ (wsL_law0_r9 ++ (wsL_law0_r10 ++ (wsL_law0_r11 ++ (wsL_law0_r12 ++ (wsL_law0_r13 ++ (wsL_law0_r14 ++ (wsL_law0_r15 ++ (wsL_law0_r16 ++ (wsL_law0_r17 ++ (wsL_law0_r18 ++ (wsL_law0_r19 ++ wsL_law0_r20))))))))))))))))))) ++ wsX20 ++ wsX30 ++ wsX10 ++ ([] : List Cond)
def wsL_law : List Cond := wsL_law0 ++ (vx_atS RX2 39 "java/lang/IllegalArgumentException" ["java/lang/RuntimeException", "java/lang/Exception"]).filter goodWord ++ (vx_atS RX2 146 "java/lang/IndexOutOfBoundsException" ["java/lang/RuntimeException", "java/lang/Exception"]).filter goodWord
abbrev vwCl : List vw_C := [(RX1, TX1, 2), (RX2, TX2, 7), (RX3, TX3, 13)]
end
section
theorem dX1_init_0 : decode cX1_init 0 = .ok (.aload_n 0, 1) := by decide +kernel
theorem dX1_init_1 : decode cX1_init 1 = .ok (.invokespecial 3, 3) := by decide +kernel
theorem dX1_init_4 : decode cX1_init 4 = .ok (.aload_n 0, 1) := by decide +kernel
theorem dX1_init_5 : decode cX1_init 5 = .ok (.iload_n 1, 1) := by decide +kernel
theorem dX1_init_6 : decode cX1_init 6 = .ok (.putfield 9, 3) := by decide +kernel
theorem dX1_init_9 : decode cX1_init 9 = .ok (.aload_n 0, 1) := by decide +kernel
theorem dX1_init_10 : decode cX1_init 10 = .ok (.lload_n 2, 1) := by decide +kernel
theorem dX1_init_11 : decode cX1_init 11 = .ok (.putfield 15, 3) := by decide +kernel
theorem dX1_init_14 : decode cX1_init 14 = .ok (.return_, 1) := by decide +kernel
theorem dX1_isNegative_0 : decode cX1_isNegative 0 = .ok (.aload_n 0, 1) := by decide +kernel
theorem dX1_isNegative_1 : decode cX1_isNegative 1 = .ok (.getfield 9, 3) := by decide +kernel
theorem dX1_isNegative_4 : decode cX1_isNegative 4 = .ok (.ldc 19, 2) := by decide +kernel
theorem dX1_isNegative_6 : decode cX1_isNegative 6 = .ok (.iand, 1) := by decide +kernel
theorem dX1_isNegative_7 : decode cX1_isNegative 7 = .ok (.ifCond .eq 7, 3) := by decide +kernel
theorem dX1_isNegative_10 : decode cX1_isNegative 10 = .ok (.iconst 1, 1) := by decide +kernel
theorem dX1_isNegative_11 : decode cX1_isNegative 11 = .ok (.goto 4, 3) := by decide +kernel
theorem dX1_isNegative_14 : decode cX1_isNegative 14 = .ok (.iconst 0, 1) := by decide +kernel
theorem dX1_isNegative_15 : decode cX1_isNegative 15 = .ok (.ireturn, 1) := by decide +kernel
theorem dX1_power_0 : decode cX1_power 0 = .ok (.aload_n 0, 1) := by decide +kernel
theorem dX1_power_1 : decode cX1_power 1 = .ok (.getfield 9, 3) := by decide +kernel
theorem dX1_power_4 : decode cX1_power 4 = .ok (.sipush 32767, 3) := by decide +kernel
theorem dX1_power_7 : decode cX1_power 7 = .ok (.iand, 1) := by decide +kernel
theorem dX1_power_8 : decode cX1_power 8 = .ok (.ireturn, 1) := by decide +kernel
set_option maxRecDepth 20000 in
theorem ggX1_kind_X1_power : GoodIn wsX1_kind wsX1_power := goodIn_r _ [12, 13, 14, 15] (by decide +kernel) (by decide +kernel)
set_option maxRecDepth 20000 in
theorem gX1_kind_X1_power : GoodIn wsX1_kind (wsV RX1 20 RX1 yX1_power wsX1_power) := goodIn_app (goodIn_of _ (by decide +kernel)) ggX1_kind_X1_power
theorem dX1_kind_0 : decode cX1_kind 0 = .ok (.aload_n 0, 1) := by decide +kernel
theorem dX1_kind_1 : decode cX1_kind 1 = .ok (.invokevirtual 20, 3) := by decide +kernel
theorem dX1_kind_4 : decode cX1_kind 4 = .ok (.istore_n 1, 1) := by decide +kernel
theorem dX1_kind_5 : decode cX1_kind 5 = .ok (.iload_n 1, 1) := by decide +kernel
theorem dX1_kind_6 : decode cX1_kind 6 = .ok (.ifCond .ne 22, 3) := by decide +kernel
theorem dX1_kind_9 : decode cX1_kind 9 = .ok (.aload_n 0, 1) := by decide +kernel
theorem dX1_kind_10 : decode cX1_kind 10 = .ok (.getfield 15, 3) := by decide +kernel
theorem dX1_kind_13 : decode cX1_kind 13 = .ok (.lconst 0, 1) := by decide +kernel
theorem dX1_kind_14 : decode cX1_kind 14 = .ok (.lcmp, 1) := by decide +kernel
theorem dX1_kind_15 : decode cX1_kind 15 = .ok (.ifCond .ne 9, 3) := by decide +kernel
theorem dX1_kind_18 : decode cX1_kind 18 = .ok (.getstatic 24, 3) := by decide +kernel
theorem dX1_kind_21 : decode cX1_kind 21 = .ok (.goto 6, 3) := by decide +kernel
theorem dX1_kind_24 : decode cX1_kind 24 = .ok (.getstatic 30, 3) := by decide +kernel
theorem dX1_kind_27 : decode cX1_kind 27 = .ok (.areturn, 1) := by decide +kernel
theorem dX1_kind_28 : decode cX1_kind 28 = .ok (.iload_n 1, 1) := by decide +kernel
theorem dX1_kind_29 : decode cX1_kind 29 = .ok (.sipush 32767, 3) := by decide +kernel
theorem dX1_kind_32 : decode cX1_kind 32 = .ok (.if_icmp .ne 24, 3) := by decide +kernel
theorem dX1_kind_35 : decode cX1_kind 35 = .ok (.aload_n 0, 1) := by decide +kernel
theorem dX1_kind_36 : decode cX1_kind 36 = .ok (.getfield 15, 3) := by decide +kernel
theorem dX1_kind_39 : decode cX1_kind 39 = .ok (.iconst 1, 1) := by decide +kernel
theorem dX1_kind_40 : decode cX1_kind 40 = .ok (.lshl, 1) := by decide +kernel
theorem dX1_kind_41 : decode cX1_kind 41 = .ok (.lconst 0, 1) := by decide +kernel
theorem dX1_kind_42 : decode cX1_kind 42 = .ok (.lcmp, 1) := by decide +kernel
theorem dX1_kind_43 : decode cX1_kind 43 = .ok (.ifCond .ne 9, 3) := by decide +kernel
theorem dX1_kind_46 : decode cX1_kind 46 = .ok (.getstatic 33, 3) := by decide +kernel
theorem dX1_kind_49 : decode cX1_kind 49 = .ok (.goto 6, 3) := by decide +kernel
theorem dX1_kind_52 : decode cX1_kind 52 = .ok (.getstatic 36, 3) := by decide +kernel
theorem dX1_kind_55 : decode cX1_kind 55 = .ok (.areturn, 1) := by decide +kernel
theorem dX1_kind_56 : decode cX1_kind 56 = .ok (.aload_n 0, 1) := by decide +kernel
theorem dX1_kind_57 : decode cX1_kind 57 = .ok (.getfield 15, 3) := by decide +kernel
theorem dX1_kind_60 : decode cX1_kind 60 = .ok (.lconst 0, 1) := by decide +kernel
theorem dX1_kind_61 : decode cX1_kind 61 = .ok (.lcmp, 1) := by decide +kernel
theorem dX1_kind_62 : decode cX1_kind 62 = .ok (.ifCond .ge 9, 3) := by decide +kernel
theorem dX1_kind_65 : decode cX1_kind 65 = .ok (.getstatic 39, 3) := by decide +kernel
theorem dX1_kind_68 : decode cX1_kind 68 = .ok (.goto 6, 3) := by decide +kernel
theorem dX1_kind_71 : decode cX1_kind 71 = .ok (.getstatic 42, 3) := by decide +kernel
theorem dX1_kind_74 : decode cX1_kind 74 = .ok (.areturn, 1) := by decide +kernel
set_option maxRecDepth 20000 in
theorem ggX1_isOf_X1_kind : GoodIn wsX1_isOf wsX1_kind := goodIn_r _ [5, 6, 7, 8, 9, 10, 11, 12, 13, 14, 15, 4, 16, 17, 18, 19] (by decide +kernel) (by decide +kernel)
set_option maxRecDepth 20000 in
theorem gX1_isOf_X1_kind : GoodIn wsX1_isOf (wsV RX1 45 RX1 yX1_kind wsX1_kind) := goodIn_app (goodIn_of _ (by decide +kernel)) ggX1_isOf_X1_kind
theorem dX1_isOf_0 : decode cX1_isOf 0 = .ok (.aload_n 0, 1) := by decide +kernel
theorem dX1_isOf_1 : decode cX1_isOf 1 = .ok (.invokevirtual 45, 3) := by decide +kernel
theorem dX1_isOf_4 : decode cX1_isOf 4 = .ok (.aload_n 1, 1) := by decide +kernel
theorem dX1_isOf_5 : decode cX1_isOf 5 = .ok (.if_acmp .ne 7, 3) := by decide +kernel
theorem dX1_isOf_8 : decode cX1_isOf 8 = .ok (.iconst 1, 1) := by decide +kernel
theorem dX1_isOf_9 : decode cX1_isOf 9 = .ok (.goto 4, 3) := by decide +kernel
theorem dX1_isOf_12 : decode cX1_isOf 12 = .ok (.iconst 0, 1) := by decide +kernel
theorem dX1_isOf_13 : decode cX1_isOf 13 = .ok (.ireturn, 1) := by decide +kernel
set_option maxRecDepth 20000 in
theorem ggX1_isNought_X1_power : GoodIn wsX1_isNought wsX1_power := goodIn_r _ [6, 7, 8, 9] (by decide +kernel) (by decide +kernel)
set_option maxRecDepth 20000 in
theorem gX1_isNought_X1_power : GoodIn wsX1_isNought (wsV RX1 20 RX1 yX1_power wsX1_power) := goodIn_app (goodIn_of _ (by decide +kernel)) ggX1_isNought_X1_power
theorem dX1_isNought_0 : decode cX1_isNought 0 = .ok (.aload_n 0, 1) := by decide +kernel
theorem dX1_isNought_1 : decode cX1_isNought 1 = .ok (.getfield 15, 3) := by decide +kernel
theorem dX1_isNought_4 : decode cX1_isNought 4 = .ok (.lconst 0, 1) := by decide +kernel
theorem dX1_isNought_5 : decode cX1_isNought 5 = .ok (.lcmp, 1) := by decide +kernel
theorem dX1_isNought_6 : decode cX1_isNought 6 = .ok (.ifCond .ne 17, 3) := by decide +kernel
theorem dX1_isNought_9 : decode cX1_isNought 9 = .ok (.aload_n 0, 1) := by decide +kernel
theorem dX1_isNought_10 : decode cX1_isNought 10 = .ok (.invokevirtual 20, 3) := by decide +kernel
theorem dX1_isNought_13 : decode cX1_isNought 13 = .ok (.sipush 32767, 3) := by decide +kernel
theorem dX1_isNought_16 : decode cX1_isNought 16 = .ok (.if_icmp .eq 7, 3) := by decide +kernel
theorem dX1_isNought_19 : decode cX1_isNought 19 = .ok (.iconst 1, 1) := by decide +kernel
theorem dX1_isNought_20 : decode cX1_isNought 20 = .ok (.goto 4, 3) := by decide +kernel
theorem dX1_isNought_23 : decode cX1_isNought 23 = .ok (.iconst 0, 1) := by decide +kernel
theorem dX1_isNought_24 : decode cX1_isNought 24 = .ok (.ireturn, 1) := by decide +kernel
set_option maxRecDepth 20000 in
theorem ggX1_side_X1_isNought : GoodIn wsX1_side wsX1_isNought := goodIn_r _ [5, 6, 7, 8, 9, 4, 10, 11, 17, 18] (by decide +kernel) (by decide +kernel)
set_option maxRecDepth 20000 in
theorem gX1_side_X1_isNought : GoodIn wsX1_side (wsV RX1 49 RX1 yX1_isNought wsX1_isNought) := goodIn_app (goodIn_of _ (by decide +kernel)) ggX1_side_X1_isNought
set_option maxRecDepth 20000 in
theorem ggX1_side_X1_isNegative : GoodIn wsX1_side wsX1_isNegative := goodIn_r _ [15, 11, 16, 17, 18] (by decide +kernel) (by decide +kernel)
set_option maxRecDepth 20000 in
theorem gX1_side_X1_isNegative : GoodIn wsX1_side (wsV RX1 53 RX1 yX1_isNegative wsX1_isNegative) := goodIn_app (goodIn_of _ (by decide +kernel)) ggX1_side_X1_isNegative
theorem dX1_side_0 : decode cX1_side 0 = .ok (.aload_n 0, 1) := by decide +kernel
theorem dX1_side_1 : decode cX1_side 1 = .ok (.invokevirtual 49, 3) := by decide +kernel
theorem dX1_side_4 : decode cX1_side 4 = .ok (.ifCond .eq 5, 3) := by decide +kernel
theorem dX1_side_7 : decode cX1_side 7 = .ok (.iconst 0, 1) := by decide +kernel
theorem dX1_side_8 : decode cX1_side 8 = .ok (.ireturn, 1) := by decide +kernel
theorem dX1_side_9 : decode cX1_side 9 = .ok (.aload_n 0, 1) := by decide +kernel
theorem dX1_side_10 : decode cX1_side 10 = .ok (.invokevirtual 53, 3) := by decide +kernel
theorem dX1_side_13 : decode cX1_side 13 = .ok (.ifCond .eq 7, 3) := by decide +kernel
theorem dX1_side_16 : decode cX1_side 16 = .ok (.iconst (-1), 1) := by decide +kernel
theorem dX1_side_17 : decode cX1_side 17 = .ok (.goto 4, 3) := by decide +kernel
theorem dX1_side_20 : decode cX1_side 20 = .ok (.iconst 1, 1) := by decide +kernel
theorem dX1_side_21 : decode cX1_side 21 = .ok (.ireturn, 1) := by decide +kernel
set_option maxRecDepth 20000 in
theorem ggX1_unit_X1_power : GoodIn wsX1_unit wsX1_power := goodIn_r _ [9, 10, 11, 12] (by decide +kernel) (by decide +kernel)
set_option maxRecDepth 20000 in
theorem gX1_unit_X1_power : GoodIn wsX1_unit (wsV RX1 20 RX1 yX1_power wsX1_power) := goodIn_app (goodIn_of _ (by decide +kernel)) ggX1_unit_X1_power
theorem dX1_unit_0 : decode cX1_unit 0 = .ok (.aload_n 0, 1) := by decide +kernel
theorem dX1_unit_1 : decode cX1_unit 1 = .ok (.invokevirtual 20, 3) := by decide +kernel
theorem dX1_unit_4 : decode cX1_unit 4 = .ok (.iconst 1, 1) := by decide +kernel
theorem dX1_unit_5 : decode cX1_unit 5 = .ok (.invokestatic 56, 3) := by decide +kernel
theorem dX1_unit_8 : decode cX1_unit 8 = .ok (.sipush 16446, 3) := by decide +kernel
theorem dX1_unit_11 : decode cX1_unit 11 = .ok (.isub, 1) := by decide +kernel
theorem dX1_unit_12 : decode cX1_unit 12 = .ok (.ireturn, 1) := by decide +kernel
set_option maxRecDepth 20000 in
theorem ggX1_exponent_X1_unit : GoodIn wsX1_exponent wsX1_unit := goodIn_r _ [6, 7, 8, 9, 10, 11, 12, 13, 5, 14, 15, 25, 26] (by decide +kernel) (by decide +kernel)
set_option maxRecDepth 20000 in
theorem gX1_exponent_X1_unit : GoodIn wsX1_exponent (wsV RX1 62 RX1 yX1_unit wsX1_unit) := goodIn_app (goodIn_of _ (by decide +kernel)) ggX1_exponent_X1_unit
set_option maxRecDepth 20000 in
theorem ggX1_exponent_J13_numberOfLeadingZeros_95d88 : GoodIn wsX1_exponent wsJ13_numberOfLeadingZeros_95d88 := goodIn_r _ [19, 20, 21, 22, 23, 24] (by decide +kernel) (by decide +kernel)
set_option maxRecDepth 20000 in
theorem gX1_exponent_J13_numberOfLeadingZeros_95d88 : GoodIn wsX1_exponent (va_wsS RX1 65 yJ13_numberOfLeadingZeros_95d88 wsJ13_numberOfLeadingZeros_95d88) := goodIn_app (goodIn_of _ (by decide +kernel)) ggX1_exponent_J13_numberOfLeadingZeros_95d88
theorem dX1_exponent_0 : decode cX1_exponent 0 = .ok (.aload_n 0, 1) := by decide +kernel
theorem dX1_exponent_1 : decode cX1_exponent 1 = .ok (.invokevirtual 62, 3) := by decide +kernel
theorem dX1_exponent_4 : decode cX1_exponent 4 = .ok (.bipush 63, 2) := by decide +kernel
theorem dX1_exponent_6 : decode cX1_exponent 6 = .ok (.iadd, 1) := by decide +kernel
theorem dX1_exponent_7 : decode cX1_exponent 7 = .ok (.aload_n 0, 1) := by decide +kernel
theorem dX1_exponent_8 : decode cX1_exponent 8 = .ok (.getfield 15, 3) := by decide +kernel
theorem dX1_exponent_11 : decode cX1_exponent 11 = .ok (.invokestatic 65, 3) := by decide +kernel
theorem dX1_exponent_14 : decode cX1_exponent 14 = .ok (.isub, 1) := by decide +kernel
theorem dX1_exponent_15 : decode cX1_exponent 15 = .ok (.ireturn, 1) := by decide +kernel
set_option maxRecDepth 20000 in
theorem ggX1_normalised_J13_numberOfLeadingZeros_95d88 : GoodIn wsX1_normalised wsJ13_numberOfLeadingZeros_95d88 := goodIn_r _ [5, 6, 7, 8, 9, 10] (by decide +kernel) (by decide +kernel)
set_option maxRecDepth 20000 in
theorem gX1_normalised_J13_numberOfLeadingZeros_95d88 : GoodIn wsX1_normalised (va_wsS RX1 65 yJ13_numberOfLeadingZeros_95d88 wsJ13_numberOfLeadingZeros_95d88) := goodIn_app (goodIn_of _ (by decide +kernel)) ggX1_normalised_J13_numberOfLeadingZeros_95d88
theorem dX1_normalised_0 : decode cX1_normalised 0 = .ok (.aload_n 0, 1) := by decide +kernel
theorem dX1_normalised_1 : decode cX1_normalised 1 = .ok (.getfield 15, 3) := by decide +kernel
theorem dX1_normalised_4 : decode cX1_normalised 4 = .ok (.aload_n 0, 1) := by decide +kernel
theorem dX1_normalised_5 : decode cX1_normalised 5 = .ok (.getfield 15, 3) := by decide +kernel
theorem dX1_normalised_8 : decode cX1_normalised 8 = .ok (.invokestatic 65, 3) := by decide +kernel
theorem dX1_normalised_11 : decode cX1_normalised 11 = .ok (.lshl, 1) := by decide +kernel
theorem dX1_normalised_12 : decode cX1_normalised 12 = .ok (.lreturn, 1) := by decide +kernel
theorem dJ6_numberOfLeadingZeros_0f7a4_0 : decode cJ6_numberOfLeadingZeros_0f7a4 0 = .ok (.iload_n 0, 1) := by decide +kernel
theorem dJ6_numberOfLeadingZeros_0f7a4_1 : decode cJ6_numberOfLeadingZeros_0f7a4 1 = .ok (.ifCond .gt 14, 3) := by decide +kernel
theorem dJ6_numberOfLeadingZeros_0f7a4_4 : decode cJ6_numberOfLeadingZeros_0f7a4 4 = .ok (.iload_n 0, 1) := by decide +kernel
theorem dJ6_numberOfLeadingZeros_0f7a4_5 : decode cJ6_numberOfLeadingZeros_0f7a4 5 = .ok (.ifCond .ne 8, 3) := by decide +kernel
theorem dJ6_numberOfLeadingZeros_0f7a4_8 : decode cJ6_numberOfLeadingZeros_0f7a4 8 = .ok (.bipush 32, 2) := by decide +kernel
theorem dJ6_numberOfLeadingZeros_0f7a4_10 : decode cJ6_numberOfLeadingZeros_0f7a4 10 = .ok (.goto 4, 3) := by decide +kernel
theorem dJ6_numberOfLeadingZeros_0f7a4_13 : decode cJ6_numberOfLeadingZeros_0f7a4 13 = .ok (.iconst 0, 1) := by decide +kernel
theorem dJ6_numberOfLeadingZeros_0f7a4_14 : decode cJ6_numberOfLeadingZeros_0f7a4 14 = .ok (.ireturn, 1) := by decide +kernel
theorem dJ6_numberOfLeadingZeros_0f7a4_15 : decode cJ6_numberOfLeadingZeros_0f7a4 15 = .ok (.bipush 31, 2) := by decide +kernel
theorem dJ6_numberOfLeadingZeros_0f7a4_17 : decode cJ6_numberOfLeadingZeros_0f7a4 17 = .ok (.istore_n 1, 1) := by decide +kernel
theorem dJ6_numberOfLeadingZeros_0f7a4_18 : decode cJ6_numberOfLeadingZeros_0f7a4 18 = .ok (.iload_n 0, 1) := by decide +kernel
theorem dJ6_numberOfLeadingZeros_0f7a4_19 : decode cJ6_numberOfLeadingZeros_0f7a4 19 = .ok (.ldc_w 264, 3) := by decide +kernel
theorem dJ6_numberOfLeadingZeros_0f7a4_22 : decode cJ6_numberOfLeadingZeros_0f7a4 22 = .ok (.if_icmp .lt 11, 3) := by decide +kernel
theorem dJ6_numberOfLeadingZeros_0f7a4_25 : decode cJ6_numberOfLeadingZeros_0f7a4 25 = .ok (.iinc 1 (-16), 3) := by decide +kernel
theorem dJ6_numberOfLeadingZeros_0f7a4_28 : decode cJ6_numberOfLeadingZeros_0f7a4 28 = .ok (.iload_n 0, 1) := by decide +kernel
theorem dJ6_numberOfLeadingZeros_0f7a4_29 : decode cJ6_numberOfLeadingZeros_0f7a4 29 = .ok (.bipush 16, 2) := by decide +kernel
theorem dJ6_numberOfLeadingZeros_0f7a4_31 : decode cJ6_numberOfLeadingZeros_0f7a4 31 = .ok (.iushr, 1) := by decide +kernel
theorem dJ6_numberOfLeadingZeros_0f7a4_32 : decode cJ6_numberOfLeadingZeros_0f7a4 32 = .ok (.istore_n 0, 1) := by decide +kernel
theorem dJ6_numberOfLeadingZeros_0f7a4_33 : decode cJ6_numberOfLeadingZeros_0f7a4 33 = .ok (.iload_n 0, 1) := by decide +kernel
theorem dJ6_numberOfLeadingZeros_0f7a4_34 : decode cJ6_numberOfLeadingZeros_0f7a4 34 = .ok (.sipush 256, 3) := by decide +kernel
theorem dJ6_numberOfLeadingZeros_0f7a4_37 : decode cJ6_numberOfLeadingZeros_0f7a4 37 = .ok (.if_icmp .lt 11, 3) := by decide +kernel
theorem dJ6_numberOfLeadingZeros_0f7a4_40 : decode cJ6_numberOfLeadingZeros_0f7a4 40 = .ok (.iinc 1 (-8), 3) := by decide +kernel
theorem dJ6_numberOfLeadingZeros_0f7a4_43 : decode cJ6_numberOfLeadingZeros_0f7a4 43 = .ok (.iload_n 0, 1) := by decide +kernel
theorem dJ6_numberOfLeadingZeros_0f7a4_44 : decode cJ6_numberOfLeadingZeros_0f7a4 44 = .ok (.bipush 8, 2) := by decide +kernel
theorem dJ6_numberOfLeadingZeros_0f7a4_46 : decode cJ6_numberOfLeadingZeros_0f7a4 46 = .ok (.iushr, 1) := by decide +kernel
theorem dJ6_numberOfLeadingZeros_0f7a4_47 : decode cJ6_numberOfLeadingZeros_0f7a4 47 = .ok (.istore_n 0, 1) := by decide +kernel
theorem dJ6_numberOfLeadingZeros_0f7a4_48 : decode cJ6_numberOfLeadingZeros_0f7a4 48 = .ok (.iload_n 0, 1) := by decide +kernel
theorem dJ6_numberOfLeadingZeros_0f7a4_49 : decode cJ6_numberOfLeadingZeros_0f7a4 49 = .ok (.bipush 16, 2) := by decide +kernel
theorem dJ6_numberOfLeadingZeros_0f7a4_51 : decode cJ6_numberOfLeadingZeros_0f7a4 51 = .ok (.if_icmp .lt 10, 3) := by decide +kernel
theorem dJ6_numberOfLeadingZeros_0f7a4_54 : decode cJ6_numberOfLeadingZeros_0f7a4 54 = .ok (.iinc 1 (-4), 3) := by decide +kernel
theorem dJ6_numberOfLeadingZeros_0f7a4_57 : decode cJ6_numberOfLeadingZeros_0f7a4 57 = .ok (.iload_n 0, 1) := by decide +kernel
theorem dJ6_numberOfLeadingZeros_0f7a4_58 : decode cJ6_numberOfLeadingZeros_0f7a4 58 = .ok (.iconst 4, 1) := by decide +kernel
theorem dJ6_numberOfLeadingZeros_0f7a4_59 : decode cJ6_numberOfLeadingZeros_0f7a4 59 = .ok (.iushr, 1) := by decide +kernel
theorem dJ6_numberOfLeadingZeros_0f7a4_60 : decode cJ6_numberOfLeadingZeros_0f7a4 60 = .ok (.istore_n 0, 1) := by decide +kernel
theorem dJ6_numberOfLeadingZeros_0f7a4_61 : decode cJ6_numberOfLeadingZeros_0f7a4 61 = .ok (.iload_n 0, 1) := by decide +kernel
theorem dJ6_numberOfLeadingZeros_0f7a4_62 : decode cJ6_numberOfLeadingZeros_0f7a4 62 = .ok (.iconst 4, 1) := by decide +kernel
theorem dJ6_numberOfLeadingZeros_0f7a4_63 : decode cJ6_numberOfLeadingZeros_0f7a4 63 = .ok (.if_icmp .lt 10, 3) := by decide +kernel
theorem dJ6_numberOfLeadingZeros_0f7a4_66 : decode cJ6_numberOfLeadingZeros_0f7a4 66 = .ok (.iinc 1 (-2), 3) := by decide +kernel
theorem dJ6_numberOfLeadingZeros_0f7a4_69 : decode cJ6_numberOfLeadingZeros_0f7a4 69 = .ok (.iload_n 0, 1) := by decide +kernel
theorem dJ6_numberOfLeadingZeros_0f7a4_70 : decode cJ6_numberOfLeadingZeros_0f7a4 70 = .ok (.iconst 2, 1) := by decide +kernel
theorem dJ6_numberOfLeadingZeros_0f7a4_71 : decode cJ6_numberOfLeadingZeros_0f7a4 71 = .ok (.iushr, 1) := by decide +kernel
theorem dJ6_numberOfLeadingZeros_0f7a4_72 : decode cJ6_numberOfLeadingZeros_0f7a4 72 = .ok (.istore_n 0, 1) := by decide +kernel
theorem dJ6_numberOfLeadingZeros_0f7a4_73 : decode cJ6_numberOfLeadingZeros_0f7a4 73 = .ok (.iload_n 1, 1) := by decide +kernel
theorem dJ6_numberOfLeadingZeros_0f7a4_74 : decode cJ6_numberOfLeadingZeros_0f7a4 74 = .ok (.iload_n 0, 1) := by decide +kernel
theorem dJ6_numberOfLeadingZeros_0f7a4_75 : decode cJ6_numberOfLeadingZeros_0f7a4 75 = .ok (.iconst 1, 1) := by decide +kernel
theorem dJ6_numberOfLeadingZeros_0f7a4_76 : decode cJ6_numberOfLeadingZeros_0f7a4 76 = .ok (.iushr, 1) := by decide +kernel
theorem dJ6_numberOfLeadingZeros_0f7a4_77 : decode cJ6_numberOfLeadingZeros_0f7a4 77 = .ok (.isub, 1) := by decide +kernel
theorem dJ6_numberOfLeadingZeros_0f7a4_78 : decode cJ6_numberOfLeadingZeros_0f7a4 78 = .ok (.ireturn, 1) := by decide +kernel
theorem dJ13_compare_74951_0 : decode cJ13_compare_74951 0 = .ok (.lload_n 0, 1) := by decide +kernel
theorem dJ13_compare_74951_1 : decode cJ13_compare_74951 1 = .ok (.lload_n 2, 1) := by decide +kernel
theorem dJ13_compare_74951_2 : decode cJ13_compare_74951 2 = .ok (.lcmp, 1) := by decide +kernel
theorem dJ13_compare_74951_3 : decode cJ13_compare_74951 3 = .ok (.ifCond .ge 7, 3) := by decide +kernel
theorem dJ13_compare_74951_6 : decode cJ13_compare_74951 6 = .ok (.iconst (-1), 1) := by decide +kernel
theorem dJ13_compare_74951_7 : decode cJ13_compare_74951 7 = .ok (.goto 14, 3) := by decide +kernel
theorem dJ13_compare_74951_10 : decode cJ13_compare_74951 10 = .ok (.lload_n 0, 1) := by decide +kernel
theorem dJ13_compare_74951_11 : decode cJ13_compare_74951 11 = .ok (.lload_n 2, 1) := by decide +kernel
theorem dJ13_compare_74951_12 : decode cJ13_compare_74951 12 = .ok (.lcmp, 1) := by decide +kernel
theorem dJ13_compare_74951_13 : decode cJ13_compare_74951 13 = .ok (.ifCond .ne 7, 3) := by decide +kernel
theorem dJ13_compare_74951_16 : decode cJ13_compare_74951 16 = .ok (.iconst 0, 1) := by decide +kernel
theorem dJ13_compare_74951_17 : decode cJ13_compare_74951 17 = .ok (.goto 4, 3) := by decide +kernel
theorem dJ13_compare_74951_20 : decode cJ13_compare_74951 20 = .ok (.iconst 1, 1) := by decide +kernel
theorem dJ13_compare_74951_21 : decode cJ13_compare_74951 21 = .ok (.ireturn, 1) := by decide +kernel
set_option maxRecDepth 20000 in
theorem ggJ13_compareUnsigned_74951_J13_compare_74951 : GoodIn wsJ13_compareUnsigned_74951 wsJ13_compare_74951 := goodIn_r _ [5] (by decide +kernel) (by decide +kernel)
set_option maxRecDepth 20000 in
theorem gJ13_compareUnsigned_74951_J13_compare_74951 : GoodIn wsJ13_compareUnsigned_74951 (va_wsS RJ13 302 yJ13_compare_74951 wsJ13_compare_74951) := goodIn_app (goodIn_of _ (by decide +kernel)) ggJ13_compareUnsigned_74951_J13_compare_74951
theorem dJ13_compareUnsigned_74951_0 : decode cJ13_compareUnsigned_74951 0 = .ok (.lload_n 0, 1) := by decide +kernel
theorem dJ13_compareUnsigned_74951_1 : decode cJ13_compareUnsigned_74951 1 = .ok (.ldc2_w 168, 3) := by decide +kernel
theorem dJ13_compareUnsigned_74951_4 : decode cJ13_compareUnsigned_74951 4 = .ok (.ladd, 1) := by decide +kernel
theorem dJ13_compareUnsigned_74951_5 : decode cJ13_compareUnsigned_74951 5 = .ok (.lload_n 2, 1) := by decide +kernel
theorem dJ13_compareUnsigned_74951_6 : decode cJ13_compareUnsigned_74951 6 = .ok (.ldc2_w 168, 3) := by decide +kernel
theorem dJ13_compareUnsigned_74951_9 : decode cJ13_compareUnsigned_74951 9 = .ok (.ladd, 1) := by decide +kernel
theorem dJ13_compareUnsigned_74951_10 : decode cJ13_compareUnsigned_74951 10 = .ok (.invokestatic 302, 3) := by decide +kernel
theorem dJ13_compareUnsigned_74951_13 : decode cJ13_compareUnsigned_74951 13 = .ok (.ireturn, 1) := by decide +kernel
set_option maxRecDepth 20000 in
theorem ggJ13_numberOfLeadingZeros_95d88_J6_numberOfLeadingZeros_0f7a4 : GoodIn wsJ13_numberOfLeadingZeros_95d88 wsJ6_numberOfLeadingZeros_0f7a4 := goodIn_r _ [4, 5] (by decide +kernel) (by decide +kernel)
set_option maxRecDepth 20000 in
theorem gJ13_numberOfLeadingZeros_95d88_J6_numberOfLeadingZeros_0f7a4 : GoodIn wsJ13_numberOfLeadingZeros_95d88 (va_wsS RJ13 308 yJ6_numberOfLeadingZeros_0f7a4 wsJ6_numberOfLeadingZeros_0f7a4) := goodIn_app (goodIn_of _ (by decide +kernel)) ggJ13_numberOfLeadingZeros_95d88_J6_numberOfLeadingZeros_0f7a4
theorem dJ13_numberOfLeadingZeros_95d88_0 : decode cJ13_numberOfLeadingZeros_95d88 0 = .ok (.lload_n 0, 1) := by decide +kernel
theorem dJ13_numberOfLeadingZeros_95d88_1 : decode cJ13_numberOfLeadingZeros_95d88 1 = .ok (.bipush 32, 2) := by decide +kernel
theorem dJ13_numberOfLeadingZeros_95d88_3 : decode cJ13_numberOfLeadingZeros_95d88 3 = .ok (.lushr, 1) := by decide +kernel
theorem dJ13_numberOfLeadingZeros_95d88_4 : decode cJ13_numberOfLeadingZeros_95d88 4 = .ok (.l2i, 1) := by decide +kernel
theorem dJ13_numberOfLeadingZeros_95d88_5 : decode cJ13_numberOfLeadingZeros_95d88 5 = .ok (.istore_n 2, 1) := by decide +kernel
theorem dJ13_numberOfLeadingZeros_95d88_6 : decode cJ13_numberOfLeadingZeros_95d88 6 = .ok (.iload_n 2, 1) := by decide +kernel
theorem dJ13_numberOfLeadingZeros_95d88_7 : decode cJ13_numberOfLeadingZeros_95d88 7 = .ok (.ifCond .ne 14, 3) := by decide +kernel
theorem dJ13_numberOfLeadingZeros_95d88_10 : decode cJ13_numberOfLeadingZeros_95d88 10 = .ok (.bipush 32, 2) := by decide +kernel
theorem dJ13_numberOfLeadingZeros_95d88_12 : decode cJ13_numberOfLeadingZeros_95d88 12 = .ok (.lload_n 0, 1) := by decide +kernel
theorem dJ13_numberOfLeadingZeros_95d88_13 : decode cJ13_numberOfLeadingZeros_95d88 13 = .ok (.l2i, 1) := by decide +kernel
theorem dJ13_numberOfLeadingZeros_95d88_14 : decode cJ13_numberOfLeadingZeros_95d88 14 = .ok (.invokestatic 308, 3) := by decide +kernel
theorem dJ13_numberOfLeadingZeros_95d88_17 : decode cJ13_numberOfLeadingZeros_95d88 17 = .ok (.iadd, 1) := by decide +kernel
theorem dJ13_numberOfLeadingZeros_95d88_18 : decode cJ13_numberOfLeadingZeros_95d88 18 = .ok (.goto 7, 3) := by decide +kernel
theorem dJ13_numberOfLeadingZeros_95d88_21 : decode cJ13_numberOfLeadingZeros_95d88 21 = .ok (.iload_n 2, 1) := by decide +kernel
theorem dJ13_numberOfLeadingZeros_95d88_22 : decode cJ13_numberOfLeadingZeros_95d88 22 = .ok (.invokestatic 308, 3) := by decide +kernel
theorem dJ13_numberOfLeadingZeros_95d88_25 : decode cJ13_numberOfLeadingZeros_95d88 25 = .ok (.ireturn, 1) := by decide +kernel
theorem dJ9_abs_0f7a4_0 : decode cJ9_abs_0f7a4 0 = .ok (.iload_n 0, 1) := by decide +kernel
theorem dJ9_abs_0f7a4_1 : decode cJ9_abs_0f7a4 1 = .ok (.ifCond .ge 8, 3) := by decide +kernel
theorem dJ9_abs_0f7a4_4 : decode cJ9_abs_0f7a4 4 = .ok (.iload_n 0, 1) := by decide +kernel
theorem dJ9_abs_0f7a4_5 : decode cJ9_abs_0f7a4 5 = .ok (.ineg, 1) := by decide +kernel
theorem dJ9_abs_0f7a4_6 : decode cJ9_abs_0f7a4 6 = .ok (.goto 4, 3) := by decide +kernel
theorem dJ9_abs_0f7a4_9 : decode cJ9_abs_0f7a4 9 = .ok (.iload_n 0, 1) := by decide +kernel
theorem dJ9_abs_0f7a4_10 : decode cJ9_abs_0f7a4 10 = .ok (.ireturn, 1) := by decide +kernel
theorem dJ9_max_7cf53_0 : decode cJ9_max_7cf53 0 = .ok (.iload_n 0, 1) := by decide +kernel
theorem dJ9_max_7cf53_1 : decode cJ9_max_7cf53 1 = .ok (.iload_n 1, 1) := by decide +kernel
theorem dJ9_max_7cf53_2 : decode cJ9_max_7cf53 2 = .ok (.if_icmp .lt 7, 3) := by decide +kernel
theorem dJ9_max_7cf53_5 : decode cJ9_max_7cf53 5 = .ok (.iload_n 0, 1) := by decide +kernel
theorem dJ9_max_7cf53_6 : decode cJ9_max_7cf53 6 = .ok (.goto 4, 3) := by decide +kernel
theorem dJ9_max_7cf53_9 : decode cJ9_max_7cf53 9 = .ok (.iload_n 1, 1) := by decide +kernel
theorem dJ9_max_7cf53_10 : decode cJ9_max_7cf53 10 = .ok (.ireturn, 1) := by decide +kernel
end
section
theorem dX2_init_0 : decode cX2_init 0 = .ok (.aload_n 0, 1) := by decide +kernel
theorem dX2_init_1 : decode cX2_init 1 = .ok (.invokespecial 3, 3) := by decide +kernel
theorem dX2_init_4 : decode cX2_init 4 = .ok (.aload_n 0, 1) := by decide +kernel
theorem dX2_init_5 : decode cX2_init 5 = .ok (.bipush 8, 2) := by decide +kernel
theorem dX2_init_7 : decode cX2_init 7 = .ok (.newarray .int, 2) := by decide +kernel
theorem dX2_init_9 : decode cX2_init 9 = .ok (.putfield 9, 3) := by decide +kernel
theorem dX2_init_12 : decode cX2_init 12 = .ok (.aload_n 0, 1) := by decide +kernel
theorem dX2_init_13 : decode cX2_init 13 = .ok (.bipush 8, 2) := by decide +kernel
theorem dX2_init_15 : decode cX2_init 15 = .ok (.newarray .long, 2) := by decide +kernel
theorem dX2_init_17 : decode cX2_init 17 = .ok (.putfield 13, 3) := by decide +kernel
theorem dX2_init_20 : decode cX2_init 20 = .ok (.aload_n 0, 1) := by decide +kernel
theorem dX2_init_21 : decode cX2_init 21 = .ok (.sipush 1023, 3) := by decide +kernel
theorem dX2_init_24 : decode cX2_init 24 = .ok (.putfield 17, 3) := by decide +kernel
theorem dX2_init_27 : decode cX2_init 27 = .ok (.aload_n 0, 1) := by decide +kernel
theorem dX2_init_28 : decode cX2_init 28 = .ok (.iconst 0, 1) := by decide +kernel
theorem dX2_init_29 : decode cX2_init 29 = .ok (.putfield 21, 3) := by decide +kernel
theorem dX2_init_32 : decode cX2_init 32 = .ok (.aload_n 0, 1) := by decide +kernel
theorem dX2_init_33 : decode cX2_init 33 = .ok (.iconst 0, 1) := by decide +kernel
theorem dX2_init_34 : decode cX2_init 34 = .ok (.putfield 24, 3) := by decide +kernel
theorem dX2_init_37 : decode cX2_init 37 = .ok (.aload_n 0, 1) := by decide +kernel
theorem dX2_init_38 : decode cX2_init 38 = .ok (.iconst 0, 1) := by decide +kernel
theorem dX2_init_39 : decode cX2_init 39 = .ok (.putfield 28, 3) := by decide +kernel
theorem dX2_init_42 : decode cX2_init 42 = .ok (.aload_n 0, 1) := by decide +kernel
theorem dX2_init_43 : decode cX2_init 43 = .ok (.iconst 0, 1) := by decide +kernel
theorem dX2_init_44 : decode cX2_init 44 = .ok (.putfield 31, 3) := by decide +kernel
theorem dX2_init_47 : decode cX2_init 47 = .ok (.return_, 1) := by decide +kernel
theorem dX2_control_0 : decode cX2_control 0 = .ok (.iload_n 1, 1) := by decide +kernel
theorem dX2_control_1 : decode cX2_control 1 = .ok (.ifCond .lt 9, 3) := by decide +kernel
theorem dX2_control_4 : decode cX2_control 4 = .ok (.iload_n 1, 1) := by decide +kernel
theorem dX2_control_5 : decode cX2_control 5 = .ok (.ldc 34, 2) := by decide +kernel
theorem dX2_control_7 : decode cX2_control 7 = .ok (.if_icmp .le 13, 3) := by decide +kernel
theorem dX2_control_10 : decode cX2_control 10 = .ok (.new 35, 3) := by decide +kernel
theorem dX2_control_13 : decode cX2_control 13 = .ok (.dup, 1) := by decide +kernel
theorem dX2_control_14 : decode cX2_control 14 = .ok (.ldc 37, 2) := by decide +kernel
theorem dX2_control_16 : decode cX2_control 16 = .ok (.invokespecial 39, 3) := by decide +kernel
theorem dX2_control_19 : decode cX2_control 19 = .ok (.athrow, 1) := by decide +kernel
theorem dX2_control_20 : decode cX2_control 20 = .ok (.aload_n 0, 1) := by decide +kernel
theorem dX2_control_21 : decode cX2_control 21 = .ok (.iload_n 1, 1) := by decide +kernel
theorem dX2_control_22 : decode cX2_control 22 = .ok (.putfield 17, 3) := by decide +kernel
theorem dX2_control_25 : decode cX2_control 25 = .ok (.return_, 1) := by decide +kernel
set_option maxRecDepth 20000 in
theorem ggX2_set_X2_needRegister : GoodIn wsX2_set wsX2_needRegister := goodIn_ca (goodIn_r _ [11, 12, 13] (by decide +kernel) (by decide +kernel)) (goodIn_sub (fun _ h => List.mem_cons_of_mem _ (List.mem_append_right _ h)) (by decide +kernel))
set_option maxRecDepth 20000 in
theorem gX2_set_X2_needRegister : GoodIn wsX2_set (va_wsS RX2 42 yX2_needRegister wsX2_needRegister) := goodIn_app (goodIn_of _ (by decide +kernel)) ggX2_set_X2_needRegister
set_option maxRecDepth 20000 in
theorem ggX2_set_X1_init : GoodIn wsX2_set wsX1_init := goodIn_r _ [15, 16, 17, 18, 19, 20, 27, 28] (by decide +kernel) (by decide +kernel)
set_option maxRecDepth 20000 in
theorem gX2_set_X1_init_n52 : GoodIn wsX2_set (wsX1_init) := ggX2_set_X1_init
set_option maxRecDepth 20000 in
theorem ggX2_set_X2_write : GoodIn wsX2_set wsX2_write := goodIn_r _ [24, 25, 26, 29, 30, 31, 32, 33, 34, 35, 27, 28] (by decide +kernel) (by decide +kernel)
set_option maxRecDepth 20000 in
theorem gX2_set_X2_write : GoodIn wsX2_set (wsV RX2 55 RX2 yX2_write wsX2_write) := goodIn_app (goodIn_of _ (by decide +kernel)) ggX2_set_X2_write
theorem dX2_set_0 : decode cX2_set 0 = .ok (.iload_n 1, 1) := by decide +kernel
theorem dX2_set_1 : decode cX2_set 1 = .ok (.invokestatic 42, 3) := by decide +kernel
theorem dX2_set_4 : decode cX2_set 4 = .ok (.iload_n 2, 1) := by decide +kernel
theorem dX2_set_5 : decode cX2_set 5 = .ok (.ifCond .lt 9, 3) := by decide +kernel
theorem dX2_set_8 : decode cX2_set 8 = .ok (.iload_n 2, 1) := by decide +kernel
theorem dX2_set_9 : decode cX2_set 9 = .ok (.ldc 34, 2) := by decide +kernel
theorem dX2_set_11 : decode cX2_set 11 = .ok (.if_icmp .le 13, 3) := by decide +kernel
theorem dX2_set_14 : decode cX2_set 14 = .ok (.new 35, 3) := by decide +kernel
theorem dX2_set_17 : decode cX2_set 17 = .ok (.dup, 1) := by decide +kernel
theorem dX2_set_18 : decode cX2_set 18 = .ok (.ldc 46, 2) := by decide +kernel
theorem dX2_set_20 : decode cX2_set 20 = .ok (.invokespecial 39, 3) := by decide +kernel
theorem dX2_set_23 : decode cX2_set 23 = .ok (.athrow, 1) := by decide +kernel
theorem dX2_set_24 : decode cX2_set 24 = .ok (.aload_n 0, 1) := by decide +kernel
theorem dX2_set_25 : decode cX2_set 25 = .ok (.iload_n 1, 1) := by decide +kernel
theorem dX2_set_26 : decode cX2_set 26 = .ok (.new 48, 3) := by decide +kernel
theorem dX2_set_29 : decode cX2_set 29 = .ok (.dup, 1) := by decide +kernel
theorem dX2_set_30 : decode cX2_set 30 = .ok (.iload_n 2, 1) := by decide +kernel
theorem dX2_set_31 : decode cX2_set 31 = .ok (.iload_n 3, 1) := by decide +kernel
theorem dX2_set_32 : decode cX2_set 32 = .ok (.i2l, 1) := by decide +kernel
theorem dX2_set_33 : decode cX2_set 33 = .ok (.bipush 32, 2) := by decide +kernel
theorem dX2_set_35 : decode cX2_set 35 = .ok (.lshl, 1) := by decide +kernel
theorem dX2_set_36 : decode cX2_set 36 = .ok (.iload 4, 2) := by decide +kernel
theorem dX2_set_38 : decode cX2_set 38 = .ok (.i2l, 1) := by decide +kernel
theorem dX2_set_39 : decode cX2_set 39 = .ok (.ldc2_w 50, 3) := by decide +kernel
theorem dX2_set_42 : decode cX2_set 42 = .ok (.land, 1) := by decide +kernel
theorem dX2_set_43 : decode cX2_set 43 = .ok (.lor, 1) := by decide +kernel
theorem dX2_set_44 : decode cX2_set 44 = .ok (.invokespecial 52, 3) := by decide +kernel
theorem dX2_set_47 : decode cX2_set 47 = .ok (.invokevirtual 55, 3) := by decide +kernel
theorem dX2_set_50 : decode cX2_set 50 = .ok (.return_, 1) := by decide +kernel
set_option maxRecDepth 20000 in
theorem ggX2_part_X2_needRegister : GoodIn wsX2_part wsX2_needRegister := goodIn_ca (goodIn_r _ [8, 9, 10] (by decide +kernel) (by decide +kernel)) (goodIn_sub (fun _ h => List.mem_cons_of_mem _ (List.mem_append_right _ h)) (by decide +kernel))
set_option maxRecDepth 20000 in
theorem gX2_part_X2_needRegister : GoodIn wsX2_part (va_wsS RX2 42 yX2_needRegister wsX2_needRegister) := goodIn_app (goodIn_of _ (by decide +kernel)) ggX2_part_X2_needRegister
theorem dX2_part_0 : decode cX2_part 0 = .ok (.iload_n 1, 1) := by decide +kernel
theorem dX2_part_1 : decode cX2_part 1 = .ok (.invokestatic 42, 3) := by decide +kernel
theorem dX2_part_4 : decode cX2_part 4 = .ok (.iload_n 2, 1) := by decide +kernel
theorem dX2_part_5 : decode cX2_part 5 = .ok (.tableswitch 53 0 2 #[27, 34, 45], 27) := by decide +kernel
theorem dX2_part_32 : decode cX2_part 32 = .ok (.aload_n 0, 1) := by decide +kernel
theorem dX2_part_33 : decode cX2_part 33 = .ok (.getfield 9, 3) := by decide +kernel
theorem dX2_part_36 : decode cX2_part 36 = .ok (.iload_n 1, 1) := by decide +kernel
theorem dX2_part_37 : decode cX2_part 37 = .ok (.iaload, 1) := by decide +kernel
theorem dX2_part_38 : decode cX2_part 38 = .ok (.ireturn, 1) := by decide +kernel
theorem dX2_part_39 : decode cX2_part 39 = .ok (.aload_n 0, 1) := by decide +kernel
theorem dX2_part_40 : decode cX2_part 40 = .ok (.getfield 13, 3) := by decide +kernel
theorem dX2_part_43 : decode cX2_part 43 = .ok (.iload_n 1, 1) := by decide +kernel
theorem dX2_part_44 : decode cX2_part 44 = .ok (.laload, 1) := by decide +kernel
theorem dX2_part_45 : decode cX2_part 45 = .ok (.bipush 32, 2) := by decide +kernel
theorem dX2_part_47 : decode cX2_part 47 = .ok (.lushr, 1) := by decide +kernel
theorem dX2_part_48 : decode cX2_part 48 = .ok (.l2i, 1) := by decide +kernel
theorem dX2_part_49 : decode cX2_part 49 = .ok (.ireturn, 1) := by decide +kernel
theorem dX2_part_50 : decode cX2_part 50 = .ok (.aload_n 0, 1) := by decide +kernel
theorem dX2_part_51 : decode cX2_part 51 = .ok (.getfield 13, 3) := by decide +kernel
theorem dX2_part_54 : decode cX2_part 54 = .ok (.iload_n 1, 1) := by decide +kernel
theorem dX2_part_55 : decode cX2_part 55 = .ok (.laload, 1) := by decide +kernel
theorem dX2_part_56 : decode cX2_part 56 = .ok (.l2i, 1) := by decide +kernel
theorem dX2_part_57 : decode cX2_part 57 = .ok (.ireturn, 1) := by decide +kernel
theorem dX2_part_58 : decode cX2_part 58 = .ok (.new 35, 3) := by decide +kernel
theorem dX2_part_61 : decode cX2_part 61 = .ok (.dup, 1) := by decide +kernel
theorem dX2_part_62 : decode cX2_part 62 = .ok (.ldc 59, 2) := by decide +kernel
theorem dX2_part_64 : decode cX2_part 64 = .ok (.invokespecial 39, 3) := by decide +kernel
theorem dX2_part_67 : decode cX2_part 67 = .ok (.athrow, 1) := by decide +kernel
set_option maxRecDepth 20000 in
theorem ggX2_turn_X2_needRegister : GoodIn wsX2_turn wsX2_needRegister := goodIn_ca (goodIn_r _ [7, 8, 9] (by decide +kernel) (by decide +kernel)) (goodIn_sub (fun _ h => List.mem_cons_of_mem _ (List.mem_append_right _ h)) (by decide +kernel))
set_option maxRecDepth 20000 in
theorem gX2_turn_X2_needRegister : GoodIn wsX2_turn (va_wsS RX2 42 yX2_needRegister wsX2_needRegister) := goodIn_app (goodIn_of _ (by decide +kernel)) ggX2_turn_X2_needRegister
theorem dX2_turn_0 : decode cX2_turn 0 = .ok (.iload_n 1, 1) := by decide +kernel
theorem dX2_turn_1 : decode cX2_turn 1 = .ok (.invokestatic 42, 3) := by decide +kernel
theorem dX2_turn_4 : decode cX2_turn 4 = .ok (.aload_n 0, 1) := by decide +kernel
theorem dX2_turn_5 : decode cX2_turn 5 = .ok (.getfield 9, 3) := by decide +kernel
theorem dX2_turn_8 : decode cX2_turn 8 = .ok (.iload_n 1, 1) := by decide +kernel
theorem dX2_turn_9 : decode cX2_turn 9 = .ok (.iload_n 2, 1) := by decide +kernel
theorem dX2_turn_10 : decode cX2_turn 10 = .ok (.ifCond .eq 15, 3) := by decide +kernel
theorem dX2_turn_13 : decode cX2_turn 13 = .ok (.aload_n 0, 1) := by decide +kernel
theorem dX2_turn_14 : decode cX2_turn 14 = .ok (.getfield 9, 3) := by decide +kernel
theorem dX2_turn_17 : decode cX2_turn 17 = .ok (.iload_n 1, 1) := by decide +kernel
theorem dX2_turn_18 : decode cX2_turn 18 = .ok (.iaload, 1) := by decide +kernel
theorem dX2_turn_19 : decode cX2_turn 19 = .ok (.ldc 61, 2) := by decide +kernel
theorem dX2_turn_21 : decode cX2_turn 21 = .ok (.iand, 1) := by decide +kernel
theorem dX2_turn_22 : decode cX2_turn 22 = .ok (.goto 12, 3) := by decide +kernel
theorem dX2_turn_25 : decode cX2_turn 25 = .ok (.aload_n 0, 1) := by decide +kernel
theorem dX2_turn_26 : decode cX2_turn 26 = .ok (.getfield 9, 3) := by decide +kernel
theorem dX2_turn_29 : decode cX2_turn 29 = .ok (.iload_n 1, 1) := by decide +kernel
theorem dX2_turn_30 : decode cX2_turn 30 = .ok (.iaload, 1) := by decide +kernel
theorem dX2_turn_31 : decode cX2_turn 31 = .ok (.ldc 62, 2) := by decide +kernel
theorem dX2_turn_33 : decode cX2_turn 33 = .ok (.ixor, 1) := by decide +kernel
theorem dX2_turn_34 : decode cX2_turn 34 = .ok (.iastore, 1) := by decide +kernel
theorem dX2_turn_35 : decode cX2_turn 35 = .ok (.return_, 1) := by decide +kernel
set_option maxRecDepth 20000 in
theorem ggX2_constant_X2_needRegister : GoodIn wsX2_constant wsX2_needRegister := goodIn_ca (goodIn_r _ [11, 12, 13] (by decide +kernel) (by decide +kernel)) (goodIn_sub (fun _ h => List.mem_cons_of_mem _ (List.mem_append_right _ h)) (by decide +kernel))
set_option maxRecDepth 20000 in
theorem gX2_constant_X2_needRegister : GoodIn wsX2_constant (va_wsS RX2 42 yX2_needRegister wsX2_needRegister) := goodIn_app (goodIn_of _ (by decide +kernel)) ggX2_constant_X2_needRegister
set_option maxRecDepth 20000 in
theorem ggX2_constant_X1_init : GoodIn wsX2_constant wsX1_init := goodIn_r _ [15, 16, 17, 18, 19, 20, 27, 28] (by decide +kernel) (by decide +kernel)
set_option maxRecDepth 20000 in
theorem gX2_constant_X1_init_n52 : GoodIn wsX2_constant (wsX1_init) := ggX2_constant_X1_init
set_option maxRecDepth 20000 in
theorem ggX2_constant_X2_write : GoodIn wsX2_constant wsX2_write := goodIn_r _ [24, 25, 26, 29, 30, 31, 32, 33, 34, 35, 27, 28] (by decide +kernel) (by decide +kernel)
set_option maxRecDepth 20000 in
theorem gX2_constant_X2_write : GoodIn wsX2_constant (wsV RX2 55 RX2 yX2_write wsX2_write) := goodIn_app (goodIn_of _ (by decide +kernel)) ggX2_constant_X2_write
theorem dX2_constant_0 : decode cX2_constant 0 = .ok (.iload_n 2, 1) := by decide +kernel
theorem dX2_constant_1 : decode cX2_constant 1 = .ok (.invokestatic 42, 3) := by decide +kernel
theorem dX2_constant_4 : decode cX2_constant 4 = .ok (.iload_n 1, 1) := by decide +kernel
theorem dX2_constant_5 : decode cX2_constant 5 = .ok (.ifCond .lt 19, 3) := by decide +kernel
theorem dX2_constant_8 : decode cX2_constant 8 = .ok (.iload_n 1, 1) := by decide +kernel
theorem dX2_constant_9 : decode cX2_constant 9 = .ok (.getstatic 63, 3) := by decide +kernel
theorem dX2_constant_12 : decode cX2_constant 12 = .ok (.arraylength, 1) := by decide +kernel
theorem dX2_constant_13 : decode cX2_constant 13 = .ok (.if_icmp .ge 11, 3) := by decide +kernel
theorem dX2_constant_16 : decode cX2_constant 16 = .ok (.iload_n 1, 1) := by decide +kernel
theorem dX2_constant_17 : decode cX2_constant 17 = .ok (.getstatic 66, 3) := by decide +kernel
theorem dX2_constant_20 : decode cX2_constant 20 = .ok (.arraylength, 1) := by decide +kernel
theorem dX2_constant_21 : decode cX2_constant 21 = .ok (.if_icmp .lt 13, 3) := by decide +kernel
theorem dX2_constant_24 : decode cX2_constant 24 = .ok (.new 35, 3) := by decide +kernel
theorem dX2_constant_27 : decode cX2_constant 27 = .ok (.dup, 1) := by decide +kernel
theorem dX2_constant_28 : decode cX2_constant 28 = .ok (.ldc 69, 2) := by decide +kernel
theorem dX2_constant_30 : decode cX2_constant 30 = .ok (.invokespecial 39, 3) := by decide +kernel
theorem dX2_constant_33 : decode cX2_constant 33 = .ok (.athrow, 1) := by decide +kernel
theorem dX2_constant_34 : decode cX2_constant 34 = .ok (.aload_n 0, 1) := by decide +kernel
theorem dX2_constant_35 : decode cX2_constant 35 = .ok (.iload_n 2, 1) := by decide +kernel
theorem dX2_constant_36 : decode cX2_constant 36 = .ok (.new 48, 3) := by decide +kernel
theorem dX2_constant_39 : decode cX2_constant 39 = .ok (.dup, 1) := by decide +kernel
theorem dX2_constant_40 : decode cX2_constant 40 = .ok (.getstatic 63, 3) := by decide +kernel
theorem dX2_constant_43 : decode cX2_constant 43 = .ok (.iload_n 1, 1) := by decide +kernel
theorem dX2_constant_44 : decode cX2_constant 44 = .ok (.iaload, 1) := by decide +kernel
theorem dX2_constant_45 : decode cX2_constant 45 = .ok (.getstatic 66, 3) := by decide +kernel
theorem dX2_constant_48 : decode cX2_constant 48 = .ok (.iload_n 1, 1) := by decide +kernel
theorem dX2_constant_49 : decode cX2_constant 49 = .ok (.laload, 1) := by decide +kernel
theorem dX2_constant_50 : decode cX2_constant 50 = .ok (.invokespecial 52, 3) := by decide +kernel
theorem dX2_constant_53 : decode cX2_constant 53 = .ok (.invokevirtual 55, 3) := by decide +kernel
theorem dX2_constant_56 : decode cX2_constant 56 = .ok (.return_, 1) := by decide +kernel
set_option maxRecDepth 20000 in
theorem ggX2_whole_X2_needRegister : GoodIn wsX2_whole wsX2_needRegister := goodIn_ca (goodIn_r _ [6, 7, 8] (by decide +kernel) (by decide +kernel)) (goodIn_sub (fun _ h => List.mem_cons_of_mem _ (List.mem_append_right _ h)) (by decide +kernel))
set_option maxRecDepth 20000 in
theorem gX2_whole_X2_needRegister : GoodIn wsX2_whole (va_wsS RX2 42 yX2_needRegister wsX2_needRegister) := goodIn_app (goodIn_of _ (by decide +kernel)) ggX2_whole_X2_needRegister
set_option maxRecDepth 20000 in
theorem ggX2_whole_X2_read : GoodIn wsX2_whole wsX2_read := goodIn_r _ [12, 13, 14, 15, 16, 17, 18, 19, 20, 21, 22, 23, 24, 164, 165, 157, 158, 159, 160, 161, 162, 163] (by decide +kernel) (by decide +kernel)
set_option maxRecDepth 20000 in
theorem gX2_whole_X2_read : GoodIn wsX2_whole (wsV RX2 71 RX2 yX2_read wsX2_read) := goodIn_app (goodIn_of _ (by decide +kernel)) ggX2_whole_X2_read
set_option maxRecDepth 20000 in
theorem ggX2_whole_X2_goesOn : GoodIn wsX2_whole wsX2_goesOn := goodIn_r _ [28, 2, 1, 29, 30, 31, 15, 32, 33, 34, 35, 36, 37, 24, 38, 39, 40, 41, 42, 43, 44, 45, 46, 47, 23, 48, 49, 50, 5, 51, 52, 53, 54, 55, 56, 157, 158, 159, 160, 161, 162, 163, 164, 165] (by decide +kernel) (by decide +kernel)
set_option maxRecDepth 20000 in
theorem gX2_whole_X2_goesOn : GoodIn wsX2_whole (wsV RX2 75 RX2 yX2_goesOn wsX2_goesOn) := goodIn_app (goodIn_of _ (by decide +kernel)) ggX2_whole_X2_goesOn
set_option maxRecDepth 20000 in
theorem ggX2_whole_X2_wholeOf : GoodIn wsX2_whole wsX2_wholeOf := goodIn_r _ [60, 61, 2, 31, 15, 32, 33, 34, 35, 36, 37, 24, 38, 39, 40, 41, 42, 43, 44, 45, 46, 47, 23, 62, 63, 64, 65, 66, 67, 68, 69, 70, 71, 72, 73, 74, 75, 76, 77, 78, 79, 80, 81, 82, 83, 84, 85, 86, 87, 88, 89, 90, 91, 5, 92, 93, 94, 95, 13, 14, 96, 97, 98, 99, 18, 19, 20, 21, 22, 100, 101, 102, 103, 104, 52, 53, 54, 55, 56, 105, 106, 107, 108, 109, 110, 111, 112, 113, 114, 115, 116, 117, 118, 119, 120, 121, 122, 123, 124, 125, 126, 127, 128, 129, 130, 131, 132, 133, 134, 135, 136, 137, 138, 139, 140, 141, 142, 143, 144, 164, 165, 157, 158, 159, 160, 161, 162, 163] (by decide +kernel) (by decide +kernel)
set_option maxRecDepth 20000 in
theorem gX2_whole_X2_wholeOf : GoodIn wsX2_whole (wsV RX2 79 RX2 yX2_wholeOf wsX2_wholeOf) := goodIn_app (goodIn_of _ (by decide +kernel)) ggX2_whole_X2_wholeOf
set_option maxRecDepth 20000 in
theorem ggX2_whole_X2_write : GoodIn wsX2_whole wsX2_write := goodIn_r _ [148, 16, 17, 157, 158, 159, 160, 161, 162, 163, 164, 165] (by decide +kernel) (by decide +kernel)
set_option maxRecDepth 20000 in
theorem gX2_whole_X2_write : GoodIn wsX2_whole (wsV RX2 55 RX2 yX2_write wsX2_write) := goodIn_app (goodIn_of _ (by decide +kernel)) ggX2_whole_X2_write
set_option maxRecDepth 20000 in
theorem ggX2_whole_X2_substitute : GoodIn wsX2_whole wsX2_substitute := goodIn_r _ [151, 29, 13, 14, 15, 152, 153, 31, 32, 33, 34, 35, 36, 37, 24, 38, 39, 40, 41, 42, 43, 44, 45, 46, 47, 23, 154, 155, 5, 156, 62, 63, 64, 65, 126, 127, 79, 128, 129, 130, 131, 132, 18, 19, 20, 21, 22, 164, 165] (by decide +kernel) (by decide +kernel)
set_option maxRecDepth 20000 in
theorem gX2_whole_X2_substitute : GoodIn wsX2_whole (va_wsS RX2 83 yX2_substitute wsX2_substitute) := goodIn_app (goodIn_of _ (by decide +kernel)) ggX2_whole_X2_substitute
theorem dX2_whole_0 : decode cX2_whole 0 = .ok (.iload_n 1, 1) := by decide +kernel
theorem dX2_whole_1 : decode cX2_whole 1 = .ok (.invokestatic 42, 3) := by decide +kernel
theorem dX2_whole_4 : decode cX2_whole 4 = .ok (.iload_n 2, 1) := by decide +kernel
theorem dX2_whole_5 : decode cX2_whole 5 = .ok (.invokestatic 42, 3) := by decide +kernel
theorem dX2_whole_8 : decode cX2_whole 8 = .ok (.aload_n 0, 1) := by decide +kernel
theorem dX2_whole_9 : decode cX2_whole 9 = .ok (.iload_n 1, 1) := by decide +kernel
theorem dX2_whole_10 : decode cX2_whole 10 = .ok (.invokevirtual 71, 3) := by decide +kernel
theorem dX2_whole_13 : decode cX2_whole 13 = .ok (.astore_n 3, 1) := by decide +kernel
theorem dX2_whole_14 : decode cX2_whole 14 = .ok (.aload_n 0, 1) := by decide +kernel
theorem dX2_whole_15 : decode cX2_whole 15 = .ok (.aload_n 3, 1) := by decide +kernel
theorem dX2_whole_16 : decode cX2_whole 16 = .ok (.aload_n 3, 1) := by decide +kernel
theorem dX2_whole_17 : decode cX2_whole 17 = .ok (.iconst 0, 1) := by decide +kernel
theorem dX2_whole_18 : decode cX2_whole 18 = .ok (.iconst 0, 1) := by decide +kernel
theorem dX2_whole_19 : decode cX2_whole 19 = .ok (.invokevirtual 75, 3) := by decide +kernel
theorem dX2_whole_22 : decode cX2_whole 22 = .ok (.ifCond .eq 16, 3) := by decide +kernel
theorem dX2_whole_25 : decode cX2_whole 25 = .ok (.aload_n 0, 1) := by decide +kernel
theorem dX2_whole_26 : decode cX2_whole 26 = .ok (.iload_n 2, 1) := by decide +kernel
theorem dX2_whole_27 : decode cX2_whole 27 = .ok (.aload_n 0, 1) := by decide +kernel
theorem dX2_whole_28 : decode cX2_whole 28 = .ok (.aload_n 3, 1) := by decide +kernel
theorem dX2_whole_29 : decode cX2_whole 29 = .ok (.invokevirtual 79, 3) := by decide +kernel
theorem dX2_whole_32 : decode cX2_whole 32 = .ok (.invokevirtual 55, 3) := by decide +kernel
theorem dX2_whole_35 : decode cX2_whole 35 = .ok (.goto 20, 3) := by decide +kernel
theorem dX2_whole_38 : decode cX2_whole 38 = .ok (.aload_n 0, 1) := by decide +kernel
theorem dX2_whole_39 : decode cX2_whole 39 = .ok (.getfield 24, 3) := by decide +kernel
theorem dX2_whole_42 : decode cX2_whole 42 = .ok (.ifCond .eq 13, 3) := by decide +kernel
theorem dX2_whole_45 : decode cX2_whole 45 = .ok (.aload_n 0, 1) := by decide +kernel
theorem dX2_whole_46 : decode cX2_whole 46 = .ok (.iload_n 2, 1) := by decide +kernel
theorem dX2_whole_47 : decode cX2_whole 47 = .ok (.aload_n 3, 1) := by decide +kernel
theorem dX2_whole_48 : decode cX2_whole 48 = .ok (.aload_n 3, 1) := by decide +kernel
theorem dX2_whole_49 : decode cX2_whole 49 = .ok (.invokestatic 83, 3) := by decide +kernel
theorem dX2_whole_52 : decode cX2_whole 52 = .ok (.invokevirtual 55, 3) := by decide +kernel
theorem dX2_whole_55 : decode cX2_whole 55 = .ok (.aload_n 0, 1) := by decide +kernel
theorem dX2_whole_56 : decode cX2_whole 56 = .ok (.getfield 21, 3) := by decide +kernel
theorem dX2_whole_59 : decode cX2_whole 59 = .ok (.ireturn, 1) := by decide +kernel
set_option maxRecDepth 20000 in
theorem ggX2_scale_X2_needRegister : GoodIn wsX2_scale wsX2_needRegister := goodIn_ca (goodIn_r _ [6, 7, 8] (by decide +kernel) (by decide +kernel)) (goodIn_sub (fun _ h => List.mem_cons_of_mem _ (List.mem_append_right _ h)) (by decide +kernel))
set_option maxRecDepth 20000 in
theorem gX2_scale_X2_needRegister : GoodIn wsX2_scale (va_wsS RX2 42 yX2_needRegister wsX2_needRegister) := goodIn_app (goodIn_of _ (by decide +kernel)) ggX2_scale_X2_needRegister
set_option maxRecDepth 20000 in
theorem ggX2_scale_X2_read : GoodIn wsX2_scale wsX2_read := goodIn_r _ [12, 13, 14, 15, 16, 17, 18, 19, 20, 21, 22, 23, 24, 170, 171, 163, 164, 165, 166, 167, 168, 169] (by decide +kernel) (by decide +kernel)
set_option maxRecDepth 20000 in
theorem gX2_scale_X2_read : GoodIn wsX2_scale (wsV RX2 71 RX2 yX2_read wsX2_read) := goodIn_app (goodIn_of _ (by decide +kernel)) ggX2_scale_X2_read
set_option maxRecDepth 20000 in
theorem ggX2_scale_X2_isBeyondScale : GoodIn wsX2_scale wsX2_isBeyondScale := goodIn_r _ [27, 28, 29, 15, 30, 31, 24, 32, 33, 34, 35, 23, 36, 37, 38, 39, 40, 41, 42, 43, 44, 45, 46, 47, 48, 49, 50, 51, 52, 53, 54, 55, 56, 57, 58, 59, 60, 61, 62, 63, 64, 65, 66, 67, 68, 170, 171] (by decide +kernel) (by decide +kernel)
set_option maxRecDepth 20000 in
theorem gX2_scale_X2_isBeyondScale : GoodIn wsX2_scale (va_wsS RX2 87 yX2_isBeyondScale wsX2_isBeyondScale) := goodIn_app (goodIn_of _ (by decide +kernel)) ggX2_scale_X2_isBeyondScale
set_option maxRecDepth 20000 in
theorem ggX2_scale_X2_goesOn : GoodIn wsX2_scale wsX2_goesOn := goodIn_r _ [72, 2, 1, 73, 74, 36, 15, 37, 38, 39, 40, 41, 42, 24, 43, 44, 45, 46, 47, 48, 32, 33, 34, 35, 23, 75, 76, 77, 5, 78, 79, 80, 81, 82, 83, 163, 164, 165, 166, 167, 168, 169, 170, 171] (by decide +kernel) (by decide +kernel)
set_option maxRecDepth 20000 in
theorem gX2_scale_X2_goesOn : GoodIn wsX2_scale (wsV RX2 75 RX2 yX2_goesOn wsX2_goesOn) := goodIn_app (goodIn_of _ (by decide +kernel)) ggX2_scale_X2_goesOn
set_option maxRecDepth 20000 in
theorem ggX2_scale_X2_scaled : GoodIn wsX2_scale wsX2_scaled := goodIn_r _ [87, 28, 36, 15, 37, 38, 39, 40, 41, 42, 24, 43, 44, 45, 46, 47, 48, 32, 33, 34, 35, 23, 88, 89, 90, 91, 53, 54, 55, 56, 57, 58, 59, 92, 93, 5, 94, 49, 50, 51, 52, 60, 61, 62, 63, 64, 65, 66, 67, 68, 29, 30, 31, 95, 96, 97, 98, 99, 100, 101, 102, 103, 104, 13, 14, 105, 106, 107, 108, 18, 19, 20, 21, 22, 109, 110, 111, 112, 113, 2, 79, 80, 81, 82, 83, 114, 115, 116, 117, 118, 119, 120, 121, 122, 123, 124, 125, 126, 127, 128, 129, 130, 131, 132, 133, 134, 135, 136, 137, 138, 139, 140, 141, 142, 143, 144, 145, 146, 147, 148, 149, 150, 170, 171, 163, 164, 165, 166, 167, 168, 169] (by decide +kernel) (by decide +kernel)
set_option maxRecDepth 20000 in
theorem gX2_scale_X2_scaled : GoodIn wsX2_scale (wsV RX2 91 RX2 yX2_scaled wsX2_scaled) := goodIn_app (goodIn_of _ (by decide +kernel)) ggX2_scale_X2_scaled
set_option maxRecDepth 20000 in
theorem ggX2_scale_X2_write : GoodIn wsX2_scale wsX2_write := goodIn_r _ [154, 16, 17, 163, 164, 165, 166, 167, 168, 169, 170, 171] (by decide +kernel) (by decide +kernel)
set_option maxRecDepth 20000 in
theorem gX2_scale_X2_write : GoodIn wsX2_scale (wsV RX2 55 RX2 yX2_write wsX2_write) := goodIn_app (goodIn_of _ (by decide +kernel)) ggX2_scale_X2_write
set_option maxRecDepth 20000 in
theorem ggX2_scale_X2_substitute : GoodIn wsX2_scale wsX2_substitute := goodIn_r _ [157, 73, 13, 14, 15, 158, 159, 36, 37, 38, 39, 40, 41, 42, 24, 43, 44, 45, 46, 47, 48, 32, 33, 34, 35, 23, 160, 161, 5, 162, 88, 89, 90, 91, 135, 136, 62, 137, 138, 139, 140, 141, 18, 19, 20, 21, 22, 170, 171] (by decide +kernel) (by decide +kernel)
set_option maxRecDepth 20000 in
theorem gX2_scale_X2_substitute : GoodIn wsX2_scale (va_wsS RX2 83 yX2_substitute wsX2_substitute) := goodIn_app (goodIn_of _ (by decide +kernel)) ggX2_scale_X2_substitute
theorem dX2_scale_0 : decode cX2_scale 0 = .ok (.iload_n 1, 1) := by decide +kernel
theorem dX2_scale_1 : decode cX2_scale 1 = .ok (.invokestatic 42, 3) := by decide +kernel
theorem dX2_scale_4 : decode cX2_scale 4 = .ok (.iload_n 2, 1) := by decide +kernel
theorem dX2_scale_5 : decode cX2_scale 5 = .ok (.invokestatic 42, 3) := by decide +kernel
theorem dX2_scale_8 : decode cX2_scale 8 = .ok (.iload_n 3, 1) := by decide +kernel
theorem dX2_scale_9 : decode cX2_scale 9 = .ok (.invokestatic 42, 3) := by decide +kernel
theorem dX2_scale_12 : decode cX2_scale 12 = .ok (.aload_n 0, 1) := by decide +kernel
theorem dX2_scale_13 : decode cX2_scale 13 = .ok (.iload_n 1, 1) := by decide +kernel
theorem dX2_scale_14 : decode cX2_scale 14 = .ok (.invokevirtual 71, 3) := by decide +kernel
theorem dX2_scale_17 : decode cX2_scale 17 = .ok (.astore 4, 2) := by decide +kernel
theorem dX2_scale_19 : decode cX2_scale 19 = .ok (.aload_n 0, 1) := by decide +kernel
theorem dX2_scale_20 : decode cX2_scale 20 = .ok (.iload_n 2, 1) := by decide +kernel
theorem dX2_scale_21 : decode cX2_scale 21 = .ok (.invokevirtual 71, 3) := by decide +kernel
theorem dX2_scale_24 : decode cX2_scale 24 = .ok (.astore 5, 2) := by decide +kernel
theorem dX2_scale_26 : decode cX2_scale 26 = .ok (.aload_n 0, 1) := by decide +kernel
theorem dX2_scale_27 : decode cX2_scale 27 = .ok (.aload 4, 2) := by decide +kernel
theorem dX2_scale_29 : decode cX2_scale 29 = .ok (.aload 5, 2) := by decide +kernel
theorem dX2_scale_31 : decode cX2_scale 31 = .ok (.aload 5, 2) := by decide +kernel
theorem dX2_scale_33 : decode cX2_scale 33 = .ok (.invokestatic 87, 3) := by decide +kernel
theorem dX2_scale_36 : decode cX2_scale 36 = .ok (.iconst 0, 1) := by decide +kernel
theorem dX2_scale_37 : decode cX2_scale 37 = .ok (.invokevirtual 75, 3) := by decide +kernel
theorem dX2_scale_40 : decode cX2_scale 40 = .ok (.ifCond .eq 19, 3) := by decide +kernel
theorem dX2_scale_43 : decode cX2_scale 43 = .ok (.aload_n 0, 1) := by decide +kernel
theorem dX2_scale_44 : decode cX2_scale 44 = .ok (.iload_n 3, 1) := by decide +kernel
theorem dX2_scale_45 : decode cX2_scale 45 = .ok (.aload_n 0, 1) := by decide +kernel
theorem dX2_scale_46 : decode cX2_scale 46 = .ok (.aload 4, 2) := by decide +kernel
theorem dX2_scale_48 : decode cX2_scale 48 = .ok (.aload 5, 2) := by decide +kernel
theorem dX2_scale_50 : decode cX2_scale 50 = .ok (.invokevirtual 91, 3) := by decide +kernel
theorem dX2_scale_53 : decode cX2_scale 53 = .ok (.invokevirtual 55, 3) := by decide +kernel
theorem dX2_scale_56 : decode cX2_scale 56 = .ok (.goto 22, 3) := by decide +kernel
theorem dX2_scale_59 : decode cX2_scale 59 = .ok (.aload_n 0, 1) := by decide +kernel
theorem dX2_scale_60 : decode cX2_scale 60 = .ok (.getfield 24, 3) := by decide +kernel
theorem dX2_scale_63 : decode cX2_scale 63 = .ok (.ifCond .eq 15, 3) := by decide +kernel
theorem dX2_scale_66 : decode cX2_scale 66 = .ok (.aload_n 0, 1) := by decide +kernel
theorem dX2_scale_67 : decode cX2_scale 67 = .ok (.iload_n 3, 1) := by decide +kernel
theorem dX2_scale_68 : decode cX2_scale 68 = .ok (.aload 4, 2) := by decide +kernel
theorem dX2_scale_70 : decode cX2_scale 70 = .ok (.aload 5, 2) := by decide +kernel
theorem dX2_scale_72 : decode cX2_scale 72 = .ok (.invokestatic 83, 3) := by decide +kernel
theorem dX2_scale_75 : decode cX2_scale 75 = .ok (.invokevirtual 55, 3) := by decide +kernel
theorem dX2_scale_78 : decode cX2_scale 78 = .ok (.aload_n 0, 1) := by decide +kernel
theorem dX2_scale_79 : decode cX2_scale 79 = .ok (.getfield 21, 3) := by decide +kernel
theorem dX2_scale_82 : decode cX2_scale 82 = .ok (.ireturn, 1) := by decide +kernel
set_option maxRecDepth 20000 in
theorem ggX2_extract_X2_needRegister : GoodIn wsX2_extract wsX2_needRegister := goodIn_ca (goodIn_r _ [8, 9, 10] (by decide +kernel) (by decide +kernel)) (goodIn_sub (fun _ h => List.mem_cons_of_mem _ (List.mem_append_right _ h)) (by decide +kernel))
set_option maxRecDepth 20000 in
theorem gX2_extract_X2_needRegister : GoodIn wsX2_extract (va_wsS RX2 42 yX2_needRegister wsX2_needRegister) := goodIn_app (goodIn_of _ (by decide +kernel)) ggX2_extract_X2_needRegister
set_option maxRecDepth 20000 in
theorem ggX2_extract_X2_read : GoodIn wsX2_extract wsX2_read := goodIn_r _ [14, 15, 16, 17, 18, 19, 20, 21, 22, 23, 24, 25, 26, 173, 174, 166, 167, 168, 169, 170, 171, 172] (by decide +kernel) (by decide +kernel)
set_option maxRecDepth 20000 in
theorem gX2_extract_X2_read : GoodIn wsX2_extract (wsV RX2 71 RX2 yX2_read wsX2_read) := goodIn_app (goodIn_of _ (by decide +kernel)) ggX2_extract_X2_read
set_option maxRecDepth 20000 in
theorem ggX2_extract_X1_isNought : GoodIn wsX2_extract wsX1_isNought := goodIn_r _ [29, 26, 30, 31, 32, 17, 33, 25, 173, 174] (by decide +kernel) (by decide +kernel)
set_option maxRecDepth 20000 in
theorem gX2_extract_X1_isNought_n96 : GoodIn wsX2_extract (wsX1_isNought) := ggX2_extract_X1_isNought
set_option maxRecDepth 20000 in
theorem ggX2_extract_X2_goesOn : GoodIn wsX2_extract wsX2_goesOn := goodIn_r _ [37, 4, 3, 38, 39, 40, 17, 41, 42, 43, 44, 45, 46, 26, 47, 48, 49, 50, 51, 52, 30, 31, 32, 33, 25, 53, 54, 55, 7, 56, 57, 58, 59, 60, 61, 166, 167, 168, 169, 170, 171, 172, 173, 174] (by decide +kernel) (by decide +kernel)
set_option maxRecDepth 20000 in
theorem gX2_extract_X2_goesOn : GoodIn wsX2_extract (wsV RX2 75 RX2 yX2_goesOn wsX2_goesOn) := goodIn_app (goodIn_of _ (by decide +kernel)) ggX2_extract_X2_goesOn
set_option maxRecDepth 20000 in
theorem ggX2_extract_X2_powerOf : GoodIn wsX2_extract wsX2_powerOf := goodIn_r _ [65, 66, 67, 68, 69, 70, 40, 17, 41, 42, 43, 44, 45, 46, 26, 47, 48, 49, 50, 51, 52, 30, 31, 32, 33, 25, 71, 72, 7, 73, 15, 16, 74, 75, 76, 77, 78, 20, 21, 22, 23, 24, 27, 28, 29, 79, 80, 81, 82, 83, 84, 85, 86, 87, 88, 89, 90, 91, 92, 93, 94, 95, 96, 97, 98, 99, 100, 101, 102, 103, 104, 105, 106, 107, 108, 109, 4, 57, 58, 59, 60, 61, 110, 111, 112, 113, 114, 115, 116, 117, 118, 119, 120, 121, 122, 123, 124, 125, 126, 127, 128, 129, 130, 131, 132, 133, 134, 135, 136, 137, 138, 139, 140, 141, 142, 173, 174, 166, 167, 168, 169, 170, 171, 172] (by decide +kernel) (by decide +kernel)
set_option maxRecDepth 20000 in
theorem gX2_extract_X2_powerOf : GoodIn wsX2_extract (wsV RX2 100 RX2 yX2_powerOf wsX2_powerOf) := goodIn_app (goodIn_of _ (by decide +kernel)) ggX2_extract_X2_powerOf
set_option maxRecDepth 20000 in
theorem ggX2_extract_X2_write : GoodIn wsX2_extract wsX2_write := goodIn_r _ [146, 18, 19, 166, 167, 168, 169, 170, 171, 172, 173, 174] (by decide +kernel) (by decide +kernel)
set_option maxRecDepth 20000 in
theorem gX2_extract_X2_write : GoodIn wsX2_extract (wsV RX2 55 RX2 yX2_write wsX2_write) := goodIn_app (goodIn_of _ (by decide +kernel)) ggX2_extract_X2_write
set_option maxRecDepth 20000 in
theorem ggX2_extract_X2_fractionOf : GoodIn wsX2_extract wsX2_fractionOf := goodIn_r _ [150, 66, 40, 17, 41, 42, 43, 44, 45, 46, 26, 47, 48, 49, 50, 51, 52, 30, 31, 32, 33, 25, 151, 152, 153, 154, 155, 156, 157, 89, 90, 91, 92, 93, 94, 95, 96, 97, 98, 99, 100, 7, 101, 102, 103, 104, 15, 16, 75, 76, 77, 78, 20, 21, 22, 23, 24, 105, 106, 107, 108, 109, 4, 57, 58, 59, 60, 61, 110, 111, 112, 113, 114, 115, 116, 117, 118, 119, 120, 121, 122, 123, 124, 125, 126, 127, 128, 129, 130, 131, 132, 133, 134, 135, 136, 137, 138, 139, 140, 141, 142, 71, 72, 73, 74, 173, 174, 166, 167, 168, 169, 170, 171, 172] (by decide +kernel) (by decide +kernel)
set_option maxRecDepth 20000 in
theorem gX2_extract_X2_fractionOf : GoodIn wsX2_extract (wsV RX2 103 RX2 yX2_fractionOf wsX2_fractionOf) := goodIn_app (goodIn_of _ (by decide +kernel)) ggX2_extract_X2_fractionOf
set_option maxRecDepth 20000 in
theorem ggX2_extract_X2_substitute : GoodIn wsX2_extract wsX2_substitute := goodIn_r _ [160, 38, 15, 16, 17, 161, 162, 40, 41, 42, 43, 44, 45, 46, 26, 47, 48, 49, 50, 51, 52, 30, 31, 32, 33, 25, 163, 164, 7, 165, 151, 152, 153, 154, 131, 132, 91, 133, 134, 135, 136, 137, 20, 21, 22, 23, 24, 173, 174] (by decide +kernel) (by decide +kernel)
set_option maxRecDepth 20000 in
theorem gX2_extract_X2_substitute : GoodIn wsX2_extract (va_wsS RX2 83 yX2_substitute wsX2_substitute) := goodIn_app (goodIn_of _ (by decide +kernel)) ggX2_extract_X2_substitute
theorem dX2_extract_0 : decode cX2_extract 0 = .ok (.iload_n 1, 1) := by decide +kernel
theorem dX2_extract_1 : decode cX2_extract 1 = .ok (.invokestatic 42, 3) := by decide +kernel
theorem dX2_extract_4 : decode cX2_extract 4 = .ok (.iload_n 2, 1) := by decide +kernel
theorem dX2_extract_5 : decode cX2_extract 5 = .ok (.invokestatic 42, 3) := by decide +kernel
theorem dX2_extract_8 : decode cX2_extract 8 = .ok (.iload_n 3, 1) := by decide +kernel
theorem dX2_extract_9 : decode cX2_extract 9 = .ok (.invokestatic 42, 3) := by decide +kernel
theorem dX2_extract_12 : decode cX2_extract 12 = .ok (.iload_n 2, 1) := by decide +kernel
theorem dX2_extract_13 : decode cX2_extract 13 = .ok (.iload_n 3, 1) := by decide +kernel
theorem dX2_extract_14 : decode cX2_extract 14 = .ok (.if_icmp .ne 13, 3) := by decide +kernel
theorem dX2_extract_17 : decode cX2_extract 17 = .ok (.new 35, 3) := by decide +kernel
theorem dX2_extract_20 : decode cX2_extract 20 = .ok (.dup, 1) := by decide +kernel
theorem dX2_extract_21 : decode cX2_extract 21 = .ok (.ldc 94, 2) := by decide +kernel
theorem dX2_extract_23 : decode cX2_extract 23 = .ok (.invokespecial 39, 3) := by decide +kernel
theorem dX2_extract_26 : decode cX2_extract 26 = .ok (.athrow, 1) := by decide +kernel
theorem dX2_extract_27 : decode cX2_extract 27 = .ok (.aload_n 0, 1) := by decide +kernel
theorem dX2_extract_28 : decode cX2_extract 28 = .ok (.iload_n 1, 1) := by decide +kernel
theorem dX2_extract_29 : decode cX2_extract 29 = .ok (.invokevirtual 71, 3) := by decide +kernel
theorem dX2_extract_32 : decode cX2_extract 32 = .ok (.astore 4, 2) := by decide +kernel
theorem dX2_extract_34 : decode cX2_extract 34 = .ok (.aload_n 0, 1) := by decide +kernel
theorem dX2_extract_35 : decode cX2_extract 35 = .ok (.aload 4, 2) := by decide +kernel
theorem dX2_extract_37 : decode cX2_extract 37 = .ok (.aload 4, 2) := by decide +kernel
theorem dX2_extract_39 : decode cX2_extract 39 = .ok (.iconst 0, 1) := by decide +kernel
theorem dX2_extract_40 : decode cX2_extract 40 = .ok (.aload 4, 2) := by decide +kernel
theorem dX2_extract_42 : decode cX2_extract 42 = .ok (.invokevirtual 96, 3) := by decide +kernel
theorem dX2_extract_45 : decode cX2_extract 45 = .ok (.invokevirtual 75, 3) := by decide +kernel
theorem dX2_extract_48 : decode cX2_extract 48 = .ok (.ifCond .eq 28, 3) := by decide +kernel
theorem dX2_extract_51 : decode cX2_extract 51 = .ok (.aload_n 0, 1) := by decide +kernel
theorem dX2_extract_52 : decode cX2_extract 52 = .ok (.iload_n 2, 1) := by decide +kernel
theorem dX2_extract_53 : decode cX2_extract 53 = .ok (.aload_n 0, 1) := by decide +kernel
theorem dX2_extract_54 : decode cX2_extract 54 = .ok (.aload 4, 2) := by decide +kernel
theorem dX2_extract_56 : decode cX2_extract 56 = .ok (.invokevirtual 100, 3) := by decide +kernel
theorem dX2_extract_59 : decode cX2_extract 59 = .ok (.invokevirtual 55, 3) := by decide +kernel
theorem dX2_extract_62 : decode cX2_extract 62 = .ok (.aload_n 0, 1) := by decide +kernel
theorem dX2_extract_63 : decode cX2_extract 63 = .ok (.iload_n 3, 1) := by decide +kernel
theorem dX2_extract_64 : decode cX2_extract 64 = .ok (.aload_n 0, 1) := by decide +kernel
theorem dX2_extract_65 : decode cX2_extract 65 = .ok (.aload 4, 2) := by decide +kernel
theorem dX2_extract_67 : decode cX2_extract 67 = .ok (.invokevirtual 103, 3) := by decide +kernel
theorem dX2_extract_70 : decode cX2_extract 70 = .ok (.invokevirtual 55, 3) := by decide +kernel
theorem dX2_extract_73 : decode cX2_extract 73 = .ok (.goto 34, 3) := by decide +kernel
theorem dX2_extract_76 : decode cX2_extract 76 = .ok (.aload_n 0, 1) := by decide +kernel
theorem dX2_extract_77 : decode cX2_extract 77 = .ok (.getfield 24, 3) := by decide +kernel
theorem dX2_extract_80 : decode cX2_extract 80 = .ok (.ifCond .eq 27, 3) := by decide +kernel
theorem dX2_extract_83 : decode cX2_extract 83 = .ok (.aload_n 0, 1) := by decide +kernel
theorem dX2_extract_84 : decode cX2_extract 84 = .ok (.iload_n 2, 1) := by decide +kernel
theorem dX2_extract_85 : decode cX2_extract 85 = .ok (.aload 4, 2) := by decide +kernel
theorem dX2_extract_87 : decode cX2_extract 87 = .ok (.aload 4, 2) := by decide +kernel
theorem dX2_extract_89 : decode cX2_extract 89 = .ok (.invokestatic 83, 3) := by decide +kernel
theorem dX2_extract_92 : decode cX2_extract 92 = .ok (.invokevirtual 55, 3) := by decide +kernel
theorem dX2_extract_95 : decode cX2_extract 95 = .ok (.aload_n 0, 1) := by decide +kernel
theorem dX2_extract_96 : decode cX2_extract 96 = .ok (.iload_n 3, 1) := by decide +kernel
theorem dX2_extract_97 : decode cX2_extract 97 = .ok (.aload 4, 2) := by decide +kernel
theorem dX2_extract_99 : decode cX2_extract 99 = .ok (.aload 4, 2) := by decide +kernel
theorem dX2_extract_101 : decode cX2_extract 101 = .ok (.invokestatic 83, 3) := by decide +kernel
theorem dX2_extract_104 : decode cX2_extract 104 = .ok (.invokevirtual 55, 3) := by decide +kernel
theorem dX2_extract_107 : decode cX2_extract 107 = .ok (.aload_n 0, 1) := by decide +kernel
theorem dX2_extract_108 : decode cX2_extract 108 = .ok (.getfield 21, 3) := by decide +kernel
theorem dX2_extract_111 : decode cX2_extract 111 = .ok (.ireturn, 1) := by decide +kernel
set_option maxRecDepth 20000 in
theorem ggX2_remainder_X2_needRegister : GoodIn wsX2_remainder wsX2_needRegister := goodIn_ca (goodIn_r _ [8, 9, 10] (by decide +kernel) (by decide +kernel)) (goodIn_sub (fun _ h => List.mem_cons_of_mem _ (List.mem_append_right _ h)) (by decide +kernel))
set_option maxRecDepth 20000 in
theorem gX2_remainder_X2_needRegister : GoodIn wsX2_remainder (va_wsS RX2 42 yX2_needRegister wsX2_needRegister) := goodIn_app (goodIn_of _ (by decide +kernel)) ggX2_remainder_X2_needRegister
set_option maxRecDepth 20000 in
theorem ggX2_remainder_X2_read : GoodIn wsX2_remainder wsX2_read := goodIn_r _ [14, 15, 16, 17, 18, 19, 20, 21, 22, 23, 24, 25, 26, 171, 172, 164, 165, 166, 167, 168, 169, 170] (by decide +kernel) (by decide +kernel)
set_option maxRecDepth 20000 in
theorem gX2_remainder_X2_read : GoodIn wsX2_remainder (wsV RX2 71 RX2 yX2_read wsX2_read) := goodIn_app (goodIn_of _ (by decide +kernel)) ggX2_remainder_X2_read
set_option maxRecDepth 20000 in
theorem ggX2_remainder_X1_isOf : GoodIn wsX2_remainder wsX1_isOf := goodIn_r _ [29, 30, 31, 32, 17, 33, 26, 34, 35, 36, 37, 38, 39, 40, 41, 42, 43, 25, 171, 172] (by decide +kernel) (by decide +kernel)
set_option maxRecDepth 20000 in
theorem gX2_remainder_X1_isOf_n112 : GoodIn wsX2_remainder (wsX1_isOf) := ggX2_remainder_X1_isOf
set_option maxRecDepth 20000 in
theorem ggX2_remainder_X1_isNought : GoodIn wsX2_remainder wsX1_isNought := goodIn_r _ [46, 26, 40, 41, 42, 17, 43, 25, 171, 172] (by decide +kernel) (by decide +kernel)
set_option maxRecDepth 20000 in
theorem gX2_remainder_X1_isNought_n96 : GoodIn wsX2_remainder (wsX1_isNought) := ggX2_remainder_X1_isNought
set_option maxRecDepth 20000 in
theorem ggX2_remainder_X2_goesOn : GoodIn wsX2_remainder wsX2_goesOn := goodIn_r _ [50, 4, 3, 51, 52, 27, 17, 28, 29, 30, 31, 32, 33, 26, 34, 35, 36, 37, 38, 39, 40, 41, 42, 43, 25, 53, 54, 55, 7, 56, 57, 58, 59, 60, 61, 164, 165, 166, 167, 168, 169, 170, 171, 172] (by decide +kernel) (by decide +kernel)
set_option maxRecDepth 20000 in
theorem gX2_remainder_X2_goesOn : GoodIn wsX2_remainder (wsV RX2 75 RX2 yX2_goesOn wsX2_goesOn) := goodIn_app (goodIn_of _ (by decide +kernel)) ggX2_remainder_X2_goesOn
set_option maxRecDepth 20000 in
theorem ggX2_remainder_X2_leftOver : GoodIn wsX2_remainder wsX2_leftOver := goodIn_r _ [65, 66, 67, 1, 68, 17, 69, 70, 25, 71, 72, 73, 74, 26, 75, 76, 77, 78, 79, 80, 81, 82, 40, 41, 42, 43, 83, 84, 85, 86, 87, 88, 89, 90, 91, 27, 28, 29, 30, 31, 32, 33, 34, 35, 36, 37, 38, 39, 44, 45, 46, 92, 93, 94, 7, 95, 96, 97, 98, 15, 16, 99, 100, 101, 102, 20, 21, 22, 23, 24, 103, 104, 105, 106, 107, 4, 57, 58, 59, 60, 61, 108, 109, 110, 111, 112, 113, 114, 115, 116, 117, 118, 119, 120, 121, 122, 123, 124, 125, 126, 127, 128, 129, 130, 131, 132, 133, 134, 135, 136, 137, 138, 139, 140, 141, 142, 143, 144, 145, 146, 147, 148, 149, 150, 151, 164, 165, 166, 167, 168, 169, 170, 171, 172] (by decide +kernel) (by decide +kernel)
set_option maxRecDepth 20000 in
theorem gX2_remainder_X2_leftOver : GoodIn wsX2_remainder (wsV RX2 119 RX2 yX2_leftOver wsX2_leftOver) := goodIn_app (goodIn_of _ (by decide +kernel)) ggX2_remainder_X2_leftOver
set_option maxRecDepth 20000 in
theorem ggX2_remainder_X2_write : GoodIn wsX2_remainder wsX2_write := goodIn_r _ [155, 18, 19, 164, 165, 166, 167, 168, 169, 170, 171, 172] (by decide +kernel) (by decide +kernel)
set_option maxRecDepth 20000 in
theorem gX2_remainder_X2_write : GoodIn wsX2_remainder (wsV RX2 55 RX2 yX2_write wsX2_write) := goodIn_app (goodIn_of _ (by decide +kernel)) ggX2_remainder_X2_write
set_option maxRecDepth 20000 in
theorem ggX2_remainder_X2_substitute : GoodIn wsX2_remainder wsX2_substitute := goodIn_r _ [158, 51, 15, 16, 17, 159, 160, 27, 28, 29, 30, 31, 32, 33, 26, 34, 35, 36, 37, 38, 39, 40, 41, 42, 43, 25, 161, 162, 7, 163, 68, 69, 70, 71, 129, 130, 85, 131, 132, 133, 134, 135, 20, 21, 22, 23, 24, 171, 172] (by decide +kernel) (by decide +kernel)
set_option maxRecDepth 20000 in
theorem gX2_remainder_X2_substitute : GoodIn wsX2_remainder (va_wsS RX2 83 yX2_substitute wsX2_substitute) := goodIn_app (goodIn_of _ (by decide +kernel)) ggX2_remainder_X2_substitute
theorem dX2_remainder_0 : decode cX2_remainder 0 = .ok (.iload_n 1, 1) := by decide +kernel
theorem dX2_remainder_1 : decode cX2_remainder 1 = .ok (.invokestatic 42, 3) := by decide +kernel
theorem dX2_remainder_4 : decode cX2_remainder 4 = .ok (.iload_n 2, 1) := by decide +kernel
theorem dX2_remainder_5 : decode cX2_remainder 5 = .ok (.invokestatic 42, 3) := by decide +kernel
theorem dX2_remainder_8 : decode cX2_remainder 8 = .ok (.iload_n 3, 1) := by decide +kernel
theorem dX2_remainder_9 : decode cX2_remainder 9 = .ok (.invokestatic 42, 3) := by decide +kernel
theorem dX2_remainder_12 : decode cX2_remainder 12 = .ok (.aload_n 0, 1) := by decide +kernel
theorem dX2_remainder_13 : decode cX2_remainder 13 = .ok (.iload_n 1, 1) := by decide +kernel
theorem dX2_remainder_14 : decode cX2_remainder 14 = .ok (.invokevirtual 71, 3) := by decide +kernel
theorem dX2_remainder_17 : decode cX2_remainder 17 = .ok (.astore 4, 2) := by decide +kernel
theorem dX2_remainder_19 : decode cX2_remainder 19 = .ok (.aload_n 0, 1) := by decide +kernel
theorem dX2_remainder_20 : decode cX2_remainder 20 = .ok (.iload_n 2, 1) := by decide +kernel
theorem dX2_remainder_21 : decode cX2_remainder 21 = .ok (.invokevirtual 71, 3) := by decide +kernel
theorem dX2_remainder_24 : decode cX2_remainder 24 = .ok (.astore 5, 2) := by decide +kernel
theorem dX2_remainder_26 : decode cX2_remainder 26 = .ok (.aload 4, 2) := by decide +kernel
theorem dX2_remainder_28 : decode cX2_remainder 28 = .ok (.getstatic 106, 3) := by decide +kernel
theorem dX2_remainder_31 : decode cX2_remainder 31 = .ok (.invokevirtual 112, 3) := by decide +kernel
theorem dX2_remainder_34 : decode cX2_remainder 34 = .ok (.ifCond .ne 22, 3) := by decide +kernel
theorem dX2_remainder_37 : decode cX2_remainder 37 = .ok (.aload 5, 2) := by decide +kernel
theorem dX2_remainder_39 : decode cX2_remainder 39 = .ok (.invokevirtual 96, 3) := by decide +kernel
theorem dX2_remainder_42 : decode cX2_remainder 42 = .ok (.ifCond .ne 14, 3) := by decide +kernel
theorem dX2_remainder_45 : decode cX2_remainder 45 = .ok (.aload 5, 2) := by decide +kernel
theorem dX2_remainder_47 : decode cX2_remainder 47 = .ok (.getstatic 116, 3) := by decide +kernel
theorem dX2_remainder_50 : decode cX2_remainder 50 = .ok (.invokevirtual 112, 3) := by decide +kernel
theorem dX2_remainder_53 : decode cX2_remainder 53 = .ok (.ifCond .eq 7, 3) := by decide +kernel
theorem dX2_remainder_56 : decode cX2_remainder 56 = .ok (.iconst 1, 1) := by decide +kernel
theorem dX2_remainder_57 : decode cX2_remainder 57 = .ok (.goto 4, 3) := by decide +kernel
theorem dX2_remainder_60 : decode cX2_remainder 60 = .ok (.iconst 0, 1) := by decide +kernel
theorem dX2_remainder_61 : decode cX2_remainder 61 = .ok (.istore 6, 2) := by decide +kernel
theorem dX2_remainder_63 : decode cX2_remainder 63 = .ok (.aload_n 0, 1) := by decide +kernel
theorem dX2_remainder_64 : decode cX2_remainder 64 = .ok (.aload 4, 2) := by decide +kernel
theorem dX2_remainder_66 : decode cX2_remainder 66 = .ok (.aload 5, 2) := by decide +kernel
theorem dX2_remainder_68 : decode cX2_remainder 68 = .ok (.iload 6, 2) := by decide +kernel
theorem dX2_remainder_70 : decode cX2_remainder 70 = .ok (.iconst 0, 1) := by decide +kernel
theorem dX2_remainder_71 : decode cX2_remainder 71 = .ok (.invokevirtual 75, 3) := by decide +kernel
theorem dX2_remainder_74 : decode cX2_remainder 74 = .ok (.ifCond .eq 19, 3) := by decide +kernel
theorem dX2_remainder_77 : decode cX2_remainder 77 = .ok (.aload_n 0, 1) := by decide +kernel
theorem dX2_remainder_78 : decode cX2_remainder 78 = .ok (.iload_n 3, 1) := by decide +kernel
theorem dX2_remainder_79 : decode cX2_remainder 79 = .ok (.aload_n 0, 1) := by decide +kernel
theorem dX2_remainder_80 : decode cX2_remainder 80 = .ok (.aload 4, 2) := by decide +kernel
theorem dX2_remainder_82 : decode cX2_remainder 82 = .ok (.aload 5, 2) := by decide +kernel
theorem dX2_remainder_84 : decode cX2_remainder 84 = .ok (.invokevirtual 119, 3) := by decide +kernel
theorem dX2_remainder_87 : decode cX2_remainder 87 = .ok (.invokevirtual 55, 3) := by decide +kernel
theorem dX2_remainder_90 : decode cX2_remainder 90 = .ok (.goto 22, 3) := by decide +kernel
theorem dX2_remainder_93 : decode cX2_remainder 93 = .ok (.aload_n 0, 1) := by decide +kernel
theorem dX2_remainder_94 : decode cX2_remainder 94 = .ok (.getfield 24, 3) := by decide +kernel
theorem dX2_remainder_97 : decode cX2_remainder 97 = .ok (.ifCond .eq 15, 3) := by decide +kernel
theorem dX2_remainder_100 : decode cX2_remainder 100 = .ok (.aload_n 0, 1) := by decide +kernel
theorem dX2_remainder_101 : decode cX2_remainder 101 = .ok (.iload_n 3, 1) := by decide +kernel
theorem dX2_remainder_102 : decode cX2_remainder 102 = .ok (.aload 4, 2) := by decide +kernel
theorem dX2_remainder_104 : decode cX2_remainder 104 = .ok (.aload 5, 2) := by decide +kernel
theorem dX2_remainder_106 : decode cX2_remainder 106 = .ok (.invokestatic 83, 3) := by decide +kernel
theorem dX2_remainder_109 : decode cX2_remainder 109 = .ok (.invokevirtual 55, 3) := by decide +kernel
theorem dX2_remainder_112 : decode cX2_remainder 112 = .ok (.aload_n 0, 1) := by decide +kernel
theorem dX2_remainder_113 : decode cX2_remainder 113 = .ok (.getfield 21, 3) := by decide +kernel
theorem dX2_remainder_116 : decode cX2_remainder 116 = .ok (.ireturn, 1) := by decide +kernel
set_option maxRecDepth 20000 in
theorem ggX2_compare_X2_needRegister : GoodIn wsX2_compare wsX2_needRegister := goodIn_ca (goodIn_r _ [4, 5, 6] (by decide +kernel) (by decide +kernel)) (goodIn_sub (fun _ h => List.mem_cons_of_mem _ (List.mem_append_right _ h)) (by decide +kernel))
set_option maxRecDepth 20000 in
theorem gX2_compare_X2_needRegister : GoodIn wsX2_compare (va_wsS RX2 42 yX2_needRegister wsX2_needRegister) := goodIn_app (goodIn_of _ (by decide +kernel)) ggX2_compare_X2_needRegister
set_option maxRecDepth 20000 in
theorem ggX2_compare_X2_read : GoodIn wsX2_compare wsX2_read := goodIn_r _ [10, 11, 12, 13, 14, 15, 16, 17, 18, 19, 20, 21, 22, 107, 108, 109, 110, 111, 112, 113, 114, 115] (by decide +kernel) (by decide +kernel)
set_option maxRecDepth 20000 in
theorem gX2_compare_X2_read : GoodIn wsX2_compare (wsV RX2 71 RX2 yX2_read wsX2_read) := goodIn_app (goodIn_of _ (by decide +kernel)) ggX2_compare_X2_read
set_option maxRecDepth 20000 in
theorem ggX2_compare_X2_order : GoodIn wsX2_compare wsX2_order := goodIn_r _ [26, 27, 28, 29, 30, 13, 31, 32, 33, 34, 35, 36, 22, 37, 38, 39, 40, 41, 42, 43, 44, 45, 46, 21, 47, 48, 49, 3, 50, 51, 52, 53, 54, 55, 56, 57, 58, 59, 60, 61, 62, 63, 64, 65, 66, 67, 68, 69, 70, 71, 72, 73, 74, 75, 76, 77, 78, 79, 80, 81, 82, 83, 84, 85, 86, 87, 88, 89, 90, 91, 92, 93, 94, 95, 96, 97, 98, 99, 100, 101, 102, 103, 104, 105, 106, 109, 110, 111, 112, 113, 114, 115, 107, 108] (by decide +kernel) (by decide +kernel)
set_option maxRecDepth 20000 in
theorem gX2_compare_X2_order : GoodIn wsX2_compare (wsV RX2 122 RX2 yX2_order wsX2_order) := goodIn_app (goodIn_of _ (by decide +kernel)) ggX2_compare_X2_order
theorem dX2_compare_0 : decode cX2_compare 0 = .ok (.iload_n 1, 1) := by decide +kernel
theorem dX2_compare_1 : decode cX2_compare 1 = .ok (.invokestatic 42, 3) := by decide +kernel
theorem dX2_compare_4 : decode cX2_compare 4 = .ok (.iload_n 2, 1) := by decide +kernel
theorem dX2_compare_5 : decode cX2_compare 5 = .ok (.invokestatic 42, 3) := by decide +kernel
theorem dX2_compare_8 : decode cX2_compare 8 = .ok (.aload_n 0, 1) := by decide +kernel
theorem dX2_compare_9 : decode cX2_compare 9 = .ok (.aload_n 0, 1) := by decide +kernel
theorem dX2_compare_10 : decode cX2_compare 10 = .ok (.iload_n 1, 1) := by decide +kernel
theorem dX2_compare_11 : decode cX2_compare 11 = .ok (.invokevirtual 71, 3) := by decide +kernel
theorem dX2_compare_14 : decode cX2_compare 14 = .ok (.aload_n 0, 1) := by decide +kernel
theorem dX2_compare_15 : decode cX2_compare 15 = .ok (.iload_n 2, 1) := by decide +kernel
theorem dX2_compare_16 : decode cX2_compare 16 = .ok (.invokevirtual 71, 3) := by decide +kernel
theorem dX2_compare_19 : decode cX2_compare 19 = .ok (.invokevirtual 122, 3) := by decide +kernel
theorem dX2_compare_22 : decode cX2_compare 22 = .ok (.ireturn, 1) := by decide +kernel
set_option maxRecDepth 20000 in
theorem ggX2_test_X2_needRegister : GoodIn wsX2_test wsX2_needRegister := goodIn_ca (goodIn_r _ [4, 5, 6] (by decide +kernel) (by decide +kernel)) (goodIn_sub (fun _ h => List.mem_cons_of_mem _ (List.mem_append_right _ h)) (by decide +kernel))
set_option maxRecDepth 20000 in
theorem gX2_test_X2_needRegister : GoodIn wsX2_test (va_wsS RX2 42 yX2_needRegister wsX2_needRegister) := goodIn_app (goodIn_of _ (by decide +kernel)) ggX2_test_X2_needRegister
set_option maxRecDepth 20000 in
theorem ggX2_test_X2_read : GoodIn wsX2_test wsX2_read := goodIn_r _ [10, 11, 12, 13, 14, 15, 16, 17, 18, 19, 20, 21, 22, 114, 115, 116, 117, 118, 119, 120, 121, 122] (by decide +kernel) (by decide +kernel)
set_option maxRecDepth 20000 in
theorem gX2_test_X2_read : GoodIn wsX2_test (wsV RX2 71 RX2 yX2_read wsX2_read) := goodIn_app (goodIn_of _ (by decide +kernel)) ggX2_test_X2_read
set_option maxRecDepth 20000 in
theorem ggX2_test_X2_zero : GoodIn wsX2_test wsX2_zero := goodIn_r _ [25, 11, 12, 13, 26, 27, 3, 28, 29, 16, 17, 18, 19, 20, 21, 22, 114, 115] (by decide +kernel) (by decide +kernel)
set_option maxRecDepth 20000 in
theorem gX2_test_X2_zero : GoodIn wsX2_test (va_wsS RX2 126 yX2_zero wsX2_zero) := goodIn_app (goodIn_of _ (by decide +kernel)) ggX2_test_X2_zero
set_option maxRecDepth 20000 in
theorem ggX2_test_X2_order : GoodIn wsX2_test wsX2_order := goodIn_r _ [33, 34, 35, 36, 37, 13, 38, 39, 40, 41, 42, 43, 22, 44, 45, 46, 47, 48, 49, 50, 51, 52, 53, 21, 54, 55, 56, 3, 57, 58, 59, 60, 61, 62, 63, 64, 65, 66, 67, 68, 69, 70, 71, 72, 73, 74, 75, 76, 77, 78, 79, 80, 81, 82, 83, 84, 85, 86, 87, 88, 89, 90, 91, 92, 93, 94, 95, 96, 97, 98, 99, 100, 101, 102, 103, 104, 105, 106, 107, 108, 109, 110, 111, 112, 113, 116, 117, 118, 119, 120, 121, 122, 114, 115] (by decide +kernel) (by decide +kernel)
set_option maxRecDepth 20000 in
theorem gX2_test_X2_order : GoodIn wsX2_test (wsV RX2 122 RX2 yX2_order wsX2_order) := goodIn_app (goodIn_of _ (by decide +kernel)) ggX2_test_X2_order
theorem dX2_test_0 : decode cX2_test 0 = .ok (.iload_n 1, 1) := by decide +kernel
theorem dX2_test_1 : decode cX2_test 1 = .ok (.invokestatic 42, 3) := by decide +kernel
theorem dX2_test_4 : decode cX2_test 4 = .ok (.aload_n 0, 1) := by decide +kernel
theorem dX2_test_5 : decode cX2_test 5 = .ok (.aload_n 0, 1) := by decide +kernel
theorem dX2_test_6 : decode cX2_test 6 = .ok (.iload_n 1, 1) := by decide +kernel
theorem dX2_test_7 : decode cX2_test 7 = .ok (.invokevirtual 71, 3) := by decide +kernel
theorem dX2_test_10 : decode cX2_test 10 = .ok (.iconst 0, 1) := by decide +kernel
theorem dX2_test_11 : decode cX2_test 11 = .ok (.invokestatic 126, 3) := by decide +kernel
theorem dX2_test_14 : decode cX2_test 14 = .ok (.invokevirtual 122, 3) := by decide +kernel
theorem dX2_test_17 : decode cX2_test 17 = .ok (.ireturn, 1) := by decide +kernel
set_option maxRecDepth 20000 in
theorem ggX2_examine_X2_needRegister : GoodIn wsX2_examine wsX2_needRegister := goodIn_ca (goodIn_r _ [4, 5, 6] (by decide +kernel) (by decide +kernel)) (goodIn_sub (fun _ h => List.mem_cons_of_mem _ (List.mem_append_right _ h)) (by decide +kernel))
set_option maxRecDepth 20000 in
theorem gX2_examine_X2_needRegister : GoodIn wsX2_examine (va_wsS RX2 42 yX2_needRegister wsX2_needRegister) := goodIn_app (goodIn_of _ (by decide +kernel)) ggX2_examine_X2_needRegister
set_option maxRecDepth 20000 in
theorem ggX2_examine_X2_read : GoodIn wsX2_examine wsX2_read := goodIn_r _ [10, 11, 12, 13, 14, 15, 16, 17, 18, 19, 20, 21, 22, 40, 41, 42, 43, 44, 45, 46, 47, 48] (by decide +kernel) (by decide +kernel)
set_option maxRecDepth 20000 in
theorem gX2_examine_X2_read : GoodIn wsX2_examine (wsV RX2 71 RX2 yX2_read wsX2_read) := goodIn_app (goodIn_of _ (by decide +kernel)) ggX2_examine_X2_read
set_option maxRecDepth 20000 in
theorem ggX2_examine_X1_kind : GoodIn wsX2_examine wsX1_kind := goodIn_r _ [25, 22, 26, 27, 28, 29, 30, 31, 32, 33, 34, 13, 35, 21, 40, 41] (by decide +kernel) (by decide +kernel)
set_option maxRecDepth 20000 in
theorem gX2_examine_X1_kind_n130 : GoodIn wsX2_examine (wsX1_kind) := ggX2_examine_X1_kind
set_option maxRecDepth 20000 in
theorem ggX2_examine_X1_isNegative : GoodIn wsX2_examine wsX1_isNegative := goodIn_r _ [38, 21, 39, 40, 41] (by decide +kernel) (by decide +kernel)
set_option maxRecDepth 20000 in
theorem gX2_examine_X1_isNegative_n137 : GoodIn wsX2_examine (wsX1_isNegative) := ggX2_examine_X1_isNegative
theorem dX2_examine_0 : decode cX2_examine 0 = .ok (.iload_n 1, 1) := by decide +kernel
theorem dX2_examine_1 : decode cX2_examine 1 = .ok (.invokestatic 42, 3) := by decide +kernel
theorem dX2_examine_4 : decode cX2_examine 4 = .ok (.aload_n 0, 1) := by decide +kernel
theorem dX2_examine_5 : decode cX2_examine 5 = .ok (.iload_n 1, 1) := by decide +kernel
theorem dX2_examine_6 : decode cX2_examine 6 = .ok (.invokevirtual 71, 3) := by decide +kernel
theorem dX2_examine_9 : decode cX2_examine 9 = .ok (.astore_n 2, 1) := by decide +kernel
theorem dX2_examine_10 : decode cX2_examine 10 = .ok (.aload_n 2, 1) := by decide +kernel
theorem dX2_examine_11 : decode cX2_examine 11 = .ok (.invokevirtual 130, 3) := by decide +kernel
theorem dX2_examine_14 : decode cX2_examine 14 = .ok (.getfield 134, 3) := by decide +kernel
theorem dX2_examine_17 : decode cX2_examine 17 = .ok (.aload_n 2, 1) := by decide +kernel
theorem dX2_examine_18 : decode cX2_examine 18 = .ok (.invokevirtual 137, 3) := by decide +kernel
theorem dX2_examine_21 : decode cX2_examine 21 = .ok (.ifCond .eq 7, 3) := by decide +kernel
theorem dX2_examine_24 : decode cX2_examine 24 = .ok (.iconst 2, 1) := by decide +kernel
theorem dX2_examine_25 : decode cX2_examine 25 = .ok (.goto 4, 3) := by decide +kernel
theorem dX2_examine_28 : decode cX2_examine 28 = .ok (.iconst 0, 1) := by decide +kernel
theorem dX2_examine_29 : decode cX2_examine 29 = .ok (.iadd, 1) := by decide +kernel
theorem dX2_examine_30 : decode cX2_examine 30 = .ok (.ireturn, 1) := by decide +kernel
theorem dX2_told_0 : decode cX2_told 0 = .ok (.iload_n 1, 1) := by decide +kernel
theorem dX2_told_1 : decode cX2_told 1 = .ok (.tableswitch 67 0 3 #[31, 36, 49, 54], 31) := by decide +kernel
theorem dX2_told_32 : decode cX2_told 32 = .ok (.aload_n 0, 1) := by decide +kernel
theorem dX2_told_33 : decode cX2_told 33 = .ok (.getfield 21, 3) := by decide +kernel
theorem dX2_told_36 : decode cX2_told 36 = .ok (.ireturn, 1) := by decide +kernel
theorem dX2_told_37 : decode cX2_told 37 = .ok (.aload_n 0, 1) := by decide +kernel
theorem dX2_told_38 : decode cX2_told 38 = .ok (.getfield 24, 3) := by decide +kernel
theorem dX2_told_41 : decode cX2_told 41 = .ok (.ifCond .eq 7, 3) := by decide +kernel
theorem dX2_told_44 : decode cX2_told 44 = .ok (.iconst 1, 1) := by decide +kernel
theorem dX2_told_45 : decode cX2_told 45 = .ok (.goto 4, 3) := by decide +kernel
theorem dX2_told_48 : decode cX2_told 48 = .ok (.iconst 0, 1) := by decide +kernel
theorem dX2_told_49 : decode cX2_told 49 = .ok (.ireturn, 1) := by decide +kernel
theorem dX2_told_50 : decode cX2_told 50 = .ok (.aload_n 0, 1) := by decide +kernel
theorem dX2_told_51 : decode cX2_told 51 = .ok (.getfield 28, 3) := by decide +kernel
theorem dX2_told_54 : decode cX2_told 54 = .ok (.ireturn, 1) := by decide +kernel
theorem dX2_told_55 : decode cX2_told 55 = .ok (.aload_n 0, 1) := by decide +kernel
theorem dX2_told_56 : decode cX2_told 56 = .ok (.getfield 31, 3) := by decide +kernel
theorem dX2_told_59 : decode cX2_told 59 = .ok (.ifCond .eq 7, 3) := by decide +kernel
theorem dX2_told_62 : decode cX2_told 62 = .ok (.iconst 1, 1) := by decide +kernel
theorem dX2_told_63 : decode cX2_told 63 = .ok (.goto 4, 3) := by decide +kernel
theorem dX2_told_66 : decode cX2_told 66 = .ok (.iconst 0, 1) := by decide +kernel
theorem dX2_told_67 : decode cX2_told 67 = .ok (.ireturn, 1) := by decide +kernel
theorem dX2_told_68 : decode cX2_told 68 = .ok (.new 35, 3) := by decide +kernel
theorem dX2_told_71 : decode cX2_told 71 = .ok (.dup, 1) := by decide +kernel
theorem dX2_told_72 : decode cX2_told 72 = .ok (.ldc 140, 2) := by decide +kernel
theorem dX2_told_74 : decode cX2_told 74 = .ok (.invokespecial 39, 3) := by decide +kernel
theorem dX2_told_77 : decode cX2_told 77 = .ok (.athrow, 1) := by decide +kernel
theorem dX2_needRegister_0 : decode cX2_needRegister 0 = .ok (.iload_n 0, 1) := by decide +kernel
theorem dX2_needRegister_1 : decode cX2_needRegister 1 = .ok (.ifCond .lt 9, 3) := by decide +kernel
theorem dX2_needRegister_4 : decode cX2_needRegister 4 = .ok (.iload_n 0, 1) := by decide +kernel
theorem dX2_needRegister_5 : decode cX2_needRegister 5 = .ok (.bipush 8, 2) := by decide +kernel
theorem dX2_needRegister_7 : decode cX2_needRegister 7 = .ok (.if_icmp .lt 13, 3) := by decide +kernel
theorem dX2_needRegister_10 : decode cX2_needRegister 10 = .ok (.new 142, 3) := by decide +kernel
theorem dX2_needRegister_13 : decode cX2_needRegister 13 = .ok (.dup, 1) := by decide +kernel
theorem dX2_needRegister_14 : decode cX2_needRegister 14 = .ok (.ldc 144, 2) := by decide +kernel
theorem dX2_needRegister_16 : decode cX2_needRegister 16 = .ok (.invokespecial 146, 3) := by decide +kernel
theorem dX2_needRegister_19 : decode cX2_needRegister 19 = .ok (.athrow, 1) := by decide +kernel
theorem dX2_needRegister_20 : decode cX2_needRegister 20 = .ok (.return_, 1) := by decide +kernel
set_option maxRecDepth 20000 in
theorem ggX2_read_X1_init : GoodIn wsX2_read wsX1_init := goodIn_r _ [7, 8, 9, 10, 11, 12, 13, 14] (by decide +kernel) (by decide +kernel)
set_option maxRecDepth 20000 in
theorem gX2_read_X1_init_n52 : GoodIn wsX2_read (wsX1_init) := ggX2_read_X1_init
theorem dX2_read_0 : decode cX2_read 0 = .ok (.new 48, 3) := by decide +kernel
theorem dX2_read_3 : decode cX2_read 3 = .ok (.dup, 1) := by decide +kernel
theorem dX2_read_4 : decode cX2_read 4 = .ok (.aload_n 0, 1) := by decide +kernel
theorem dX2_read_5 : decode cX2_read 5 = .ok (.getfield 9, 3) := by decide +kernel
theorem dX2_read_8 : decode cX2_read 8 = .ok (.iload_n 1, 1) := by decide +kernel
theorem dX2_read_9 : decode cX2_read 9 = .ok (.iaload, 1) := by decide +kernel
theorem dX2_read_10 : decode cX2_read 10 = .ok (.aload_n 0, 1) := by decide +kernel
theorem dX2_read_11 : decode cX2_read 11 = .ok (.getfield 13, 3) := by decide +kernel
theorem dX2_read_14 : decode cX2_read 14 = .ok (.iload_n 1, 1) := by decide +kernel
theorem dX2_read_15 : decode cX2_read 15 = .ok (.laload, 1) := by decide +kernel
theorem dX2_read_16 : decode cX2_read 16 = .ok (.invokespecial 52, 3) := by decide +kernel
theorem dX2_read_19 : decode cX2_read 19 = .ok (.areturn, 1) := by decide +kernel
theorem dX2_write_0 : decode cX2_write 0 = .ok (.aload_n 0, 1) := by decide +kernel
theorem dX2_write_1 : decode cX2_write 1 = .ok (.getfield 9, 3) := by decide +kernel
theorem dX2_write_4 : decode cX2_write 4 = .ok (.iload_n 1, 1) := by decide +kernel
theorem dX2_write_5 : decode cX2_write 5 = .ok (.aload_n 2, 1) := by decide +kernel
theorem dX2_write_6 : decode cX2_write 6 = .ok (.getfield 147, 3) := by decide +kernel
theorem dX2_write_9 : decode cX2_write 9 = .ok (.iastore, 1) := by decide +kernel
theorem dX2_write_10 : decode cX2_write 10 = .ok (.aload_n 0, 1) := by decide +kernel
theorem dX2_write_11 : decode cX2_write 11 = .ok (.getfield 13, 3) := by decide +kernel
theorem dX2_write_14 : decode cX2_write 14 = .ok (.iload_n 1, 1) := by decide +kernel
theorem dX2_write_15 : decode cX2_write 15 = .ok (.aload_n 2, 1) := by decide +kernel
theorem dX2_write_16 : decode cX2_write 16 = .ok (.getfield 150, 3) := by decide +kernel
theorem dX2_write_19 : decode cX2_write 19 = .ok (.lastore, 1) := by decide +kernel
theorem dX2_write_20 : decode cX2_write 20 = .ok (.return_, 1) := by decide +kernel
theorem dX2_rounding_0 : decode cX2_rounding 0 = .ok (.aload_n 0, 1) := by decide +kernel
theorem dX2_rounding_1 : decode cX2_rounding 1 = .ok (.getfield 17, 3) := by decide +kernel
theorem dX2_rounding_4 : decode cX2_rounding 4 = .ok (.bipush 10, 2) := by decide +kernel
theorem dX2_rounding_6 : decode cX2_rounding 6 = .ok (.iushr, 1) := by decide +kernel
theorem dX2_rounding_7 : decode cX2_rounding 7 = .ok (.iconst 3, 1) := by decide +kernel
theorem dX2_rounding_8 : decode cX2_rounding 8 = .ok (.iand, 1) := by decide +kernel
theorem dX2_rounding_9 : decode cX2_rounding 9 = .ok (.ireturn, 1) := by decide +kernel
theorem dX2_isMasked_0 : decode cX2_isMasked 0 = .ok (.aload_n 0, 1) := by decide +kernel
theorem dX2_isMasked_1 : decode cX2_isMasked 1 = .ok (.getfield 17, 3) := by decide +kernel
theorem dX2_isMasked_4 : decode cX2_isMasked 4 = .ok (.iload_n 1, 1) := by decide +kernel
theorem dX2_isMasked_5 : decode cX2_isMasked 5 = .ok (.iand, 1) := by decide +kernel
theorem dX2_isMasked_6 : decode cX2_isMasked 6 = .ok (.ifCond .eq 7, 3) := by decide +kernel
theorem dX2_isMasked_9 : decode cX2_isMasked 9 = .ok (.iconst 1, 1) := by decide +kernel
theorem dX2_isMasked_10 : decode cX2_isMasked 10 = .ok (.goto 4, 3) := by decide +kernel
theorem dX2_isMasked_13 : decode cX2_isMasked 13 = .ok (.iconst 0, 1) := by decide +kernel
theorem dX2_isMasked_14 : decode cX2_isMasked 14 = .ok (.ireturn, 1) := by decide +kernel
set_option maxRecDepth 20000 in
theorem ggX2_goesOn_X1_isOf : GoodIn wsX2_goesOn wsX1_isOf := goodIn_r _ [8, 9, 10, 11, 6, 12, 13, 14, 15, 16, 17, 18, 19, 20, 21, 22, 23, 24, 42, 43] (by decide +kernel) (by decide +kernel)
set_option maxRecDepth 20000 in
theorem gX2_goesOn_X1_isOf_n112 : GoodIn wsX2_goesOn (wsX1_isOf) := ggX2_goesOn_X1_isOf
set_option maxRecDepth 20000 in
theorem ggX2_goesOn_X2_tellAtFirst : GoodIn wsX2_goesOn wsX2_tellAtFirst := goodIn_r _ [29, 1, 2, 30, 31, 32, 28, 33, 34, 35, 36, 37, 38, 39, 40, 41] (by decide +kernel) (by decide +kernel)
set_option maxRecDepth 20000 in
theorem gX2_goesOn_X2_tellAtFirst : GoodIn wsX2_goesOn (wsV RX2 157 RX2 yX2_tellAtFirst wsX2_tellAtFirst) := goodIn_app (goodIn_of _ (by decide +kernel)) ggX2_goesOn_X2_tellAtFirst
theorem dX2_goesOn_0 : decode cX2_goesOn 0 = .ok (.aload_n 0, 1) := by decide +kernel
theorem dX2_goesOn_1 : decode cX2_goesOn 1 = .ok (.iconst 0, 1) := by decide +kernel
theorem dX2_goesOn_2 : decode cX2_goesOn 2 = .ok (.putfield 21, 3) := by decide +kernel
theorem dX2_goesOn_5 : decode cX2_goesOn 5 = .ok (.aload_n 0, 1) := by decide +kernel
theorem dX2_goesOn_6 : decode cX2_goesOn 6 = .ok (.iconst 1, 1) := by decide +kernel
theorem dX2_goesOn_7 : decode cX2_goesOn 7 = .ok (.putfield 24, 3) := by decide +kernel
theorem dX2_goesOn_10 : decode cX2_goesOn 10 = .ok (.aload_n 1, 1) := by decide +kernel
theorem dX2_goesOn_11 : decode cX2_goesOn 11 = .ok (.getstatic 154, 3) := by decide +kernel
theorem dX2_goesOn_14 : decode cX2_goesOn 14 = .ok (.invokevirtual 112, 3) := by decide +kernel
theorem dX2_goesOn_17 : decode cX2_goesOn 17 = .ok (.ifCond .ne 17, 3) := by decide +kernel
theorem dX2_goesOn_20 : decode cX2_goesOn 20 = .ok (.aload_n 2, 1) := by decide +kernel
theorem dX2_goesOn_21 : decode cX2_goesOn 21 = .ok (.getstatic 154, 3) := by decide +kernel
theorem dX2_goesOn_24 : decode cX2_goesOn 24 = .ok (.invokevirtual 112, 3) := by decide +kernel
theorem dX2_goesOn_27 : decode cX2_goesOn 27 = .ok (.ifCond .ne 7, 3) := by decide +kernel
theorem dX2_goesOn_30 : decode cX2_goesOn 30 = .ok (.iload_n 3, 1) := by decide +kernel
theorem dX2_goesOn_31 : decode cX2_goesOn 31 = .ok (.ifCond .eq 10, 3) := by decide +kernel
theorem dX2_goesOn_34 : decode cX2_goesOn 34 = .ok (.aload_n 0, 1) := by decide +kernel
theorem dX2_goesOn_35 : decode cX2_goesOn 35 = .ok (.iconst 1, 1) := by decide +kernel
theorem dX2_goesOn_36 : decode cX2_goesOn 36 = .ok (.invokevirtual 157, 3) := by decide +kernel
theorem dX2_goesOn_39 : decode cX2_goesOn 39 = .ok (.iconst 0, 1) := by decide +kernel
theorem dX2_goesOn_40 : decode cX2_goesOn 40 = .ok (.ireturn, 1) := by decide +kernel
theorem dX2_goesOn_41 : decode cX2_goesOn 41 = .ok (.aload_n 1, 1) := by decide +kernel
theorem dX2_goesOn_42 : decode cX2_goesOn 42 = .ok (.getstatic 160, 3) := by decide +kernel
theorem dX2_goesOn_45 : decode cX2_goesOn 45 = .ok (.invokevirtual 112, 3) := by decide +kernel
theorem dX2_goesOn_48 : decode cX2_goesOn 48 = .ok (.ifCond .ne 13, 3) := by decide +kernel
theorem dX2_goesOn_51 : decode cX2_goesOn 51 = .ok (.aload_n 2, 1) := by decide +kernel
theorem dX2_goesOn_52 : decode cX2_goesOn 52 = .ok (.getstatic 160, 3) := by decide +kernel
theorem dX2_goesOn_55 : decode cX2_goesOn 55 = .ok (.invokevirtual 112, 3) := by decide +kernel
theorem dX2_goesOn_58 : decode cX2_goesOn 58 = .ok (.ifCond .eq 8, 3) := by decide +kernel
theorem dX2_goesOn_61 : decode cX2_goesOn 61 = .ok (.aload_n 0, 1) := by decide +kernel
theorem dX2_goesOn_62 : decode cX2_goesOn 62 = .ok (.iconst 2, 1) := by decide +kernel
theorem dX2_goesOn_63 : decode cX2_goesOn 63 = .ok (.invokevirtual 157, 3) := by decide +kernel
theorem dX2_goesOn_66 : decode cX2_goesOn 66 = .ok (.aload_n 0, 1) := by decide +kernel
theorem dX2_goesOn_67 : decode cX2_goesOn 67 = .ok (.getfield 24, 3) := by decide +kernel
theorem dX2_goesOn_70 : decode cX2_goesOn 70 = .ok (.ifCond .eq 13, 3) := by decide +kernel
theorem dX2_goesOn_73 : decode cX2_goesOn 73 = .ok (.iload 4, 2) := by decide +kernel
theorem dX2_goesOn_75 : decode cX2_goesOn 75 = .ok (.ifCond .eq 8, 3) := by decide +kernel
theorem dX2_goesOn_78 : decode cX2_goesOn 78 = .ok (.aload_n 0, 1) := by decide +kernel
theorem dX2_goesOn_79 : decode cX2_goesOn 79 = .ok (.iconst 4, 1) := by decide +kernel
theorem dX2_goesOn_80 : decode cX2_goesOn 80 = .ok (.invokevirtual 157, 3) := by decide +kernel
theorem dX2_goesOn_83 : decode cX2_goesOn 83 = .ok (.aload_n 0, 1) := by decide +kernel
theorem dX2_goesOn_84 : decode cX2_goesOn 84 = .ok (.getfield 24, 3) := by decide +kernel
theorem dX2_goesOn_87 : decode cX2_goesOn 87 = .ok (.ireturn, 1) := by decide +kernel
set_option maxRecDepth 20000 in
theorem ggX2_tellAtFirst_X2_isMasked : GoodIn wsX2_tellAtFirst wsX2_isMasked := goodIn_r _ [7, 8, 9, 10, 11, 12, 13, 14, 15] (by decide +kernel) (by decide +kernel)
set_option maxRecDepth 20000 in
theorem gX2_tellAtFirst_X2_isMasked : GoodIn wsX2_tellAtFirst (wsV RX2 163 RX2 yX2_isMasked wsX2_isMasked) := goodIn_app (goodIn_of _ (by decide +kernel)) ggX2_tellAtFirst_X2_isMasked
theorem dX2_tellAtFirst_0 : decode cX2_tellAtFirst 0 = .ok (.aload_n 0, 1) := by decide +kernel
theorem dX2_tellAtFirst_1 : decode cX2_tellAtFirst 1 = .ok (.dup, 1) := by decide +kernel
theorem dX2_tellAtFirst_2 : decode cX2_tellAtFirst 2 = .ok (.getfield 21, 3) := by decide +kernel
theorem dX2_tellAtFirst_5 : decode cX2_tellAtFirst 5 = .ok (.iload_n 1, 1) := by decide +kernel
theorem dX2_tellAtFirst_6 : decode cX2_tellAtFirst 6 = .ok (.ior, 1) := by decide +kernel
theorem dX2_tellAtFirst_7 : decode cX2_tellAtFirst 7 = .ok (.putfield 21, 3) := by decide +kernel
theorem dX2_tellAtFirst_10 : decode cX2_tellAtFirst 10 = .ok (.aload_n 0, 1) := by decide +kernel
theorem dX2_tellAtFirst_11 : decode cX2_tellAtFirst 11 = .ok (.aload_n 0, 1) := by decide +kernel
theorem dX2_tellAtFirst_12 : decode cX2_tellAtFirst 12 = .ok (.iload_n 1, 1) := by decide +kernel
theorem dX2_tellAtFirst_13 : decode cX2_tellAtFirst 13 = .ok (.invokevirtual 163, 3) := by decide +kernel
theorem dX2_tellAtFirst_16 : decode cX2_tellAtFirst 16 = .ok (.putfield 24, 3) := by decide +kernel
theorem dX2_tellAtFirst_19 : decode cX2_tellAtFirst 19 = .ok (.return_, 1) := by decide +kernel
set_option maxRecDepth 20000 in
theorem ggX2_substitute_X1_isOf : GoodIn wsX2_substitute wsX1_isOf := goodIn_r _ [9, 10, 11, 12, 4, 13, 14, 15, 16, 17, 18, 19, 20, 21, 22, 23, 24, 25, 47, 48] (by decide +kernel) (by decide +kernel)
set_option maxRecDepth 20000 in
theorem gX2_substitute_X1_isOf_n112 : GoodIn wsX2_substitute (wsX1_isOf) := ggX2_substitute_X1_isOf
set_option maxRecDepth 20000 in
theorem ggX2_substitute_X2_greaterNoNumber : GoodIn wsX2_substitute wsX2_greaterNoNumber := goodIn_r _ [29, 30, 4, 31, 32, 25, 33, 34, 35, 36, 37, 38, 39, 40, 41, 47, 48] (by decide +kernel) (by decide +kernel)
set_option maxRecDepth 20000 in
theorem gX2_substitute_X2_greaterNoNumber : GoodIn wsX2_substitute (va_wsS RX2 167 yX2_greaterNoNumber wsX2_greaterNoNumber) := goodIn_app (goodIn_of _ (by decide +kernel)) ggX2_substitute_X2_greaterNoNumber
set_option maxRecDepth 20000 in
theorem ggX2_substitute_X1_init : GoodIn wsX2_substitute wsX1_init := goodIn_r _ [43, 44, 45, 46, 25, 14, 47, 48] (by decide +kernel) (by decide +kernel)
set_option maxRecDepth 20000 in
theorem gX2_substitute_X1_init_n52 : GoodIn wsX2_substitute (wsX1_init) := ggX2_substitute_X1_init
theorem dX2_substitute_0 : decode cX2_substitute 0 = .ok (.aload_n 0, 1) := by decide +kernel
theorem dX2_substitute_1 : decode cX2_substitute 1 = .ok (.getstatic 154, 3) := by decide +kernel
theorem dX2_substitute_4 : decode cX2_substitute 4 = .ok (.invokevirtual 112, 3) := by decide +kernel
theorem dX2_substitute_7 : decode cX2_substitute 7 = .ok (.istore_n 2, 1) := by decide +kernel
theorem dX2_substitute_8 : decode cX2_substitute 8 = .ok (.aload_n 1, 1) := by decide +kernel
theorem dX2_substitute_9 : decode cX2_substitute 9 = .ok (.getstatic 154, 3) := by decide +kernel
theorem dX2_substitute_12 : decode cX2_substitute 12 = .ok (.invokevirtual 112, 3) := by decide +kernel
theorem dX2_substitute_15 : decode cX2_substitute 15 = .ok (.istore_n 3, 1) := by decide +kernel
theorem dX2_substitute_16 : decode cX2_substitute 16 = .ok (.iload_n 2, 1) := by decide +kernel
theorem dX2_substitute_17 : decode cX2_substitute 17 = .ok (.ifCond .eq 13, 3) := by decide +kernel
theorem dX2_substitute_20 : decode cX2_substitute 20 = .ok (.iload_n 3, 1) := by decide +kernel
theorem dX2_substitute_21 : decode cX2_substitute 21 = .ok (.ifCond .eq 9, 3) := by decide +kernel
theorem dX2_substitute_24 : decode cX2_substitute 24 = .ok (.aload_n 0, 1) := by decide +kernel
theorem dX2_substitute_25 : decode cX2_substitute 25 = .ok (.aload_n 1, 1) := by decide +kernel
theorem dX2_substitute_26 : decode cX2_substitute 26 = .ok (.invokestatic 167, 3) := by decide +kernel
theorem dX2_substitute_29 : decode cX2_substitute 29 = .ok (.areturn, 1) := by decide +kernel
theorem dX2_substitute_30 : decode cX2_substitute 30 = .ok (.iload_n 2, 1) := by decide +kernel
theorem dX2_substitute_31 : decode cX2_substitute 31 = .ok (.ifCond .eq 5, 3) := by decide +kernel
theorem dX2_substitute_34 : decode cX2_substitute 34 = .ok (.aload_n 0, 1) := by decide +kernel
theorem dX2_substitute_35 : decode cX2_substitute 35 = .ok (.areturn, 1) := by decide +kernel
theorem dX2_substitute_36 : decode cX2_substitute 36 = .ok (.iload_n 3, 1) := by decide +kernel
theorem dX2_substitute_37 : decode cX2_substitute 37 = .ok (.ifCond .eq 7, 3) := by decide +kernel
theorem dX2_substitute_40 : decode cX2_substitute 40 = .ok (.aload_n 1, 1) := by decide +kernel
theorem dX2_substitute_41 : decode cX2_substitute 41 = .ok (.goto 15, 3) := by decide +kernel
theorem dX2_substitute_44 : decode cX2_substitute 44 = .ok (.new 48, 3) := by decide +kernel
theorem dX2_substitute_47 : decode cX2_substitute 47 = .ok (.dup, 1) := by decide +kernel
theorem dX2_substitute_48 : decode cX2_substitute 48 = .ok (.ldc 34, 2) := by decide +kernel
theorem dX2_substitute_50 : decode cX2_substitute 50 = .ok (.ldc2_w 170, 3) := by decide +kernel
theorem dX2_substitute_53 : decode cX2_substitute 53 = .ok (.invokespecial 52, 3) := by decide +kernel
theorem dX2_substitute_56 : decode cX2_substitute 56 = .ok (.areturn, 1) := by decide +kernel
set_option maxRecDepth 20000 in
theorem ggX2_greaterNoNumber_X1_isNegative : GoodIn wsX2_greaterNoNumber wsX1_isNegative := goodIn_r _ [4, 5, 6, 15, 16] (by decide +kernel) (by decide +kernel)
set_option maxRecDepth 20000 in
theorem gX2_greaterNoNumber_X1_isNegative_n137 : GoodIn wsX2_greaterNoNumber (wsX1_isNegative) := ggX2_greaterNoNumber_X1_isNegative
set_option maxRecDepth 20000 in
theorem ggX2_greaterNoNumber_J13_compareUnsigned_74951 : GoodIn wsX2_greaterNoNumber wsJ13_compareUnsigned_74951 := goodIn_r _ [10, 11, 12, 13, 9, 14] (by decide +kernel) (by decide +kernel)
set_option maxRecDepth 20000 in
theorem gX2_greaterNoNumber_J13_compareUnsigned_74951 : GoodIn wsX2_greaterNoNumber (va_wsS RX2 172 yJ13_compareUnsigned_74951 wsJ13_compareUnsigned_74951) := goodIn_app (goodIn_of _ (by decide +kernel)) ggX2_greaterNoNumber_J13_compareUnsigned_74951
theorem dX2_greaterNoNumber_0 : decode cX2_greaterNoNumber 0 = .ok (.aload_n 0, 1) := by decide +kernel
theorem dX2_greaterNoNumber_1 : decode cX2_greaterNoNumber 1 = .ok (.getfield 150, 3) := by decide +kernel
theorem dX2_greaterNoNumber_4 : decode cX2_greaterNoNumber 4 = .ok (.aload_n 1, 1) := by decide +kernel
theorem dX2_greaterNoNumber_5 : decode cX2_greaterNoNumber 5 = .ok (.getfield 150, 3) := by decide +kernel
theorem dX2_greaterNoNumber_8 : decode cX2_greaterNoNumber 8 = .ok (.lcmp, 1) := by decide +kernel
theorem dX2_greaterNoNumber_9 : decode cX2_greaterNoNumber 9 = .ok (.ifCond .ne 16, 3) := by decide +kernel
theorem dX2_greaterNoNumber_12 : decode cX2_greaterNoNumber 12 = .ok (.aload_n 0, 1) := by decide +kernel
theorem dX2_greaterNoNumber_13 : decode cX2_greaterNoNumber 13 = .ok (.invokevirtual 137, 3) := by decide +kernel
theorem dX2_greaterNoNumber_16 : decode cX2_greaterNoNumber 16 = .ok (.ifCond .eq 7, 3) := by decide +kernel
theorem dX2_greaterNoNumber_19 : decode cX2_greaterNoNumber 19 = .ok (.aload_n 1, 1) := by decide +kernel
theorem dX2_greaterNoNumber_20 : decode cX2_greaterNoNumber 20 = .ok (.goto 4, 3) := by decide +kernel
theorem dX2_greaterNoNumber_23 : decode cX2_greaterNoNumber 23 = .ok (.aload_n 0, 1) := by decide +kernel
theorem dX2_greaterNoNumber_24 : decode cX2_greaterNoNumber 24 = .ok (.areturn, 1) := by decide +kernel
theorem dX2_greaterNoNumber_25 : decode cX2_greaterNoNumber 25 = .ok (.aload_n 0, 1) := by decide +kernel
theorem dX2_greaterNoNumber_26 : decode cX2_greaterNoNumber 26 = .ok (.getfield 150, 3) := by decide +kernel
theorem dX2_greaterNoNumber_29 : decode cX2_greaterNoNumber 29 = .ok (.aload_n 1, 1) := by decide +kernel
theorem dX2_greaterNoNumber_30 : decode cX2_greaterNoNumber 30 = .ok (.getfield 150, 3) := by decide +kernel
theorem dX2_greaterNoNumber_33 : decode cX2_greaterNoNumber 33 = .ok (.invokestatic 172, 3) := by decide +kernel
theorem dX2_greaterNoNumber_36 : decode cX2_greaterNoNumber 36 = .ok (.ifCond .le 7, 3) := by decide +kernel
theorem dX2_greaterNoNumber_39 : decode cX2_greaterNoNumber 39 = .ok (.aload_n 0, 1) := by decide +kernel
theorem dX2_greaterNoNumber_40 : decode cX2_greaterNoNumber 40 = .ok (.goto 4, 3) := by decide +kernel
theorem dX2_greaterNoNumber_43 : decode cX2_greaterNoNumber 43 = .ok (.aload_n 1, 1) := by decide +kernel
theorem dX2_greaterNoNumber_44 : decode cX2_greaterNoNumber 44 = .ok (.areturn, 1) := by decide +kernel
theorem dX2_signOf_0 : decode cX2_signOf 0 = .ok (.iload_n 0, 1) := by decide +kernel
theorem dX2_signOf_1 : decode cX2_signOf 1 = .ok (.ifCond .eq 8, 3) := by decide +kernel
theorem dX2_signOf_4 : decode cX2_signOf 4 = .ok (.ldc 62, 2) := by decide +kernel
theorem dX2_signOf_6 : decode cX2_signOf 6 = .ok (.goto 4, 3) := by decide +kernel
theorem dX2_signOf_9 : decode cX2_signOf 9 = .ok (.iconst 0, 1) := by decide +kernel
theorem dX2_signOf_10 : decode cX2_signOf 10 = .ok (.ireturn, 1) := by decide +kernel
set_option maxRecDepth 20000 in
theorem ggX2_zero_X2_signOf : GoodIn wsX2_zero wsX2_signOf := goodIn_r _ [7, 8] (by decide +kernel) (by decide +kernel)
set_option maxRecDepth 20000 in
theorem gX2_zero_X2_signOf : GoodIn wsX2_zero (va_wsS RX2 178 yX2_signOf wsX2_signOf) := goodIn_app (goodIn_of _ (by decide +kernel)) ggX2_zero_X2_signOf
set_option maxRecDepth 20000 in
theorem ggX2_zero_X1_init : GoodIn wsX2_zero wsX1_init := goodIn_r _ [10, 11, 12, 13, 14, 15, 16, 17] (by decide +kernel) (by decide +kernel)
set_option maxRecDepth 20000 in
theorem gX2_zero_X1_init_n52 : GoodIn wsX2_zero (wsX1_init) := ggX2_zero_X1_init
theorem dX2_zero_0 : decode cX2_zero 0 = .ok (.new 48, 3) := by decide +kernel
theorem dX2_zero_3 : decode cX2_zero 3 = .ok (.dup, 1) := by decide +kernel
theorem dX2_zero_4 : decode cX2_zero 4 = .ok (.iload_n 0, 1) := by decide +kernel
theorem dX2_zero_5 : decode cX2_zero 5 = .ok (.invokestatic 178, 3) := by decide +kernel
theorem dX2_zero_8 : decode cX2_zero 8 = .ok (.lconst 0, 1) := by decide +kernel
theorem dX2_zero_9 : decode cX2_zero 9 = .ok (.invokespecial 52, 3) := by decide +kernel
theorem dX2_zero_12 : decode cX2_zero 12 = .ok (.areturn, 1) := by decide +kernel
set_option maxRecDepth 20000 in
theorem ggX2_infinite_X2_signOf : GoodIn wsX2_infinite wsX2_signOf := goodIn_r _ [8, 9] (by decide +kernel) (by decide +kernel)
set_option maxRecDepth 20000 in
theorem gX2_infinite_X2_signOf : GoodIn wsX2_infinite (va_wsS RX2 178 yX2_signOf wsX2_signOf) := goodIn_app (goodIn_of _ (by decide +kernel)) ggX2_infinite_X2_signOf
set_option maxRecDepth 20000 in
theorem ggX2_infinite_X1_init : GoodIn wsX2_infinite wsX1_init := goodIn_r _ [11, 12, 13, 14, 15, 16, 17, 18] (by decide +kernel) (by decide +kernel)
set_option maxRecDepth 20000 in
theorem gX2_infinite_X1_init_n52 : GoodIn wsX2_infinite (wsX1_init) := ggX2_infinite_X1_init
theorem dX2_infinite_0 : decode cX2_infinite 0 = .ok (.new 48, 3) := by decide +kernel
theorem dX2_infinite_3 : decode cX2_infinite 3 = .ok (.dup, 1) := by decide +kernel
theorem dX2_infinite_4 : decode cX2_infinite 4 = .ok (.iload_n 0, 1) := by decide +kernel
theorem dX2_infinite_5 : decode cX2_infinite 5 = .ok (.invokestatic 178, 3) := by decide +kernel
theorem dX2_infinite_8 : decode cX2_infinite 8 = .ok (.sipush 32767, 3) := by decide +kernel
theorem dX2_infinite_11 : decode cX2_infinite 11 = .ok (.ior, 1) := by decide +kernel
theorem dX2_infinite_12 : decode cX2_infinite 12 = .ok (.ldc2_w 182, 3) := by decide +kernel
theorem dX2_infinite_15 : decode cX2_infinite 15 = .ok (.invokespecial 52, 3) := by decide +kernel
theorem dX2_infinite_18 : decode cX2_infinite 18 = .ok (.areturn, 1) := by decide +kernel
set_option maxRecDepth 20000 in
theorem ggX2_normal_X2_signOf : GoodIn wsX2_normal wsX2_signOf := goodIn_r _ [7, 8] (by decide +kernel) (by decide +kernel)
set_option maxRecDepth 20000 in
theorem gX2_normal_X2_signOf : GoodIn wsX2_normal (va_wsS RX2 178 yX2_signOf wsX2_signOf) := goodIn_app (goodIn_of _ (by decide +kernel)) ggX2_normal_X2_signOf
set_option maxRecDepth 20000 in
theorem ggX2_normal_X1_init : GoodIn wsX2_normal wsX1_init := goodIn_r _ [10, 11, 12, 13, 14, 15, 16, 17] (by decide +kernel) (by decide +kernel)
set_option maxRecDepth 20000 in
theorem gX2_normal_X1_init_n52 : GoodIn wsX2_normal (wsX1_init) := ggX2_normal_X1_init
theorem dX2_normal_0 : decode cX2_normal 0 = .ok (.new 48, 3) := by decide +kernel
theorem dX2_normal_3 : decode cX2_normal 3 = .ok (.dup, 1) := by decide +kernel
theorem dX2_normal_4 : decode cX2_normal 4 = .ok (.iload_n 0, 1) := by decide +kernel
theorem dX2_normal_5 : decode cX2_normal 5 = .ok (.invokestatic 178, 3) := by decide +kernel
theorem dX2_normal_8 : decode cX2_normal 8 = .ok (.iload_n 1, 1) := by decide +kernel
theorem dX2_normal_9 : decode cX2_normal 9 = .ok (.sipush 16383, 3) := by decide +kernel
theorem dX2_normal_12 : decode cX2_normal 12 = .ok (.iadd, 1) := by decide +kernel
theorem dX2_normal_13 : decode cX2_normal 13 = .ok (.ior, 1) := by decide +kernel
theorem dX2_normal_14 : decode cX2_normal 14 = .ok (.lload_n 2, 1) := by decide +kernel
theorem dX2_normal_15 : decode cX2_normal 15 = .ok (.invokespecial 52, 3) := by decide +kernel
theorem dX2_normal_18 : decode cX2_normal 18 = .ok (.areturn, 1) := by decide +kernel
set_option maxRecDepth 20000 in
theorem ggX2_make_X2_zero : GoodIn wsX2_make wsX2_zero := goodIn_r _ [4, 5, 6, 7, 8, 9, 3, 10, 11, 12, 13, 14, 15, 16, 17, 18, 75, 76] (by decide +kernel) (by decide +kernel)
set_option maxRecDepth 20000 in
theorem gX2_make_X2_zero : GoodIn wsX2_make (va_wsS RX2 126 yX2_zero wsX2_zero) := goodIn_app (goodIn_of _ (by decide +kernel)) ggX2_make_X2_zero
set_option maxRecDepth 20000 in
theorem ggX2_make_J13_numberOfLeadingZeros_95d88 : GoodIn wsX2_make wsJ13_numberOfLeadingZeros_95d88 := goodIn_r _ [22, 23, 24, 25, 26, 27] (by decide +kernel) (by decide +kernel)
set_option maxRecDepth 20000 in
theorem gX2_make_J13_numberOfLeadingZeros_95d88 : GoodIn wsX2_make (va_wsS RX2 184 yJ13_numberOfLeadingZeros_95d88 wsJ13_numberOfLeadingZeros_95d88) := goodIn_app (goodIn_of _ (by decide +kernel)) ggX2_make_J13_numberOfLeadingZeros_95d88
set_option maxRecDepth 20000 in
theorem ggX2_make_X2_makeUnder : GoodIn wsX2_make wsX2_makeUnder := goodIn_r _ [31, 32, 5, 6, 7, 33, 34, 35, 3, 36, 37, 38, 39, 40, 8, 9, 10, 11, 12, 13, 14, 15, 16, 17, 18, 41, 42, 43, 44, 45, 46, 47, 48, 49, 50, 51, 52, 53, 54, 55, 56, 57, 58, 59, 60, 21, 61, 62, 63, 64, 65, 77, 78, 79, 80, 81, 82, 83, 75, 76] (by decide +kernel) (by decide +kernel)
set_option maxRecDepth 20000 in
theorem gX2_make_X2_makeUnder : GoodIn wsX2_make (wsV RX2 188 RX2 yX2_makeUnder wsX2_makeUnder) := goodIn_app (goodIn_of _ (by decide +kernel)) ggX2_make_X2_makeUnder
set_option maxRecDepth 20000 in
theorem ggX2_make_X2_makeOver : GoodIn wsX2_make wsX2_makeOver := goodIn_r _ [69, 32, 70, 33, 34, 35, 3, 36, 37, 38, 39, 40, 5, 6, 7, 8, 9, 10, 11, 12, 13, 14, 15, 16, 17, 18, 52, 53, 54, 55, 71, 72, 73, 74, 77, 78, 79, 80, 81, 82, 83, 75, 76] (by decide +kernel) (by decide +kernel)
set_option maxRecDepth 20000 in
theorem gX2_make_X2_makeOver : GoodIn wsX2_make (wsV RX2 192 RX2 yX2_makeOver wsX2_makeOver) := goodIn_app (goodIn_of _ (by decide +kernel)) ggX2_make_X2_makeOver
set_option maxRecDepth 20000 in
theorem ggX2_make_X2_normal : GoodIn wsX2_make wsX2_normal := goodIn_r _ [40, 5, 6, 7, 8, 9, 3, 10, 11, 12, 13, 14, 15, 16, 17, 18, 75, 76] (by decide +kernel) (by decide +kernel)
set_option maxRecDepth 20000 in
theorem gX2_make_X2_normal : GoodIn wsX2_make (va_wsS RX2 195 yX2_normal wsX2_normal) := goodIn_app (goodIn_of _ (by decide +kernel)) ggX2_make_X2_normal
theorem dX2_make_0 : decode cX2_make 0 = .ok (.lload_n 2, 1) := by decide +kernel
theorem dX2_make_1 : decode cX2_make 1 = .ok (.lconst 0, 1) := by decide +kernel
theorem dX2_make_2 : decode cX2_make 2 = .ok (.lcmp, 1) := by decide +kernel
theorem dX2_make_3 : decode cX2_make 3 = .ok (.ifCond .ne 8, 3) := by decide +kernel
theorem dX2_make_6 : decode cX2_make 6 = .ok (.iload_n 1, 1) := by decide +kernel
theorem dX2_make_7 : decode cX2_make 7 = .ok (.invokestatic 126, 3) := by decide +kernel
theorem dX2_make_10 : decode cX2_make 10 = .ok (.areturn, 1) := by decide +kernel
theorem dX2_make_11 : decode cX2_make 11 = .ok (.lload_n 2, 1) := by decide +kernel
theorem dX2_make_12 : decode cX2_make 12 = .ok (.invokestatic 184, 3) := by decide +kernel
theorem dX2_make_15 : decode cX2_make 15 = .ok (.istore 5, 2) := by decide +kernel
theorem dX2_make_17 : decode cX2_make 17 = .ok (.lload_n 2, 1) := by decide +kernel
theorem dX2_make_18 : decode cX2_make 18 = .ok (.iload 5, 2) := by decide +kernel
end
section
theorem dX2_make_20 : decode cX2_make 20 = .ok (.lshl, 1) := by decide +kernel
theorem dX2_make_21 : decode cX2_make 21 = .ok (.lstore 6, 2) := by decide +kernel
theorem dX2_make_23 : decode cX2_make 23 = .ok (.iload 4, 2) := by decide +kernel
theorem dX2_make_25 : decode cX2_make 25 = .ok (.bipush 63, 2) := by decide +kernel
theorem dX2_make_27 : decode cX2_make 27 = .ok (.iadd, 1) := by decide +kernel
theorem dX2_make_28 : decode cX2_make 28 = .ok (.iload 5, 2) := by decide +kernel
theorem dX2_make_30 : decode cX2_make 30 = .ok (.isub, 1) := by decide +kernel
theorem dX2_make_31 : decode cX2_make 31 = .ok (.istore 8, 2) := by decide +kernel
theorem dX2_make_33 : decode cX2_make 33 = .ok (.iload 8, 2) := by decide +kernel
theorem dX2_make_35 : decode cX2_make 35 = .ok (.sipush (-16382), 3) := by decide +kernel
theorem dX2_make_38 : decode cX2_make 38 = .ok (.if_icmp .ge 13, 3) := by decide +kernel
theorem dX2_make_41 : decode cX2_make 41 = .ok (.aload_n 0, 1) := by decide +kernel
theorem dX2_make_42 : decode cX2_make 42 = .ok (.iload_n 1, 1) := by decide +kernel
theorem dX2_make_43 : decode cX2_make 43 = .ok (.iload 8, 2) := by decide +kernel
theorem dX2_make_45 : decode cX2_make 45 = .ok (.lload 6, 2) := by decide +kernel
theorem dX2_make_47 : decode cX2_make 47 = .ok (.invokevirtual 188, 3) := by decide +kernel
theorem dX2_make_50 : decode cX2_make 50 = .ok (.areturn, 1) := by decide +kernel
theorem dX2_make_51 : decode cX2_make 51 = .ok (.iload 8, 2) := by decide +kernel
theorem dX2_make_53 : decode cX2_make 53 = .ok (.sipush 16383, 3) := by decide +kernel
theorem dX2_make_56 : decode cX2_make 56 = .ok (.if_icmp .le 13, 3) := by decide +kernel
theorem dX2_make_59 : decode cX2_make 59 = .ok (.aload_n 0, 1) := by decide +kernel
theorem dX2_make_60 : decode cX2_make 60 = .ok (.iload_n 1, 1) := by decide +kernel
theorem dX2_make_61 : decode cX2_make 61 = .ok (.iload 8, 2) := by decide +kernel
theorem dX2_make_63 : decode cX2_make 63 = .ok (.lload 6, 2) := by decide +kernel
theorem dX2_make_65 : decode cX2_make 65 = .ok (.invokevirtual 192, 3) := by decide +kernel
theorem dX2_make_68 : decode cX2_make 68 = .ok (.areturn, 1) := by decide +kernel
theorem dX2_make_69 : decode cX2_make 69 = .ok (.iload_n 1, 1) := by decide +kernel
theorem dX2_make_70 : decode cX2_make 70 = .ok (.iload 8, 2) := by decide +kernel
theorem dX2_make_72 : decode cX2_make 72 = .ok (.lload 6, 2) := by decide +kernel
theorem dX2_make_74 : decode cX2_make 74 = .ok (.invokestatic 195, 3) := by decide +kernel
theorem dX2_make_77 : decode cX2_make 77 = .ok (.areturn, 1) := by decide +kernel
set_option maxRecDepth 20000 in
theorem ggX2_makeUnder_X2_isMasked : GoodIn wsX2_makeUnder wsX2_isMasked := goodIn_r _ [9, 10, 51, 52, 53, 54, 55, 56, 57] (by decide +kernel) (by decide +kernel)
set_option maxRecDepth 20000 in
theorem gX2_makeUnder_X2_isMasked : GoodIn wsX2_makeUnder (wsV RX2 163 RX2 yX2_isMasked wsX2_isMasked) := goodIn_app (goodIn_of _ (by decide +kernel)) ggX2_makeUnder_X2_isMasked
set_option maxRecDepth 20000 in
theorem ggX2_makeUnder_X2_normal : GoodIn wsX2_makeUnder wsX2_normal := goodIn_r _ [13, 2, 3, 4, 14, 15, 8, 16, 17, 18, 19, 20, 21, 22, 23, 24, 58, 59] (by decide +kernel) (by decide +kernel)
set_option maxRecDepth 20000 in
theorem gX2_makeUnder_X2_normal : GoodIn wsX2_makeUnder (va_wsS RX2 195 yX2_normal wsX2_normal) := goodIn_app (goodIn_of _ (by decide +kernel)) ggX2_makeUnder_X2_normal
set_option maxRecDepth 20000 in
theorem ggX2_makeUnder_X2_isCut : GoodIn wsX2_makeUnder wsX2_isCut := goodIn_r _ [27] (by decide +kernel) (by decide +kernel)
set_option maxRecDepth 20000 in
theorem gX2_makeUnder_X2_isCut : GoodIn wsX2_makeUnder (va_wsS RX2 198 yX2_isCut wsX2_isCut) := goodIn_app (goodIn_of _ (by decide +kernel)) ggX2_makeUnder_X2_isCut
set_option maxRecDepth 20000 in
theorem ggX2_makeUnder_X2_rounded : GoodIn wsX2_makeUnder wsX2_rounded := goodIn_r _ [31, 25, 26, 8, 27, 32, 33, 34, 35, 36, 37, 38, 39, 10, 40, 41, 42, 43, 44, 45, 46, 47, 48, 49, 50, 51, 52, 53, 54, 55, 56, 57] (by decide +kernel) (by decide +kernel)
set_option maxRecDepth 20000 in
theorem gX2_makeUnder_X2_rounded : GoodIn wsX2_makeUnder (wsV RX2 202 RX2 yX2_rounded wsX2_rounded) := goodIn_app (goodIn_of _ (by decide +kernel)) ggX2_makeUnder_X2_rounded
set_option maxRecDepth 20000 in
theorem ggX2_makeUnder_X2_signOf : GoodIn wsX2_makeUnder wsX2_signOf := goodIn_r _ [16, 17] (by decide +kernel) (by decide +kernel)
set_option maxRecDepth 20000 in
theorem gX2_makeUnder_X2_signOf : GoodIn wsX2_makeUnder (va_wsS RX2 178 yX2_signOf wsX2_signOf) := goodIn_app (goodIn_of _ (by decide +kernel)) ggX2_makeUnder_X2_signOf
set_option maxRecDepth 20000 in
theorem ggX2_makeUnder_X1_init : GoodIn wsX2_makeUnder wsX1_init := goodIn_r _ [19, 20, 21, 22, 23, 24, 58, 59] (by decide +kernel) (by decide +kernel)
set_option maxRecDepth 20000 in
theorem gX2_makeUnder_X1_init_n52 : GoodIn wsX2_makeUnder (wsX1_init) := ggX2_makeUnder_X1_init
theorem dX2_makeUnder_0 : decode cX2_makeUnder 0 = .ok (.aload_n 0, 1) := by decide +kernel
theorem dX2_makeUnder_1 : decode cX2_makeUnder 1 = .ok (.bipush 16, 2) := by decide +kernel
theorem dX2_makeUnder_3 : decode cX2_makeUnder 3 = .ok (.invokevirtual 163, 3) := by decide +kernel
theorem dX2_makeUnder_6 : decode cX2_makeUnder 6 = .ok (.ifCond .ne 25, 3) := by decide +kernel
theorem dX2_makeUnder_9 : decode cX2_makeUnder 9 = .ok (.aload_n 0, 1) := by decide +kernel
theorem dX2_makeUnder_10 : decode cX2_makeUnder 10 = .ok (.dup, 1) := by decide +kernel
theorem dX2_makeUnder_11 : decode cX2_makeUnder 11 = .ok (.getfield 21, 3) := by decide +kernel
theorem dX2_makeUnder_14 : decode cX2_makeUnder 14 = .ok (.bipush 16, 2) := by decide +kernel
theorem dX2_makeUnder_16 : decode cX2_makeUnder 16 = .ok (.ior, 1) := by decide +kernel
theorem dX2_makeUnder_17 : decode cX2_makeUnder 17 = .ok (.putfield 21, 3) := by decide +kernel
theorem dX2_makeUnder_20 : decode cX2_makeUnder 20 = .ok (.iload_n 1, 1) := by decide +kernel
theorem dX2_makeUnder_21 : decode cX2_makeUnder 21 = .ok (.iload_n 2, 1) := by decide +kernel
theorem dX2_makeUnder_22 : decode cX2_makeUnder 22 = .ok (.sipush 24576, 3) := by decide +kernel
theorem dX2_makeUnder_25 : decode cX2_makeUnder 25 = .ok (.iadd, 1) := by decide +kernel
theorem dX2_makeUnder_26 : decode cX2_makeUnder 26 = .ok (.lload_n 3, 1) := by decide +kernel
theorem dX2_makeUnder_27 : decode cX2_makeUnder 27 = .ok (.invokestatic 195, 3) := by decide +kernel
theorem dX2_makeUnder_30 : decode cX2_makeUnder 30 = .ok (.areturn, 1) := by decide +kernel
theorem dX2_makeUnder_31 : decode cX2_makeUnder 31 = .ok (.sipush (-16382), 3) := by decide +kernel
theorem dX2_makeUnder_34 : decode cX2_makeUnder 34 = .ok (.iload_n 2, 1) := by decide +kernel
theorem dX2_makeUnder_35 : decode cX2_makeUnder 35 = .ok (.isub, 1) := by decide +kernel
theorem dX2_makeUnder_36 : decode cX2_makeUnder 36 = .ok (.istore 5, 2) := by decide +kernel
theorem dX2_makeUnder_38 : decode cX2_makeUnder 38 = .ok (.lload_n 3, 1) := by decide +kernel
theorem dX2_makeUnder_39 : decode cX2_makeUnder 39 = .ok (.iload 5, 2) := by decide +kernel
theorem dX2_makeUnder_41 : decode cX2_makeUnder 41 = .ok (.invokestatic 198, 3) := by decide +kernel
theorem dX2_makeUnder_44 : decode cX2_makeUnder 44 = .ok (.ifCond .eq 14, 3) := by decide +kernel
theorem dX2_makeUnder_47 : decode cX2_makeUnder 47 = .ok (.aload_n 0, 1) := by decide +kernel
theorem dX2_makeUnder_48 : decode cX2_makeUnder 48 = .ok (.dup, 1) := by decide +kernel
theorem dX2_makeUnder_49 : decode cX2_makeUnder 49 = .ok (.getfield 21, 3) := by decide +kernel
theorem dX2_makeUnder_52 : decode cX2_makeUnder 52 = .ok (.bipush 48, 2) := by decide +kernel
theorem dX2_makeUnder_54 : decode cX2_makeUnder 54 = .ok (.ior, 1) := by decide +kernel
theorem dX2_makeUnder_55 : decode cX2_makeUnder 55 = .ok (.putfield 21, 3) := by decide +kernel
theorem dX2_makeUnder_58 : decode cX2_makeUnder 58 = .ok (.aload_n 0, 1) := by decide +kernel
theorem dX2_makeUnder_59 : decode cX2_makeUnder 59 = .ok (.iload_n 1, 1) := by decide +kernel
theorem dX2_makeUnder_60 : decode cX2_makeUnder 60 = .ok (.lload_n 3, 1) := by decide +kernel
theorem dX2_makeUnder_61 : decode cX2_makeUnder 61 = .ok (.iload 5, 2) := by decide +kernel
theorem dX2_makeUnder_63 : decode cX2_makeUnder 63 = .ok (.invokevirtual 202, 3) := by decide +kernel
theorem dX2_makeUnder_66 : decode cX2_makeUnder 66 = .ok (.lstore 6, 2) := by decide +kernel
theorem dX2_makeUnder_68 : decode cX2_makeUnder 68 = .ok (.new 48, 3) := by decide +kernel
theorem dX2_makeUnder_71 : decode cX2_makeUnder 71 = .ok (.dup, 1) := by decide +kernel
theorem dX2_makeUnder_72 : decode cX2_makeUnder 72 = .ok (.iload_n 1, 1) := by decide +kernel
theorem dX2_makeUnder_73 : decode cX2_makeUnder 73 = .ok (.invokestatic 178, 3) := by decide +kernel
theorem dX2_makeUnder_76 : decode cX2_makeUnder 76 = .ok (.lload 6, 2) := by decide +kernel
theorem dX2_makeUnder_78 : decode cX2_makeUnder 78 = .ok (.lconst 0, 1) := by decide +kernel
theorem dX2_makeUnder_79 : decode cX2_makeUnder 79 = .ok (.lcmp, 1) := by decide +kernel
theorem dX2_makeUnder_80 : decode cX2_makeUnder 80 = .ok (.ifCond .ge 7, 3) := by decide +kernel
theorem dX2_makeUnder_83 : decode cX2_makeUnder 83 = .ok (.iconst 1, 1) := by decide +kernel
theorem dX2_makeUnder_84 : decode cX2_makeUnder 84 = .ok (.goto 4, 3) := by decide +kernel
theorem dX2_makeUnder_87 : decode cX2_makeUnder 87 = .ok (.iconst 0, 1) := by decide +kernel
theorem dX2_makeUnder_88 : decode cX2_makeUnder 88 = .ok (.ior, 1) := by decide +kernel
theorem dX2_makeUnder_89 : decode cX2_makeUnder 89 = .ok (.lload 6, 2) := by decide +kernel
theorem dX2_makeUnder_91 : decode cX2_makeUnder 91 = .ok (.invokespecial 52, 3) := by decide +kernel
theorem dX2_makeUnder_94 : decode cX2_makeUnder 94 = .ok (.areturn, 1) := by decide +kernel
set_option maxRecDepth 20000 in
theorem ggX2_makeOver_X2_isMasked : GoodIn wsX2_makeOver wsX2_isMasked := goodIn_r _ [7, 8, 34, 35, 36, 37, 38, 39, 40] (by decide +kernel) (by decide +kernel)
set_option maxRecDepth 20000 in
theorem gX2_makeOver_X2_isMasked : GoodIn wsX2_makeOver (wsV RX2 163 RX2 yX2_isMasked wsX2_isMasked) := goodIn_app (goodIn_of _ (by decide +kernel)) ggX2_makeOver_X2_isMasked
set_option maxRecDepth 20000 in
theorem ggX2_makeOver_X2_normal : GoodIn wsX2_makeOver wsX2_normal := goodIn_r _ [11, 12, 13, 14, 15, 16, 6, 17, 18, 19, 20, 21, 22, 23, 24, 25, 41, 42] (by decide +kernel) (by decide +kernel)
set_option maxRecDepth 20000 in
theorem gX2_makeOver_X2_normal : GoodIn wsX2_makeOver (va_wsS RX2 195 yX2_normal wsX2_normal) := goodIn_app (goodIn_of _ (by decide +kernel)) ggX2_makeOver_X2_normal
set_option maxRecDepth 20000 in
theorem ggX2_makeOver_X2_rounding : GoodIn wsX2_makeOver wsX2_rounding := goodIn_r _ [29, 8, 34, 35, 36, 37, 38, 39, 40] (by decide +kernel) (by decide +kernel)
set_option maxRecDepth 20000 in
theorem gX2_makeOver_X2_rounding : GoodIn wsX2_makeOver (wsV RX2 206 RX2 yX2_rounding wsX2_rounding) := goodIn_app (goodIn_of _ (by decide +kernel)) ggX2_makeOver_X2_rounding
set_option maxRecDepth 20000 in
theorem ggX2_makeOver_X2_infinite : GoodIn wsX2_makeOver wsX2_infinite := goodIn_r _ [32, 12, 13, 14, 33, 15, 16, 6, 17, 18, 19, 20, 21, 22, 23, 24, 25, 41, 42] (by decide +kernel) (by decide +kernel)
set_option maxRecDepth 20000 in
theorem gX2_makeOver_X2_infinite : GoodIn wsX2_makeOver (va_wsS RX2 212 yX2_infinite wsX2_infinite) := goodIn_app (goodIn_of _ (by decide +kernel)) ggX2_makeOver_X2_infinite
theorem dX2_makeOver_0 : decode cX2_makeOver 0 = .ok (.aload_n 0, 1) := by decide +kernel
theorem dX2_makeOver_1 : decode cX2_makeOver 1 = .ok (.dup, 1) := by decide +kernel
theorem dX2_makeOver_2 : decode cX2_makeOver 2 = .ok (.getfield 21, 3) := by decide +kernel
theorem dX2_makeOver_5 : decode cX2_makeOver 5 = .ok (.bipush 8, 2) := by decide +kernel
theorem dX2_makeOver_7 : decode cX2_makeOver 7 = .ok (.ior, 1) := by decide +kernel
theorem dX2_makeOver_8 : decode cX2_makeOver 8 = .ok (.putfield 21, 3) := by decide +kernel
theorem dX2_makeOver_11 : decode cX2_makeOver 11 = .ok (.aload_n 0, 1) := by decide +kernel
theorem dX2_makeOver_12 : decode cX2_makeOver 12 = .ok (.bipush 8, 2) := by decide +kernel
theorem dX2_makeOver_14 : decode cX2_makeOver 14 = .ok (.invokevirtual 163, 3) := by decide +kernel
theorem dX2_makeOver_17 : decode cX2_makeOver 17 = .ok (.ifCond .ne 14, 3) := by decide +kernel
theorem dX2_makeOver_20 : decode cX2_makeOver 20 = .ok (.iload_n 1, 1) := by decide +kernel
theorem dX2_makeOver_21 : decode cX2_makeOver 21 = .ok (.iload_n 2, 1) := by decide +kernel
theorem dX2_makeOver_22 : decode cX2_makeOver 22 = .ok (.sipush 24576, 3) := by decide +kernel
theorem dX2_makeOver_25 : decode cX2_makeOver 25 = .ok (.isub, 1) := by decide +kernel
theorem dX2_makeOver_26 : decode cX2_makeOver 26 = .ok (.lload_n 3, 1) := by decide +kernel
theorem dX2_makeOver_27 : decode cX2_makeOver 27 = .ok (.invokestatic 195, 3) := by decide +kernel
theorem dX2_makeOver_30 : decode cX2_makeOver 30 = .ok (.areturn, 1) := by decide +kernel
theorem dX2_makeOver_31 : decode cX2_makeOver 31 = .ok (.aload_n 0, 1) := by decide +kernel
theorem dX2_makeOver_32 : decode cX2_makeOver 32 = .ok (.dup, 1) := by decide +kernel
theorem dX2_makeOver_33 : decode cX2_makeOver 33 = .ok (.getfield 21, 3) := by decide +kernel
theorem dX2_makeOver_36 : decode cX2_makeOver 36 = .ok (.bipush 32, 2) := by decide +kernel
theorem dX2_makeOver_38 : decode cX2_makeOver 38 = .ok (.ior, 1) := by decide +kernel
theorem dX2_makeOver_39 : decode cX2_makeOver 39 = .ok (.putfield 21, 3) := by decide +kernel
theorem dX2_makeOver_42 : decode cX2_makeOver 42 = .ok (.aload_n 0, 1) := by decide +kernel
theorem dX2_makeOver_43 : decode cX2_makeOver 43 = .ok (.invokevirtual 206, 3) := by decide +kernel
theorem dX2_makeOver_46 : decode cX2_makeOver 46 = .ok (.istore 5, 2) := by decide +kernel
theorem dX2_makeOver_48 : decode cX2_makeOver 48 = .ok (.iload 5, 2) := by decide +kernel
theorem dX2_makeOver_50 : decode cX2_makeOver 50 = .ok (.iconst 3, 1) := by decide +kernel
theorem dX2_makeOver_51 : decode cX2_makeOver 51 = .ok (.if_icmp .eq 17, 3) := by decide +kernel
theorem dX2_makeOver_54 : decode cX2_makeOver 54 = .ok (.iload 5, 2) := by decide +kernel
theorem dX2_makeOver_56 : decode cX2_makeOver 56 = .ok (.iload_n 1, 1) := by decide +kernel
theorem dX2_makeOver_57 : decode cX2_makeOver 57 = .ok (.ifCond .eq 7, 3) := by decide +kernel
theorem dX2_makeOver_60 : decode cX2_makeOver 60 = .ok (.iconst 2, 1) := by decide +kernel
theorem dX2_makeOver_61 : decode cX2_makeOver 61 = .ok (.goto 4, 3) := by decide +kernel
theorem dX2_makeOver_64 : decode cX2_makeOver 64 = .ok (.iconst 1, 1) := by decide +kernel
theorem dX2_makeOver_65 : decode cX2_makeOver 65 = .ok (.if_icmp .ne 14, 3) := by decide +kernel
theorem dX2_makeOver_68 : decode cX2_makeOver 68 = .ok (.iload_n 1, 1) := by decide +kernel
theorem dX2_makeOver_69 : decode cX2_makeOver 69 = .ok (.sipush 16383, 3) := by decide +kernel
theorem dX2_makeOver_72 : decode cX2_makeOver 72 = .ok (.ldc2_w 210, 3) := by decide +kernel
theorem dX2_makeOver_75 : decode cX2_makeOver 75 = .ok (.invokestatic 195, 3) := by decide +kernel
theorem dX2_makeOver_78 : decode cX2_makeOver 78 = .ok (.areturn, 1) := by decide +kernel
theorem dX2_makeOver_79 : decode cX2_makeOver 79 = .ok (.iload_n 1, 1) := by decide +kernel
theorem dX2_makeOver_80 : decode cX2_makeOver 80 = .ok (.invokestatic 212, 3) := by decide +kernel
theorem dX2_makeOver_83 : decode cX2_makeOver 83 = .ok (.areturn, 1) := by decide +kernel
theorem dX2_isCut_0 : decode cX2_isCut 0 = .ok (.iload_n 2, 1) := by decide +kernel
theorem dX2_isCut_1 : decode cX2_isCut 1 = .ok (.bipush 63, 2) := by decide +kernel
theorem dX2_isCut_3 : decode cX2_isCut 3 = .ok (.if_icmp .gt 14, 3) := by decide +kernel
theorem dX2_isCut_6 : decode cX2_isCut 6 = .ok (.lload_n 0, 1) := by decide +kernel
theorem dX2_isCut_7 : decode cX2_isCut 7 = .ok (.bipush 64, 2) := by decide +kernel
theorem dX2_isCut_9 : decode cX2_isCut 9 = .ok (.iload_n 2, 1) := by decide +kernel
theorem dX2_isCut_10 : decode cX2_isCut 10 = .ok (.isub, 1) := by decide +kernel
theorem dX2_isCut_11 : decode cX2_isCut 11 = .ok (.lshl, 1) := by decide +kernel
theorem dX2_isCut_12 : decode cX2_isCut 12 = .ok (.lconst 0, 1) := by decide +kernel
theorem dX2_isCut_13 : decode cX2_isCut 13 = .ok (.lcmp, 1) := by decide +kernel
theorem dX2_isCut_14 : decode cX2_isCut 14 = .ok (.ifCond .eq 7, 3) := by decide +kernel
theorem dX2_isCut_17 : decode cX2_isCut 17 = .ok (.iconst 1, 1) := by decide +kernel
theorem dX2_isCut_18 : decode cX2_isCut 18 = .ok (.goto 4, 3) := by decide +kernel
theorem dX2_isCut_21 : decode cX2_isCut 21 = .ok (.iconst 0, 1) := by decide +kernel
theorem dX2_isCut_22 : decode cX2_isCut 22 = .ok (.ireturn, 1) := by decide +kernel
set_option maxRecDepth 20000 in
theorem ggX2_rounded_X2_isCut : GoodIn wsX2_rounded wsX2_isCut := goodIn_r _ [4] (by decide +kernel) (by decide +kernel)
set_option maxRecDepth 20000 in
theorem gX2_rounded_X2_isCut : GoodIn wsX2_rounded (va_wsS RX2 198 yX2_isCut wsX2_isCut) := goodIn_app (goodIn_of _ (by decide +kernel)) ggX2_rounded_X2_isCut
set_option maxRecDepth 20000 in
theorem ggX2_rounded_X2_isRoundedAway : GoodIn wsX2_rounded wsX2_isRoundedAway := goodIn_r _ [8, 9, 10, 11, 3, 12, 13, 14, 15, 16, 17, 18, 19, 20, 21, 22, 23, 24, 25, 26, 27, 28, 29, 30, 31] (by decide +kernel) (by decide +kernel)
set_option maxRecDepth 20000 in
theorem gX2_rounded_X2_isRoundedAway : GoodIn wsX2_rounded (wsV RX2 215 RX2 yX2_isRoundedAway wsX2_isRoundedAway) := goodIn_app (goodIn_of _ (by decide +kernel)) ggX2_rounded_X2_isRoundedAway
theorem dX2_rounded_0 : decode cX2_rounded 0 = .ok (.iload 4, 2) := by decide +kernel
theorem dX2_rounded_2 : decode cX2_rounded 2 = .ok (.bipush 63, 2) := by decide +kernel
theorem dX2_rounded_4 : decode cX2_rounded 4 = .ok (.if_icmp .le 7, 3) := by decide +kernel
theorem dX2_rounded_7 : decode cX2_rounded 7 = .ok (.lconst 0, 1) := by decide +kernel
theorem dX2_rounded_8 : decode cX2_rounded 8 = .ok (.goto 7, 3) := by decide +kernel
theorem dX2_rounded_11 : decode cX2_rounded 11 = .ok (.lload_n 2, 1) := by decide +kernel
theorem dX2_rounded_12 : decode cX2_rounded 12 = .ok (.iload 4, 2) := by decide +kernel
theorem dX2_rounded_14 : decode cX2_rounded 14 = .ok (.lushr, 1) := by decide +kernel
theorem dX2_rounded_15 : decode cX2_rounded 15 = .ok (.lstore 5, 2) := by decide +kernel
theorem dX2_rounded_17 : decode cX2_rounded 17 = .ok (.lload_n 2, 1) := by decide +kernel
theorem dX2_rounded_18 : decode cX2_rounded 18 = .ok (.iload 4, 2) := by decide +kernel
theorem dX2_rounded_20 : decode cX2_rounded 20 = .ok (.invokestatic 198, 3) := by decide +kernel
theorem dX2_rounded_23 : decode cX2_rounded 23 = .ok (.ifCond .eq 21, 3) := by decide +kernel
theorem dX2_rounded_26 : decode cX2_rounded 26 = .ok (.aload_n 0, 1) := by decide +kernel
theorem dX2_rounded_27 : decode cX2_rounded 27 = .ok (.iload_n 1, 1) := by decide +kernel
theorem dX2_rounded_28 : decode cX2_rounded 28 = .ok (.lload_n 2, 1) := by decide +kernel
theorem dX2_rounded_29 : decode cX2_rounded 29 = .ok (.iload 4, 2) := by decide +kernel
theorem dX2_rounded_31 : decode cX2_rounded 31 = .ok (.lload 5, 2) := by decide +kernel
theorem dX2_rounded_33 : decode cX2_rounded 33 = .ok (.invokevirtual 215, 3) := by decide +kernel
theorem dX2_rounded_36 : decode cX2_rounded 36 = .ok (.ifCond .eq 8, 3) := by decide +kernel
theorem dX2_rounded_39 : decode cX2_rounded 39 = .ok (.lload 5, 2) := by decide +kernel
theorem dX2_rounded_41 : decode cX2_rounded 41 = .ok (.lconst 1, 1) := by decide +kernel
theorem dX2_rounded_42 : decode cX2_rounded 42 = .ok (.ladd, 1) := by decide +kernel
theorem dX2_rounded_43 : decode cX2_rounded 43 = .ok (.lreturn, 1) := by decide +kernel
theorem dX2_rounded_44 : decode cX2_rounded 44 = .ok (.lload 5, 2) := by decide +kernel
theorem dX2_rounded_46 : decode cX2_rounded 46 = .ok (.lreturn, 1) := by decide +kernel
set_option maxRecDepth 20000 in
theorem ggX2_isRoundedAway_X2_rounding : GoodIn wsX2_isRoundedAway wsX2_rounding := goodIn_r _ [5, 6, 18, 19, 20, 21, 22, 23, 24] (by decide +kernel) (by decide +kernel)
set_option maxRecDepth 20000 in
theorem gX2_isRoundedAway_X2_rounding : GoodIn wsX2_isRoundedAway (wsV RX2 206 RX2 yX2_rounding wsX2_rounding) := goodIn_app (goodIn_of _ (by decide +kernel)) ggX2_isRoundedAway_X2_rounding
set_option maxRecDepth 20000 in
theorem ggX2_isRoundedAway_X2_isNearerAbove : GoodIn wsX2_isRoundedAway wsX2_isNearerAbove := goodIn_r _ [9, 10, 11, 12, 13, 14, 15, 16, 17] (by decide +kernel) (by decide +kernel)
set_option maxRecDepth 20000 in
theorem gX2_isRoundedAway_X2_isNearerAbove : GoodIn wsX2_isRoundedAway (va_wsS RX2 219 yX2_isNearerAbove wsX2_isNearerAbove) := goodIn_app (goodIn_of _ (by decide +kernel)) ggX2_isRoundedAway_X2_isNearerAbove
theorem dX2_isRoundedAway_0 : decode cX2_isRoundedAway 0 = .ok (.aload_n 0, 1) := by decide +kernel
theorem dX2_isRoundedAway_1 : decode cX2_isRoundedAway 1 = .ok (.invokevirtual 206, 3) := by decide +kernel
theorem dX2_isRoundedAway_4 : decode cX2_isRoundedAway 4 = .ok (.tableswitch 42 1 3 #[28, 30, 40], 28) := by decide +kernel
theorem dX2_isRoundedAway_32 : decode cX2_isRoundedAway 32 = .ok (.iload_n 1, 1) := by decide +kernel
theorem dX2_isRoundedAway_33 : decode cX2_isRoundedAway 33 = .ok (.ireturn, 1) := by decide +kernel
theorem dX2_isRoundedAway_34 : decode cX2_isRoundedAway 34 = .ok (.iload_n 1, 1) := by decide +kernel
theorem dX2_isRoundedAway_35 : decode cX2_isRoundedAway 35 = .ok (.ifCond .ne 7, 3) := by decide +kernel
theorem dX2_isRoundedAway_38 : decode cX2_isRoundedAway 38 = .ok (.iconst 1, 1) := by decide +kernel
theorem dX2_isRoundedAway_39 : decode cX2_isRoundedAway 39 = .ok (.goto 4, 3) := by decide +kernel
theorem dX2_isRoundedAway_42 : decode cX2_isRoundedAway 42 = .ok (.iconst 0, 1) := by decide +kernel
theorem dX2_isRoundedAway_43 : decode cX2_isRoundedAway 43 = .ok (.ireturn, 1) := by decide +kernel
theorem dX2_isRoundedAway_44 : decode cX2_isRoundedAway 44 = .ok (.iconst 0, 1) := by decide +kernel
theorem dX2_isRoundedAway_45 : decode cX2_isRoundedAway 45 = .ok (.ireturn, 1) := by decide +kernel
theorem dX2_isRoundedAway_46 : decode cX2_isRoundedAway 46 = .ok (.lload_n 2, 1) := by decide +kernel
theorem dX2_isRoundedAway_47 : decode cX2_isRoundedAway 47 = .ok (.iload 4, 2) := by decide +kernel
theorem dX2_isRoundedAway_49 : decode cX2_isRoundedAway 49 = .ok (.lload 5, 2) := by decide +kernel
theorem dX2_isRoundedAway_51 : decode cX2_isRoundedAway 51 = .ok (.invokestatic 219, 3) := by decide +kernel
theorem dX2_isRoundedAway_54 : decode cX2_isRoundedAway 54 = .ok (.ireturn, 1) := by decide +kernel
set_option maxRecDepth 20000 in
theorem ggX2_isNearerAbove_J13_compareUnsigned_74951 : GoodIn wsX2_isNearerAbove wsJ13_compareUnsigned_74951 := goodIn_r _ [4, 5, 6, 7, 3, 8] (by decide +kernel) (by decide +kernel)
set_option maxRecDepth 20000 in
theorem gX2_isNearerAbove_J13_compareUnsigned_74951 : GoodIn wsX2_isNearerAbove (va_wsS RX2 172 yJ13_compareUnsigned_74951 wsJ13_compareUnsigned_74951) := goodIn_app (goodIn_of _ (by decide +kernel)) ggX2_isNearerAbove_J13_compareUnsigned_74951
theorem dX2_isNearerAbove_0 : decode cX2_isNearerAbove 0 = .ok (.iload_n 2, 1) := by decide +kernel
theorem dX2_isNearerAbove_1 : decode cX2_isNearerAbove 1 = .ok (.bipush 64, 2) := by decide +kernel
theorem dX2_isNearerAbove_3 : decode cX2_isNearerAbove 3 = .ok (.if_icmp .le 5, 3) := by decide +kernel
theorem dX2_isNearerAbove_6 : decode cX2_isNearerAbove 6 = .ok (.iconst 0, 1) := by decide +kernel
theorem dX2_isNearerAbove_7 : decode cX2_isNearerAbove 7 = .ok (.ireturn, 1) := by decide +kernel
theorem dX2_isNearerAbove_8 : decode cX2_isNearerAbove 8 = .ok (.iload_n 2, 1) := by decide +kernel
theorem dX2_isNearerAbove_9 : decode cX2_isNearerAbove 9 = .ok (.bipush 63, 2) := by decide +kernel
theorem dX2_isNearerAbove_11 : decode cX2_isNearerAbove 11 = .ok (.if_icmp .le 7, 3) := by decide +kernel
theorem dX2_isNearerAbove_14 : decode cX2_isNearerAbove 14 = .ok (.lload_n 0, 1) := by decide +kernel
theorem dX2_isNearerAbove_15 : decode cX2_isNearerAbove 15 = .ok (.goto 8, 3) := by decide +kernel
theorem dX2_isNearerAbove_18 : decode cX2_isNearerAbove 18 = .ok (.lload_n 0, 1) := by decide +kernel
theorem dX2_isNearerAbove_19 : decode cX2_isNearerAbove 19 = .ok (.lload_n 3, 1) := by decide +kernel
theorem dX2_isNearerAbove_20 : decode cX2_isNearerAbove 20 = .ok (.iload_n 2, 1) := by decide +kernel
theorem dX2_isNearerAbove_21 : decode cX2_isNearerAbove 21 = .ok (.lshl, 1) := by decide +kernel
theorem dX2_isNearerAbove_22 : decode cX2_isNearerAbove 22 = .ok (.lsub, 1) := by decide +kernel
theorem dX2_isNearerAbove_23 : decode cX2_isNearerAbove 23 = .ok (.lstore 5, 2) := by decide +kernel
theorem dX2_isNearerAbove_25 : decode cX2_isNearerAbove 25 = .ok (.lconst 1, 1) := by decide +kernel
theorem dX2_isNearerAbove_26 : decode cX2_isNearerAbove 26 = .ok (.iload_n 2, 1) := by decide +kernel
theorem dX2_isNearerAbove_27 : decode cX2_isNearerAbove 27 = .ok (.iconst 1, 1) := by decide +kernel
theorem dX2_isNearerAbove_28 : decode cX2_isNearerAbove 28 = .ok (.isub, 1) := by decide +kernel
theorem dX2_isNearerAbove_29 : decode cX2_isNearerAbove 29 = .ok (.lshl, 1) := by decide +kernel
theorem dX2_isNearerAbove_30 : decode cX2_isNearerAbove 30 = .ok (.lstore 7, 2) := by decide +kernel
theorem dX2_isNearerAbove_32 : decode cX2_isNearerAbove 32 = .ok (.lload 5, 2) := by decide +kernel
theorem dX2_isNearerAbove_34 : decode cX2_isNearerAbove 34 = .ok (.lload 7, 2) := by decide +kernel
theorem dX2_isNearerAbove_36 : decode cX2_isNearerAbove 36 = .ok (.lcmp, 1) := by decide +kernel
theorem dX2_isNearerAbove_37 : decode cX2_isNearerAbove 37 = .ok (.ifCond .ne 17, 3) := by decide +kernel
theorem dX2_isNearerAbove_40 : decode cX2_isNearerAbove 40 = .ok (.lload_n 3, 1) := by decide +kernel
theorem dX2_isNearerAbove_41 : decode cX2_isNearerAbove 41 = .ok (.lconst 1, 1) := by decide +kernel
theorem dX2_isNearerAbove_42 : decode cX2_isNearerAbove 42 = .ok (.land, 1) := by decide +kernel
theorem dX2_isNearerAbove_43 : decode cX2_isNearerAbove 43 = .ok (.lconst 0, 1) := by decide +kernel
theorem dX2_isNearerAbove_44 : decode cX2_isNearerAbove 44 = .ok (.lcmp, 1) := by decide +kernel
theorem dX2_isNearerAbove_45 : decode cX2_isNearerAbove 45 = .ok (.ifCond .eq 7, 3) := by decide +kernel
theorem dX2_isNearerAbove_48 : decode cX2_isNearerAbove 48 = .ok (.iconst 1, 1) := by decide +kernel
theorem dX2_isNearerAbove_49 : decode cX2_isNearerAbove 49 = .ok (.goto 4, 3) := by decide +kernel
theorem dX2_isNearerAbove_52 : decode cX2_isNearerAbove 52 = .ok (.iconst 0, 1) := by decide +kernel
theorem dX2_isNearerAbove_53 : decode cX2_isNearerAbove 53 = .ok (.ireturn, 1) := by decide +kernel
theorem dX2_isNearerAbove_54 : decode cX2_isNearerAbove 54 = .ok (.lload 5, 2) := by decide +kernel
theorem dX2_isNearerAbove_56 : decode cX2_isNearerAbove 56 = .ok (.lload 7, 2) := by decide +kernel
theorem dX2_isNearerAbove_58 : decode cX2_isNearerAbove 58 = .ok (.invokestatic 172, 3) := by decide +kernel
theorem dX2_isNearerAbove_61 : decode cX2_isNearerAbove 61 = .ok (.ifCond .le 7, 3) := by decide +kernel
theorem dX2_isNearerAbove_64 : decode cX2_isNearerAbove 64 = .ok (.iconst 1, 1) := by decide +kernel
theorem dX2_isNearerAbove_65 : decode cX2_isNearerAbove 65 = .ok (.goto 4, 3) := by decide +kernel
theorem dX2_isNearerAbove_68 : decode cX2_isNearerAbove 68 = .ok (.iconst 0, 1) := by decide +kernel
theorem dX2_isNearerAbove_69 : decode cX2_isNearerAbove 69 = .ok (.ireturn, 1) := by decide +kernel
set_option maxRecDepth 20000 in
theorem ggX2_wholeOf_X1_isOf : GoodIn wsX2_wholeOf wsX1_isOf := goodIn_r _ [6, 7, 8, 9, 4, 10, 11, 12, 13, 14, 15, 16, 17, 18, 19, 20, 21, 22, 119, 120] (by decide +kernel) (by decide +kernel)
set_option maxRecDepth 20000 in
theorem gX2_wholeOf_X1_isOf_n112 : GoodIn wsX2_wholeOf (wsX1_isOf) := ggX2_wholeOf_X1_isOf
set_option maxRecDepth 20000 in
theorem ggX2_wholeOf_X1_isNegative : GoodIn wsX2_wholeOf wsX1_isNegative := goodIn_r _ [25, 22, 26, 119, 120] (by decide +kernel) (by decide +kernel)
set_option maxRecDepth 20000 in
theorem gX2_wholeOf_X1_isNegative_n137 : GoodIn wsX2_wholeOf (wsX1_isNegative) := ggX2_wholeOf_X1_isNegative
set_option maxRecDepth 20000 in
theorem ggX2_wholeOf_X1_exponent : GoodIn wsX2_wholeOf wsX1_exponent := goodIn_r _ [29, 11, 30, 31, 32, 4, 33, 34, 35, 36, 37, 18, 19, 20, 21, 22, 38, 39, 40, 41, 42, 43, 44, 45, 46, 119, 120] (by decide +kernel) (by decide +kernel)
set_option maxRecDepth 20000 in
theorem gX2_wholeOf_X1_exponent_n223 : GoodIn wsX2_wholeOf (wsX1_exponent) := ggX2_wholeOf_X1_exponent
set_option maxRecDepth 20000 in
theorem ggX2_wholeOf_X1_isNought : GoodIn wsX2_wholeOf wsX1_isNought := goodIn_r _ [49, 11, 18, 19, 20, 4, 21, 22, 119, 120] (by decide +kernel) (by decide +kernel)
set_option maxRecDepth 20000 in
theorem gX2_wholeOf_X1_isNought_n96 : GoodIn wsX2_wholeOf (wsX1_isNought) := ggX2_wholeOf_X1_isNought
set_option maxRecDepth 20000 in
theorem ggX2_wholeOf_X1_unit : GoodIn wsX2_wholeOf wsX1_unit := goodIn_r _ [33, 34, 35, 36, 37, 18, 19, 20, 4, 21, 22, 119, 120] (by decide +kernel) (by decide +kernel)
set_option maxRecDepth 20000 in
theorem gX2_wholeOf_X1_unit_n226 : GoodIn wsX2_wholeOf (wsX1_unit) := ggX2_wholeOf_X1_unit
set_option maxRecDepth 20000 in
theorem ggX2_wholeOf_X2_make : GoodIn wsX2_wholeOf wsX2_make := goodIn_r _ [54, 55, 56, 53, 57, 58, 59, 4, 60, 61, 62, 63, 64, 65, 66, 67, 68, 22, 11, 69, 39, 40, 41, 42, 43, 44, 45, 46, 70, 71, 72, 73, 2, 74, 75, 76, 77, 78, 79, 80, 81, 82, 83, 84, 85, 86, 87, 88, 89, 90, 91, 92, 93, 94, 95, 96, 97, 98, 99, 100, 101, 102, 103, 104, 105, 106, 107, 108, 109, 110, 111, 112, 113, 114, 115, 119, 120, 121, 122, 123, 124, 125, 126, 127] (by decide +kernel) (by decide +kernel)
set_option maxRecDepth 20000 in
theorem gX2_wholeOf_X2_make : GoodIn wsX2_wholeOf (wsV RX2 229 RX2 yX2_make wsX2_make) := goodIn_app (goodIn_of _ (by decide +kernel)) ggX2_wholeOf_X2_make
set_option maxRecDepth 20000 in
theorem ggX2_wholeOf_X1_normalised : GoodIn wsX2_wholeOf wsX1_normalised := goodIn_r _ [118, 11, 38, 39, 40, 41, 42, 43, 44, 45, 46, 119, 120] (by decide +kernel) (by decide +kernel)
set_option maxRecDepth 20000 in
theorem gX2_wholeOf_X1_normalised_n233 : GoodIn wsX2_wholeOf (wsX1_normalised) := ggX2_wholeOf_X1_normalised
set_option maxRecDepth 20000 in
theorem ggX2_wholeOf_X2_isCut : GoodIn wsX2_wholeOf wsX2_isCut := goodIn_r _ [84] (by decide +kernel) (by decide +kernel)
set_option maxRecDepth 20000 in
theorem gX2_wholeOf_X2_isCut : GoodIn wsX2_wholeOf (va_wsS RX2 198 yX2_isCut wsX2_isCut) := goodIn_app (goodIn_of _ (by decide +kernel)) ggX2_wholeOf_X2_isCut
set_option maxRecDepth 20000 in
theorem ggX2_wholeOf_X2_rounded : GoodIn wsX2_wholeOf wsX2_rounded := goodIn_r _ [88, 82, 83, 53, 84, 89, 90, 91, 92, 93, 94, 95, 96, 78, 97, 98, 99, 100, 101, 40, 102, 103, 104, 105, 106, 121, 122, 123, 124, 125, 126, 127] (by decide +kernel) (by decide +kernel)
set_option maxRecDepth 20000 in
theorem gX2_wholeOf_X2_rounded : GoodIn wsX2_wholeOf (wsV RX2 202 RX2 yX2_rounded wsX2_rounded) := goodIn_app (goodIn_of _ (by decide +kernel)) ggX2_wholeOf_X2_rounded
theorem dX2_wholeOf_0 : decode cX2_wholeOf 0 = .ok (.aload_n 1, 1) := by decide +kernel
theorem dX2_wholeOf_1 : decode cX2_wholeOf 1 = .ok (.getstatic 106, 3) := by decide +kernel
theorem dX2_wholeOf_4 : decode cX2_wholeOf 4 = .ok (.invokevirtual 112, 3) := by decide +kernel
theorem dX2_wholeOf_7 : decode cX2_wholeOf 7 = .ok (.ifCond .eq 5, 3) := by decide +kernel
theorem dX2_wholeOf_10 : decode cX2_wholeOf 10 = .ok (.aload_n 1, 1) := by decide +kernel
theorem dX2_wholeOf_11 : decode cX2_wholeOf 11 = .ok (.areturn, 1) := by decide +kernel
theorem dX2_wholeOf_12 : decode cX2_wholeOf 12 = .ok (.aload_n 1, 1) := by decide +kernel
theorem dX2_wholeOf_13 : decode cX2_wholeOf 13 = .ok (.invokevirtual 137, 3) := by decide +kernel
theorem dX2_wholeOf_16 : decode cX2_wholeOf 16 = .ok (.istore_n 2, 1) := by decide +kernel
theorem dX2_wholeOf_17 : decode cX2_wholeOf 17 = .ok (.bipush 63, 2) := by decide +kernel
theorem dX2_wholeOf_19 : decode cX2_wholeOf 19 = .ok (.aload_n 1, 1) := by decide +kernel
theorem dX2_wholeOf_20 : decode cX2_wholeOf 20 = .ok (.invokevirtual 223, 3) := by decide +kernel
theorem dX2_wholeOf_23 : decode cX2_wholeOf 23 = .ok (.isub, 1) := by decide +kernel
theorem dX2_wholeOf_24 : decode cX2_wholeOf 24 = .ok (.istore_n 3, 1) := by decide +kernel
theorem dX2_wholeOf_25 : decode cX2_wholeOf 25 = .ok (.aload_n 1, 1) := by decide +kernel
theorem dX2_wholeOf_26 : decode cX2_wholeOf 26 = .ok (.invokevirtual 96, 3) := by decide +kernel
theorem dX2_wholeOf_29 : decode cX2_wholeOf 29 = .ok (.ifCond .ne 7, 3) := by decide +kernel
theorem dX2_wholeOf_32 : decode cX2_wholeOf 32 = .ok (.iload_n 3, 1) := by decide +kernel
theorem dX2_wholeOf_33 : decode cX2_wholeOf 33 = .ok (.ifCond .gt 17, 3) := by decide +kernel
theorem dX2_wholeOf_36 : decode cX2_wholeOf 36 = .ok (.aload_n 0, 1) := by decide +kernel
theorem dX2_wholeOf_37 : decode cX2_wholeOf 37 = .ok (.iload_n 2, 1) := by decide +kernel
theorem dX2_wholeOf_38 : decode cX2_wholeOf 38 = .ok (.aload_n 1, 1) := by decide +kernel
theorem dX2_wholeOf_39 : decode cX2_wholeOf 39 = .ok (.getfield 150, 3) := by decide +kernel
theorem dX2_wholeOf_42 : decode cX2_wholeOf 42 = .ok (.aload_n 1, 1) := by decide +kernel
theorem dX2_wholeOf_43 : decode cX2_wholeOf 43 = .ok (.invokevirtual 226, 3) := by decide +kernel
theorem dX2_wholeOf_46 : decode cX2_wholeOf 46 = .ok (.invokevirtual 229, 3) := by decide +kernel
theorem dX2_wholeOf_49 : decode cX2_wholeOf 49 = .ok (.areturn, 1) := by decide +kernel
theorem dX2_wholeOf_50 : decode cX2_wholeOf 50 = .ok (.aload_n 1, 1) := by decide +kernel
theorem dX2_wholeOf_51 : decode cX2_wholeOf 51 = .ok (.invokevirtual 233, 3) := by decide +kernel
theorem dX2_wholeOf_54 : decode cX2_wholeOf 54 = .ok (.lstore 4, 2) := by decide +kernel
theorem dX2_wholeOf_56 : decode cX2_wholeOf 56 = .ok (.lload 4, 2) := by decide +kernel
theorem dX2_wholeOf_58 : decode cX2_wholeOf 58 = .ok (.iload_n 3, 1) := by decide +kernel
theorem dX2_wholeOf_59 : decode cX2_wholeOf 59 = .ok (.invokestatic 198, 3) := by decide +kernel
theorem dX2_wholeOf_62 : decode cX2_wholeOf 62 = .ok (.ifCond .eq 14, 3) := by decide +kernel
theorem dX2_wholeOf_65 : decode cX2_wholeOf 65 = .ok (.aload_n 0, 1) := by decide +kernel
theorem dX2_wholeOf_66 : decode cX2_wholeOf 66 = .ok (.dup, 1) := by decide +kernel
theorem dX2_wholeOf_67 : decode cX2_wholeOf 67 = .ok (.getfield 21, 3) := by decide +kernel
theorem dX2_wholeOf_70 : decode cX2_wholeOf 70 = .ok (.bipush 32, 2) := by decide +kernel
theorem dX2_wholeOf_72 : decode cX2_wholeOf 72 = .ok (.ior, 1) := by decide +kernel
theorem dX2_wholeOf_73 : decode cX2_wholeOf 73 = .ok (.putfield 21, 3) := by decide +kernel
theorem dX2_wholeOf_76 : decode cX2_wholeOf 76 = .ok (.aload_n 0, 1) := by decide +kernel
theorem dX2_wholeOf_77 : decode cX2_wholeOf 77 = .ok (.iload_n 2, 1) := by decide +kernel
theorem dX2_wholeOf_78 : decode cX2_wholeOf 78 = .ok (.aload_n 0, 1) := by decide +kernel
theorem dX2_wholeOf_79 : decode cX2_wholeOf 79 = .ok (.iload_n 2, 1) := by decide +kernel
theorem dX2_wholeOf_80 : decode cX2_wholeOf 80 = .ok (.lload 4, 2) := by decide +kernel
theorem dX2_wholeOf_82 : decode cX2_wholeOf 82 = .ok (.iload_n 3, 1) := by decide +kernel
theorem dX2_wholeOf_83 : decode cX2_wholeOf 83 = .ok (.invokevirtual 202, 3) := by decide +kernel
theorem dX2_wholeOf_86 : decode cX2_wholeOf 86 = .ok (.iconst 0, 1) := by decide +kernel
theorem dX2_wholeOf_87 : decode cX2_wholeOf 87 = .ok (.invokevirtual 229, 3) := by decide +kernel
theorem dX2_wholeOf_90 : decode cX2_wholeOf 90 = .ok (.areturn, 1) := by decide +kernel
set_option maxRecDepth 20000 in
theorem ggX2_isBeyondScale_X1_isNought : GoodIn wsX2_isBeyondScale wsX1_isNought := goodIn_r _ [5, 6, 7, 8, 9, 3, 10, 11, 45, 46] (by decide +kernel) (by decide +kernel)
set_option maxRecDepth 20000 in
theorem gX2_isBeyondScale_X1_isNought_n96 : GoodIn wsX2_isBeyondScale (wsX1_isNought) := ggX2_isBeyondScale_X1_isNought
set_option maxRecDepth 20000 in
theorem ggX2_isBeyondScale_X1_isOf : GoodIn wsX2_isBeyondScale wsX1_isOf := goodIn_r _ [14, 15, 16, 17, 3, 18, 6, 19, 20, 21, 22, 23, 24, 7, 8, 9, 10, 11, 45, 46] (by decide +kernel) (by decide +kernel)
set_option maxRecDepth 20000 in
theorem gX2_isBeyondScale_X1_isOf_n112 : GoodIn wsX2_isBeyondScale (wsX1_isOf) := ggX2_isBeyondScale_X1_isOf
set_option maxRecDepth 20000 in
theorem ggX2_isBeyondScale_X1_exponent : GoodIn wsX2_isBeyondScale wsX1_exponent := goodIn_r _ [27, 6, 28, 29, 30, 3, 31, 32, 33, 34, 35, 7, 8, 9, 10, 11, 36, 37, 38, 39, 40, 41, 42, 43, 44, 45, 46] (by decide +kernel) (by decide +kernel)
set_option maxRecDepth 20000 in
theorem gX2_isBeyondScale_X1_exponent_n223 : GoodIn wsX2_isBeyondScale (wsX1_exponent) := ggX2_isBeyondScale_X1_exponent
theorem dX2_isBeyondScale_0 : decode cX2_isBeyondScale 0 = .ok (.aload_n 0, 1) := by decide +kernel
theorem dX2_isBeyondScale_1 : decode cX2_isBeyondScale 1 = .ok (.invokevirtual 96, 3) := by decide +kernel
theorem dX2_isBeyondScale_4 : decode cX2_isBeyondScale 4 = .ok (.ifCond .eq 5, 3) := by decide +kernel
theorem dX2_isBeyondScale_7 : decode cX2_isBeyondScale 7 = .ok (.iconst 0, 1) := by decide +kernel
theorem dX2_isBeyondScale_8 : decode cX2_isBeyondScale 8 = .ok (.ireturn, 1) := by decide +kernel
theorem dX2_isBeyondScale_9 : decode cX2_isBeyondScale 9 = .ok (.aload_n 0, 1) := by decide +kernel
theorem dX2_isBeyondScale_10 : decode cX2_isBeyondScale 10 = .ok (.getstatic 106, 3) := by decide +kernel
theorem dX2_isBeyondScale_13 : decode cX2_isBeyondScale 13 = .ok (.invokevirtual 112, 3) := by decide +kernel
theorem dX2_isBeyondScale_16 : decode cX2_isBeyondScale 16 = .ok (.ifCond .ne 12, 3) := by decide +kernel
theorem dX2_isBeyondScale_19 : decode cX2_isBeyondScale 19 = .ok (.aload_n 0, 1) := by decide +kernel
theorem dX2_isBeyondScale_20 : decode cX2_isBeyondScale 20 = .ok (.invokevirtual 223, 3) := by decide +kernel
theorem dX2_isBeyondScale_23 : decode cX2_isBeyondScale 23 = .ok (.bipush 14, 2) := by decide +kernel
theorem dX2_isBeyondScale_25 : decode cX2_isBeyondScale 25 = .ok (.if_icmp .lt 7, 3) := by decide +kernel
theorem dX2_isBeyondScale_28 : decode cX2_isBeyondScale 28 = .ok (.iconst 1, 1) := by decide +kernel
theorem dX2_isBeyondScale_29 : decode cX2_isBeyondScale 29 = .ok (.goto 4, 3) := by decide +kernel
theorem dX2_isBeyondScale_32 : decode cX2_isBeyondScale 32 = .ok (.iconst 0, 1) := by decide +kernel
theorem dX2_isBeyondScale_33 : decode cX2_isBeyondScale 33 = .ok (.ireturn, 1) := by decide +kernel
set_option maxRecDepth 20000 in
theorem ggX2_scaled_X1_isOf : GoodIn wsX2_scaled wsX1_isOf := goodIn_r _ [5, 6, 7, 8, 3, 9, 10, 11, 12, 13, 14, 15, 16, 17, 18, 19, 20, 21, 122, 123] (by decide +kernel) (by decide +kernel)
set_option maxRecDepth 20000 in
theorem gX2_scaled_X1_isOf_n112 : GoodIn wsX2_scaled (wsX1_isOf) := ggX2_scaled_X1_isOf
set_option maxRecDepth 20000 in
theorem ggX2_scaled_X1_isNegative : GoodIn wsX2_scaled wsX1_isNegative := goodIn_r _ [24, 21, 25, 122, 123] (by decide +kernel) (by decide +kernel)
set_option maxRecDepth 20000 in
theorem gX2_scaled_X1_isNegative_n137 : GoodIn wsX2_scaled (wsX1_isNegative) := ggX2_scaled_X1_isNegative
set_option maxRecDepth 20000 in
theorem ggX2_scaled_X1_unit : GoodIn wsX2_scaled wsX1_unit := goodIn_r _ [28, 29, 30, 31, 32, 17, 18, 19, 3, 20, 21, 122, 123] (by decide +kernel) (by decide +kernel)
set_option maxRecDepth 20000 in
theorem gX2_scaled_X1_unit_n226 : GoodIn wsX2_scaled (wsX1_unit) := ggX2_scaled_X1_unit
set_option maxRecDepth 20000 in
theorem ggX2_scaled_X2_cutOff : GoodIn wsX2_scaled wsX2_cutOff := goodIn_r _ [36, 37, 3, 38, 39, 10, 40, 26, 27, 28, 29, 30, 31, 32, 17, 18, 19, 20, 21, 41, 42, 43, 44, 45, 46, 47, 48, 49, 50, 51, 52, 53, 54, 55, 22, 23, 24, 25, 122, 123] (by decide +kernel) (by decide +kernel)
set_option maxRecDepth 20000 in
theorem gX2_scaled_X2_cutOff : GoodIn wsX2_scaled (va_wsS RX2 237 yX2_cutOff wsX2_cutOff) := goodIn_app (goodIn_of _ (by decide +kernel)) ggX2_scaled_X2_cutOff
set_option maxRecDepth 20000 in
theorem ggX2_scaled_X2_make : GoodIn wsX2_scaled wsX2_make := goodIn_r _ [59, 60, 61, 35, 62, 63, 64, 3, 65, 66, 67, 68, 69, 70, 71, 72, 73, 21, 10, 74, 42, 43, 44, 45, 46, 47, 48, 49, 75, 76, 77, 78, 79, 80, 81, 82, 83, 84, 85, 86, 87, 88, 89, 90, 91, 92, 93, 94, 95, 96, 97, 98, 99, 100, 101, 102, 103, 104, 105, 106, 107, 108, 109, 110, 111, 112, 113, 114, 115, 116, 117, 118, 119, 120, 121, 122, 123, 124, 125, 126, 127, 128, 129, 130] (by decide +kernel) (by decide +kernel)
set_option maxRecDepth 20000 in
theorem gX2_scaled_X2_make : GoodIn wsX2_scaled (wsV RX2 229 RX2 yX2_make wsX2_make) := goodIn_app (goodIn_of _ (by decide +kernel)) ggX2_scaled_X2_make
theorem dX2_scaled_0 : decode cX2_scaled 0 = .ok (.aload_n 1, 1) := by decide +kernel
theorem dX2_scaled_1 : decode cX2_scaled 1 = .ok (.getstatic 106, 3) := by decide +kernel
theorem dX2_scaled_4 : decode cX2_scaled 4 = .ok (.invokevirtual 112, 3) := by decide +kernel
theorem dX2_scaled_7 : decode cX2_scaled 7 = .ok (.ifCond .eq 5, 3) := by decide +kernel
theorem dX2_scaled_10 : decode cX2_scaled 10 = .ok (.aload_n 1, 1) := by decide +kernel
theorem dX2_scaled_11 : decode cX2_scaled 11 = .ok (.areturn, 1) := by decide +kernel
theorem dX2_scaled_12 : decode cX2_scaled 12 = .ok (.aload_n 0, 1) := by decide +kernel
theorem dX2_scaled_13 : decode cX2_scaled 13 = .ok (.aload_n 1, 1) := by decide +kernel
theorem dX2_scaled_14 : decode cX2_scaled 14 = .ok (.invokevirtual 137, 3) := by decide +kernel
theorem dX2_scaled_17 : decode cX2_scaled 17 = .ok (.aload_n 1, 1) := by decide +kernel
theorem dX2_scaled_18 : decode cX2_scaled 18 = .ok (.getfield 150, 3) := by decide +kernel
theorem dX2_scaled_21 : decode cX2_scaled 21 = .ok (.aload_n 1, 1) := by decide +kernel
theorem dX2_scaled_22 : decode cX2_scaled 22 = .ok (.invokevirtual 226, 3) := by decide +kernel
theorem dX2_scaled_25 : decode cX2_scaled 25 = .ok (.aload_n 2, 1) := by decide +kernel
theorem dX2_scaled_26 : decode cX2_scaled 26 = .ok (.invokestatic 237, 3) := by decide +kernel
theorem dX2_scaled_29 : decode cX2_scaled 29 = .ok (.iadd, 1) := by decide +kernel
theorem dX2_scaled_30 : decode cX2_scaled 30 = .ok (.invokevirtual 229, 3) := by decide +kernel
theorem dX2_scaled_33 : decode cX2_scaled 33 = .ok (.areturn, 1) := by decide +kernel
set_option maxRecDepth 20000 in
theorem ggX2_cutOff_X1_exponent : GoodIn wsX2_cutOff wsX1_exponent := goodIn_r _ [4, 5, 6, 7, 8, 2, 9, 10, 11, 12, 13, 14, 15, 16, 17, 18, 19, 20, 21, 22, 23, 24, 25, 26, 27, 38, 39] (by decide +kernel) (by decide +kernel)
set_option maxRecDepth 20000 in
theorem gX2_cutOff_X1_exponent_n223 : GoodIn wsX2_cutOff (wsX1_exponent) := ggX2_cutOff_X1_exponent
set_option maxRecDepth 20000 in
theorem ggX2_cutOff_X1_isNought : GoodIn wsX2_cutOff wsX1_isNought := goodIn_r _ [30, 5, 14, 15, 16, 2, 17, 18, 38, 39] (by decide +kernel) (by decide +kernel)
set_option maxRecDepth 20000 in
theorem gX2_cutOff_X1_isNought_n96 : GoodIn wsX2_cutOff (wsX1_isNought) := ggX2_cutOff_X1_isNought
set_option maxRecDepth 20000 in
theorem ggX2_cutOff_X1_normalised : GoodIn wsX2_cutOff wsX1_normalised := goodIn_r _ [33, 5, 19, 20, 21, 22, 23, 24, 25, 26, 27, 38, 39] (by decide +kernel) (by decide +kernel)
set_option maxRecDepth 20000 in
theorem gX2_cutOff_X1_normalised_n233 : GoodIn wsX2_cutOff (wsX1_normalised) := ggX2_cutOff_X1_normalised
set_option maxRecDepth 20000 in
theorem ggX2_cutOff_X1_isNegative : GoodIn wsX2_cutOff wsX1_isNegative := goodIn_r _ [36, 18, 37, 38, 39] (by decide +kernel) (by decide +kernel)
set_option maxRecDepth 20000 in
theorem gX2_cutOff_X1_isNegative_n137 : GoodIn wsX2_cutOff (wsX1_isNegative) := ggX2_cutOff_X1_isNegative
theorem dX2_cutOff_0 : decode cX2_cutOff 0 = .ok (.aload_n 0, 1) := by decide +kernel
theorem dX2_cutOff_1 : decode cX2_cutOff 1 = .ok (.invokevirtual 223, 3) := by decide +kernel
theorem dX2_cutOff_4 : decode cX2_cutOff 4 = .ok (.istore_n 1, 1) := by decide +kernel
theorem dX2_cutOff_5 : decode cX2_cutOff 5 = .ok (.aload_n 0, 1) := by decide +kernel
theorem dX2_cutOff_6 : decode cX2_cutOff 6 = .ok (.invokevirtual 96, 3) := by decide +kernel
theorem dX2_cutOff_9 : decode cX2_cutOff 9 = .ok (.ifCond .ne 7, 3) := by decide +kernel
theorem dX2_cutOff_12 : decode cX2_cutOff 12 = .ok (.iload_n 1, 1) := by decide +kernel
theorem dX2_cutOff_13 : decode cX2_cutOff 13 = .ok (.ifCond .ge 5, 3) := by decide +kernel
theorem dX2_cutOff_16 : decode cX2_cutOff 16 = .ok (.iconst 0, 1) := by decide +kernel
theorem dX2_cutOff_17 : decode cX2_cutOff 17 = .ok (.ireturn, 1) := by decide +kernel
theorem dX2_cutOff_18 : decode cX2_cutOff 18 = .ok (.aload_n 0, 1) := by decide +kernel
theorem dX2_cutOff_19 : decode cX2_cutOff 19 = .ok (.invokevirtual 233, 3) := by decide +kernel
theorem dX2_cutOff_22 : decode cX2_cutOff 22 = .ok (.bipush 63, 2) := by decide +kernel
theorem dX2_cutOff_24 : decode cX2_cutOff 24 = .ok (.iload_n 1, 1) := by decide +kernel
theorem dX2_cutOff_25 : decode cX2_cutOff 25 = .ok (.isub, 1) := by decide +kernel
theorem dX2_cutOff_26 : decode cX2_cutOff 26 = .ok (.lushr, 1) := by decide +kernel
theorem dX2_cutOff_27 : decode cX2_cutOff 27 = .ok (.l2i, 1) := by decide +kernel
theorem dX2_cutOff_28 : decode cX2_cutOff 28 = .ok (.istore_n 2, 1) := by decide +kernel
theorem dX2_cutOff_29 : decode cX2_cutOff 29 = .ok (.aload_n 0, 1) := by decide +kernel
theorem dX2_cutOff_30 : decode cX2_cutOff 30 = .ok (.invokevirtual 137, 3) := by decide +kernel
theorem dX2_cutOff_33 : decode cX2_cutOff 33 = .ok (.ifCond .eq 8, 3) := by decide +kernel
theorem dX2_cutOff_36 : decode cX2_cutOff 36 = .ok (.iload_n 2, 1) := by decide +kernel
theorem dX2_cutOff_37 : decode cX2_cutOff 37 = .ok (.ineg, 1) := by decide +kernel
theorem dX2_cutOff_38 : decode cX2_cutOff 38 = .ok (.goto 4, 3) := by decide +kernel
theorem dX2_cutOff_41 : decode cX2_cutOff 41 = .ok (.iload_n 2, 1) := by decide +kernel
theorem dX2_cutOff_42 : decode cX2_cutOff 42 = .ok (.ireturn, 1) := by decide +kernel
set_option maxRecDepth 20000 in
theorem ggX2_powerOf_X1_isOf : GoodIn wsX2_powerOf wsX1_isOf := goodIn_r _ [9, 10, 11, 12, 7, 13, 14, 15, 16, 17, 18, 19, 20, 21, 22, 23, 24, 25, 115, 116] (by decide +kernel) (by decide +kernel)
set_option maxRecDepth 20000 in
theorem gX2_powerOf_X1_isOf_n112 : GoodIn wsX2_powerOf (wsX1_isOf) := ggX2_powerOf_X1_isOf
set_option maxRecDepth 20000 in
theorem ggX2_powerOf_X2_infinite : GoodIn wsX2_powerOf wsX2_infinite := goodIn_r _ [29, 30, 31, 7, 32, 33, 34, 28, 35, 36, 37, 38, 39, 40, 41, 25, 14, 115, 116] (by decide +kernel) (by decide +kernel)
set_option maxRecDepth 20000 in
theorem gX2_powerOf_X2_infinite : GoodIn wsX2_powerOf (va_wsS RX2 212 yX2_infinite wsX2_infinite) := goodIn_app (goodIn_of _ (by decide +kernel)) ggX2_powerOf_X2_infinite
set_option maxRecDepth 20000 in
theorem ggX2_powerOf_X1_isNought : GoodIn wsX2_powerOf wsX1_isNought := goodIn_r _ [44, 14, 21, 22, 23, 7, 24, 25, 115, 116] (by decide +kernel) (by decide +kernel)
set_option maxRecDepth 20000 in
theorem gX2_powerOf_X1_isNought_n96 : GoodIn wsX2_powerOf (wsX1_isNought) := ggX2_powerOf_X1_isNought
set_option maxRecDepth 20000 in
theorem ggX2_powerOf_X1_exponent : GoodIn wsX2_powerOf wsX1_exponent := goodIn_r _ [47, 14, 48, 49, 50, 7, 51, 52, 53, 4, 54, 21, 22, 23, 24, 25, 55, 56, 57, 58, 59, 60, 61, 62, 63, 115, 116] (by decide +kernel) (by decide +kernel)
set_option maxRecDepth 20000 in
theorem gX2_powerOf_X1_exponent_n223 : GoodIn wsX2_powerOf (wsX1_exponent) := ggX2_powerOf_X1_exponent
set_option maxRecDepth 20000 in
theorem ggX2_powerOf_X2_make : GoodIn wsX2_powerOf wsX2_make := goodIn_r _ [67, 68, 69, 28, 70, 30, 31, 7, 33, 34, 35, 36, 37, 38, 39, 40, 41, 25, 14, 71, 56, 57, 58, 59, 60, 61, 62, 63, 72, 73, 74, 75, 76, 77, 78, 79, 80, 81, 82, 83, 84, 85, 86, 87, 88, 89, 90, 91, 92, 93, 94, 95, 96, 97, 98, 99, 100, 101, 102, 103, 104, 105, 106, 107, 108, 109, 110, 111, 112, 113, 114, 26, 27, 29, 32, 115, 116, 117, 118, 119, 120, 121, 122, 123] (by decide +kernel) (by decide +kernel)
set_option maxRecDepth 20000 in
theorem gX2_powerOf_X2_make : GoodIn wsX2_powerOf (wsV RX2 229 RX2 yX2_make wsX2_make) := goodIn_app (goodIn_of _ (by decide +kernel)) ggX2_powerOf_X2_make
theorem dX2_powerOf_0 : decode cX2_powerOf 0 = .ok (.aload_n 1, 1) := by decide +kernel
theorem dX2_powerOf_1 : decode cX2_powerOf 1 = .ok (.getstatic 106, 3) := by decide +kernel
theorem dX2_powerOf_4 : decode cX2_powerOf 4 = .ok (.invokevirtual 112, 3) := by decide +kernel
theorem dX2_powerOf_7 : decode cX2_powerOf 7 = .ok (.ifCond .eq 8, 3) := by decide +kernel
theorem dX2_powerOf_10 : decode cX2_powerOf 10 = .ok (.iconst 0, 1) := by decide +kernel
theorem dX2_powerOf_11 : decode cX2_powerOf 11 = .ok (.invokestatic 212, 3) := by decide +kernel
theorem dX2_powerOf_14 : decode cX2_powerOf 14 = .ok (.areturn, 1) := by decide +kernel
theorem dX2_powerOf_15 : decode cX2_powerOf 15 = .ok (.aload_n 1, 1) := by decide +kernel
theorem dX2_powerOf_16 : decode cX2_powerOf 16 = .ok (.invokevirtual 96, 3) := by decide +kernel
theorem dX2_powerOf_19 : decode cX2_powerOf 19 = .ok (.ifCond .eq 8, 3) := by decide +kernel
theorem dX2_powerOf_22 : decode cX2_powerOf 22 = .ok (.iconst 1, 1) := by decide +kernel
theorem dX2_powerOf_23 : decode cX2_powerOf 23 = .ok (.invokestatic 212, 3) := by decide +kernel
theorem dX2_powerOf_26 : decode cX2_powerOf 26 = .ok (.areturn, 1) := by decide +kernel
theorem dX2_powerOf_27 : decode cX2_powerOf 27 = .ok (.aload_n 1, 1) := by decide +kernel
theorem dX2_powerOf_28 : decode cX2_powerOf 28 = .ok (.invokevirtual 223, 3) := by decide +kernel
theorem dX2_powerOf_31 : decode cX2_powerOf 31 = .ok (.istore_n 2, 1) := by decide +kernel
theorem dX2_powerOf_32 : decode cX2_powerOf 32 = .ok (.aload_n 0, 1) := by decide +kernel
theorem dX2_powerOf_33 : decode cX2_powerOf 33 = .ok (.iload_n 2, 1) := by decide +kernel
theorem dX2_powerOf_34 : decode cX2_powerOf 34 = .ok (.ifCond .ge 7, 3) := by decide +kernel
theorem dX2_powerOf_37 : decode cX2_powerOf 37 = .ok (.iconst 1, 1) := by decide +kernel
theorem dX2_powerOf_38 : decode cX2_powerOf 38 = .ok (.goto 4, 3) := by decide +kernel
theorem dX2_powerOf_41 : decode cX2_powerOf 41 = .ok (.iconst 0, 1) := by decide +kernel
theorem dX2_powerOf_42 : decode cX2_powerOf 42 = .ok (.iload_n 2, 1) := by decide +kernel
theorem dX2_powerOf_43 : decode cX2_powerOf 43 = .ok (.invokestatic 241, 3) := by decide +kernel
theorem dX2_powerOf_46 : decode cX2_powerOf 46 = .ok (.i2l, 1) := by decide +kernel
theorem dX2_powerOf_47 : decode cX2_powerOf 47 = .ok (.iconst 0, 1) := by decide +kernel
theorem dX2_powerOf_48 : decode cX2_powerOf 48 = .ok (.invokevirtual 229, 3) := by decide +kernel
theorem dX2_powerOf_51 : decode cX2_powerOf 51 = .ok (.areturn, 1) := by decide +kernel
set_option maxRecDepth 20000 in
theorem ggX2_fractionOf_X1_isOf : GoodIn wsX2_fractionOf wsX1_isOf := goodIn_r _ [5, 6, 7, 8, 3, 9, 10, 11, 12, 13, 14, 15, 16, 17, 18, 19, 20, 21, 105, 106] (by decide +kernel) (by decide +kernel)
set_option maxRecDepth 20000 in
theorem gX2_fractionOf_X1_isOf_n112 : GoodIn wsX2_fractionOf (wsX1_isOf) := ggX2_fractionOf_X1_isOf
set_option maxRecDepth 20000 in
theorem ggX2_fractionOf_X1_isNegative : GoodIn wsX2_fractionOf wsX1_isNegative := goodIn_r _ [24, 21, 25, 105, 106] (by decide +kernel) (by decide +kernel)
set_option maxRecDepth 20000 in
theorem gX2_fractionOf_X1_isNegative_n137 : GoodIn wsX2_fractionOf (wsX1_isNegative) := ggX2_fractionOf_X1_isNegative
set_option maxRecDepth 20000 in
theorem ggX2_fractionOf_X1_normalised : GoodIn wsX2_fractionOf wsX1_normalised := goodIn_r _ [28, 10, 29, 30, 31, 32, 33, 34, 35, 36, 37, 105, 106] (by decide +kernel) (by decide +kernel)
set_option maxRecDepth 20000 in
theorem gX2_fractionOf_X1_normalised_n233 : GoodIn wsX2_fractionOf (wsX1_normalised) := ggX2_fractionOf_X1_normalised
set_option maxRecDepth 20000 in
theorem ggX2_fractionOf_X2_make : GoodIn wsX2_fractionOf wsX2_make := goodIn_r _ [42, 43, 44, 41, 45, 46, 47, 3, 48, 49, 50, 51, 52, 53, 54, 55, 56, 21, 10, 57, 30, 31, 32, 33, 34, 35, 36, 37, 58, 59, 60, 61, 62, 63, 64, 65, 66, 67, 68, 69, 70, 71, 72, 73, 74, 75, 76, 77, 78, 79, 80, 81, 82, 83, 84, 85, 86, 87, 88, 89, 90, 91, 92, 93, 94, 95, 96, 97, 98, 99, 100, 101, 102, 103, 104, 105, 106, 107, 108, 109, 110, 111, 112, 113] (by decide +kernel) (by decide +kernel)
set_option maxRecDepth 20000 in
theorem gX2_fractionOf_X2_make : GoodIn wsX2_fractionOf (wsV RX2 229 RX2 yX2_make wsX2_make) := goodIn_app (goodIn_of _ (by decide +kernel)) ggX2_fractionOf_X2_make
theorem dX2_fractionOf_0 : decode cX2_fractionOf 0 = .ok (.aload_n 1, 1) := by decide +kernel
theorem dX2_fractionOf_1 : decode cX2_fractionOf 1 = .ok (.getstatic 106, 3) := by decide +kernel
theorem dX2_fractionOf_4 : decode cX2_fractionOf 4 = .ok (.invokevirtual 112, 3) := by decide +kernel
theorem dX2_fractionOf_7 : decode cX2_fractionOf 7 = .ok (.ifCond .eq 5, 3) := by decide +kernel
theorem dX2_fractionOf_10 : decode cX2_fractionOf 10 = .ok (.aload_n 1, 1) := by decide +kernel
theorem dX2_fractionOf_11 : decode cX2_fractionOf 11 = .ok (.areturn, 1) := by decide +kernel
theorem dX2_fractionOf_12 : decode cX2_fractionOf 12 = .ok (.aload_n 0, 1) := by decide +kernel
theorem dX2_fractionOf_13 : decode cX2_fractionOf 13 = .ok (.aload_n 1, 1) := by decide +kernel
theorem dX2_fractionOf_14 : decode cX2_fractionOf 14 = .ok (.invokevirtual 137, 3) := by decide +kernel
theorem dX2_fractionOf_17 : decode cX2_fractionOf 17 = .ok (.aload_n 1, 1) := by decide +kernel
theorem dX2_fractionOf_18 : decode cX2_fractionOf 18 = .ok (.invokevirtual 233, 3) := by decide +kernel
theorem dX2_fractionOf_21 : decode cX2_fractionOf 21 = .ok (.bipush (-63), 2) := by decide +kernel
theorem dX2_fractionOf_23 : decode cX2_fractionOf 23 = .ok (.invokevirtual 229, 3) := by decide +kernel
theorem dX2_fractionOf_26 : decode cX2_fractionOf 26 = .ok (.areturn, 1) := by decide +kernel
set_option maxRecDepth 20000 in
theorem ggX2_leftOver_X1_isNegative : GoodIn wsX2_leftOver wsX1_isNegative := goodIn_r _ [7, 8, 9, 132, 133] (by decide +kernel) (by decide +kernel)
set_option maxRecDepth 20000 in
theorem gX2_leftOver_X1_isNegative_n137 : GoodIn wsX2_leftOver (wsX1_isNegative) := ggX2_leftOver_X1_isNegative
set_option maxRecDepth 20000 in
theorem ggX2_leftOver_X1_exponent : GoodIn wsX2_leftOver wsX1_exponent := goodIn_r _ [12, 13, 14, 15, 16, 5, 17, 18, 19, 20, 21, 22, 23, 24, 25, 8, 26, 27, 28, 29, 30, 31, 32, 33, 34, 132, 133] (by decide +kernel) (by decide +kernel)
set_option maxRecDepth 20000 in
theorem gX2_leftOver_X1_exponent_n223 : GoodIn wsX2_leftOver (wsX1_exponent) := ggX2_leftOver_X1_exponent
set_option maxRecDepth 20000 in
theorem ggX2_leftOver_X1_isOf : GoodIn wsX2_leftOver wsX1_isOf := goodIn_r _ [37, 38, 39, 40, 5, 41, 13, 42, 43, 44, 45, 46, 47, 22, 23, 24, 25, 8, 132, 133] (by decide +kernel) (by decide +kernel)
set_option maxRecDepth 20000 in
theorem gX2_leftOver_X1_isOf_n112 : GoodIn wsX2_leftOver (wsX1_isOf) := ggX2_leftOver_X1_isOf
set_option maxRecDepth 20000 in
theorem ggX2_leftOver_X1_isNought : GoodIn wsX2_leftOver wsX1_isNought := goodIn_r _ [50, 13, 22, 23, 24, 5, 25, 8, 132, 133] (by decide +kernel) (by decide +kernel)
set_option maxRecDepth 20000 in
theorem gX2_leftOver_X1_isNought_n96 : GoodIn wsX2_leftOver (wsX1_isNought) := ggX2_leftOver_X1_isNought
set_option maxRecDepth 20000 in
theorem ggX2_leftOver_X1_unit : GoodIn wsX2_leftOver wsX1_unit := goodIn_r _ [17, 18, 19, 20, 21, 22, 23, 24, 5, 25, 8, 132, 133] (by decide +kernel) (by decide +kernel)
set_option maxRecDepth 20000 in
theorem gX2_leftOver_X1_unit_n226 : GoodIn wsX2_leftOver (wsX1_unit) := ggX2_leftOver_X1_unit
set_option maxRecDepth 20000 in
theorem ggX2_leftOver_X2_make : GoodIn wsX2_leftOver wsX2_make := goodIn_r _ [55, 56, 57, 54, 58, 59, 60, 5, 61, 62, 63, 64, 65, 66, 67, 68, 69, 8, 13, 70, 27, 28, 29, 30, 31, 32, 33, 34, 71, 72, 73, 74, 75, 76, 77, 78, 79, 80, 81, 82, 83, 84, 85, 86, 87, 88, 89, 90, 91, 92, 93, 94, 95, 96, 97, 98, 99, 100, 101, 102, 103, 104, 105, 106, 107, 108, 109, 110, 111, 112, 113, 114, 115, 116, 117, 132, 133, 125, 126, 127, 128, 129, 130, 131] (by decide +kernel) (by decide +kernel)
set_option maxRecDepth 20000 in
theorem gX2_leftOver_X2_make : GoodIn wsX2_leftOver (wsV RX2 229 RX2 yX2_make wsX2_make) := goodIn_app (goodIn_of _ (by decide +kernel)) ggX2_leftOver_X2_make
set_option maxRecDepth 20000 in
theorem ggX2_leftOver_X1_normalised : GoodIn wsX2_leftOver wsX1_normalised := goodIn_r _ [120, 13, 26, 27, 28, 29, 30, 31, 32, 33, 34, 132, 133] (by decide +kernel) (by decide +kernel)
set_option maxRecDepth 20000 in
theorem gX2_leftOver_X1_normalised_n233 : GoodIn wsX2_leftOver (wsX1_normalised) := ggX2_leftOver_X1_normalised
set_option maxRecDepth 20000 in
theorem ggX2_leftOver_X2_divide : GoodIn wsX2_leftOver wsX2_divide := goodIn_r _ [124, 1, 102, 103, 28, 104, 105, 106, 107, 108, 125, 126, 127, 128, 129, 130, 131] (by decide +kernel) (by decide +kernel)
set_option maxRecDepth 20000 in
theorem gX2_leftOver_X2_divide : GoodIn wsX2_leftOver (wsV RX2 247 RX2 yX2_divide wsX2_divide) := goodIn_app (goodIn_of _ (by decide +kernel)) ggX2_leftOver_X2_divide
theorem dX2_leftOver_0 : decode cX2_leftOver 0 = .ok (.aload_n 0, 1) := by decide +kernel
theorem dX2_leftOver_1 : decode cX2_leftOver 1 = .ok (.iconst 0, 1) := by decide +kernel
theorem dX2_leftOver_2 : decode cX2_leftOver 2 = .ok (.putfield 28, 3) := by decide +kernel
theorem dX2_leftOver_5 : decode cX2_leftOver 5 = .ok (.aload_n 0, 1) := by decide +kernel
theorem dX2_leftOver_6 : decode cX2_leftOver 6 = .ok (.iconst 0, 1) := by decide +kernel
theorem dX2_leftOver_7 : decode cX2_leftOver 7 = .ok (.putfield 31, 3) := by decide +kernel
theorem dX2_leftOver_10 : decode cX2_leftOver 10 = .ok (.aload_n 1, 1) := by decide +kernel
theorem dX2_leftOver_11 : decode cX2_leftOver 11 = .ok (.invokevirtual 137, 3) := by decide +kernel
theorem dX2_leftOver_14 : decode cX2_leftOver 14 = .ok (.istore_n 3, 1) := by decide +kernel
theorem dX2_leftOver_15 : decode cX2_leftOver 15 = .ok (.aload_n 1, 1) := by decide +kernel
theorem dX2_leftOver_16 : decode cX2_leftOver 16 = .ok (.invokevirtual 223, 3) := by decide +kernel
theorem dX2_leftOver_19 : decode cX2_leftOver 19 = .ok (.aload_n 2, 1) := by decide +kernel
theorem dX2_leftOver_20 : decode cX2_leftOver 20 = .ok (.invokevirtual 223, 3) := by decide +kernel
theorem dX2_leftOver_23 : decode cX2_leftOver 23 = .ok (.isub, 1) := by decide +kernel
theorem dX2_leftOver_24 : decode cX2_leftOver 24 = .ok (.istore 4, 2) := by decide +kernel
theorem dX2_leftOver_26 : decode cX2_leftOver 26 = .ok (.aload_n 2, 1) := by decide +kernel
theorem dX2_leftOver_27 : decode cX2_leftOver 27 = .ok (.getstatic 106, 3) := by decide +kernel
theorem dX2_leftOver_30 : decode cX2_leftOver 30 = .ok (.invokevirtual 112, 3) := by decide +kernel
theorem dX2_leftOver_33 : decode cX2_leftOver 33 = .ok (.ifCond .ne 15, 3) := by decide +kernel
theorem dX2_leftOver_36 : decode cX2_leftOver 36 = .ok (.aload_n 1, 1) := by decide +kernel
theorem dX2_leftOver_37 : decode cX2_leftOver 37 = .ok (.invokevirtual 96, 3) := by decide +kernel
theorem dX2_leftOver_40 : decode cX2_leftOver 40 = .ok (.ifCond .ne 8, 3) := by decide +kernel
theorem dX2_leftOver_43 : decode cX2_leftOver 43 = .ok (.iload 4, 2) := by decide +kernel
theorem dX2_leftOver_45 : decode cX2_leftOver 45 = .ok (.ifCond .ge 17, 3) := by decide +kernel
theorem dX2_leftOver_48 : decode cX2_leftOver 48 = .ok (.aload_n 0, 1) := by decide +kernel
theorem dX2_leftOver_49 : decode cX2_leftOver 49 = .ok (.iload_n 3, 1) := by decide +kernel
theorem dX2_leftOver_50 : decode cX2_leftOver 50 = .ok (.aload_n 1, 1) := by decide +kernel
theorem dX2_leftOver_51 : decode cX2_leftOver 51 = .ok (.getfield 150, 3) := by decide +kernel
theorem dX2_leftOver_54 : decode cX2_leftOver 54 = .ok (.aload_n 1, 1) := by decide +kernel
theorem dX2_leftOver_55 : decode cX2_leftOver 55 = .ok (.invokevirtual 226, 3) := by decide +kernel
theorem dX2_leftOver_58 : decode cX2_leftOver 58 = .ok (.invokevirtual 229, 3) := by decide +kernel
theorem dX2_leftOver_61 : decode cX2_leftOver 61 = .ok (.areturn, 1) := by decide +kernel
theorem dX2_leftOver_62 : decode cX2_leftOver 62 = .ok (.aload_n 0, 1) := by decide +kernel
theorem dX2_leftOver_63 : decode cX2_leftOver 63 = .ok (.iload 4, 2) := by decide +kernel
theorem dX2_leftOver_65 : decode cX2_leftOver 65 = .ok (.bipush 63, 2) := by decide +kernel
theorem dX2_leftOver_67 : decode cX2_leftOver 67 = .ok (.if_icmp .le 7, 3) := by decide +kernel
theorem dX2_leftOver_70 : decode cX2_leftOver 70 = .ok (.iconst 1, 1) := by decide +kernel
theorem dX2_leftOver_71 : decode cX2_leftOver 71 = .ok (.goto 4, 3) := by decide +kernel
theorem dX2_leftOver_74 : decode cX2_leftOver 74 = .ok (.iconst 0, 1) := by decide +kernel
theorem dX2_leftOver_75 : decode cX2_leftOver 75 = .ok (.putfield 31, 3) := by decide +kernel
theorem dX2_leftOver_78 : decode cX2_leftOver 78 = .ok (.aload_n 0, 1) := by decide +kernel
theorem dX2_leftOver_79 : decode cX2_leftOver 79 = .ok (.getfield 31, 3) := by decide +kernel
theorem dX2_leftOver_82 : decode cX2_leftOver 82 = .ok (.ifCond .eq 8, 3) := by decide +kernel
theorem dX2_leftOver_85 : decode cX2_leftOver 85 = .ok (.bipush 63, 2) := by decide +kernel
theorem dX2_leftOver_87 : decode cX2_leftOver 87 = .ok (.goto 5, 3) := by decide +kernel
theorem dX2_leftOver_90 : decode cX2_leftOver 90 = .ok (.iload 4, 2) := by decide +kernel
theorem dX2_leftOver_92 : decode cX2_leftOver 92 = .ok (.istore 5, 2) := by decide +kernel
theorem dX2_leftOver_94 : decode cX2_leftOver 94 = .ok (.aload_n 0, 1) := by decide +kernel
theorem dX2_leftOver_95 : decode cX2_leftOver 95 = .ok (.aload_n 1, 1) := by decide +kernel
theorem dX2_leftOver_96 : decode cX2_leftOver 96 = .ok (.invokevirtual 233, 3) := by decide +kernel
theorem dX2_leftOver_99 : decode cX2_leftOver 99 = .ok (.aload_n 2, 1) := by decide +kernel
theorem dX2_leftOver_100 : decode cX2_leftOver 100 = .ok (.invokevirtual 233, 3) := by decide +kernel
theorem dX2_leftOver_103 : decode cX2_leftOver 103 = .ok (.iload 5, 2) := by decide +kernel
theorem dX2_leftOver_105 : decode cX2_leftOver 105 = .ok (.invokevirtual 247, 3) := by decide +kernel
theorem dX2_leftOver_108 : decode cX2_leftOver 108 = .ok (.lstore 6, 2) := by decide +kernel
theorem dX2_leftOver_110 : decode cX2_leftOver 110 = .ok (.aload_n 0, 1) := by decide +kernel
theorem dX2_leftOver_111 : decode cX2_leftOver 111 = .ok (.iload_n 3, 1) := by decide +kernel
theorem dX2_leftOver_112 : decode cX2_leftOver 112 = .ok (.lload 6, 2) := by decide +kernel
theorem dX2_leftOver_114 : decode cX2_leftOver 114 = .ok (.aload_n 1, 1) := by decide +kernel
theorem dX2_leftOver_115 : decode cX2_leftOver 115 = .ok (.invokevirtual 223, 3) := by decide +kernel
theorem dX2_leftOver_118 : decode cX2_leftOver 118 = .ok (.bipush 63, 2) := by decide +kernel
theorem dX2_leftOver_120 : decode cX2_leftOver 120 = .ok (.isub, 1) := by decide +kernel
theorem dX2_leftOver_121 : decode cX2_leftOver 121 = .ok (.iload 5, 2) := by decide +kernel
theorem dX2_leftOver_123 : decode cX2_leftOver 123 = .ok (.isub, 1) := by decide +kernel
theorem dX2_leftOver_124 : decode cX2_leftOver 124 = .ok (.invokevirtual 229, 3) := by decide +kernel
theorem dX2_leftOver_127 : decode cX2_leftOver 127 = .ok (.areturn, 1) := by decide +kernel
set_option maxRecDepth 20000 in
theorem ggX2_divide_J13_compareUnsigned_74951 : GoodIn wsX2_divide wsJ13_compareUnsigned_74951 := goodIn_r _ [5, 6, 7, 8, 4, 9] (by decide +kernel) (by decide +kernel)
set_option maxRecDepth 20000 in
theorem gX2_divide_J13_compareUnsigned_74951 : GoodIn wsX2_divide (va_wsS RX2 172 yJ13_compareUnsigned_74951 wsJ13_compareUnsigned_74951) := goodIn_app (goodIn_of _ (by decide +kernel)) ggX2_divide_J13_compareUnsigned_74951
theorem dX2_divide_0 : decode cX2_divide 0 = .ok (.lload_n 1, 1) := by decide +kernel
theorem dX2_divide_1 : decode cX2_divide 1 = .ok (.lstore 6, 2) := by decide +kernel
theorem dX2_divide_3 : decode cX2_divide 3 = .ok (.iconst 0, 1) := by decide +kernel
theorem dX2_divide_4 : decode cX2_divide 4 = .ok (.istore 8, 2) := by decide +kernel
theorem dX2_divide_6 : decode cX2_divide 6 = .ok (.lload 6, 2) := by decide +kernel
theorem dX2_divide_8 : decode cX2_divide 8 = .ok (.lload_n 3, 1) := by decide +kernel
theorem dX2_divide_9 : decode cX2_divide 9 = .ok (.invokestatic 172, 3) := by decide +kernel
theorem dX2_divide_12 : decode cX2_divide 12 = .ok (.ifCond .lt 12, 3) := by decide +kernel
theorem dX2_divide_15 : decode cX2_divide 15 = .ok (.lload 6, 2) := by decide +kernel
theorem dX2_divide_17 : decode cX2_divide 17 = .ok (.lload_n 3, 1) := by decide +kernel
theorem dX2_divide_18 : decode cX2_divide 18 = .ok (.lsub, 1) := by decide +kernel
theorem dX2_divide_19 : decode cX2_divide 19 = .ok (.lstore 6, 2) := by decide +kernel
theorem dX2_divide_21 : decode cX2_divide 21 = .ok (.iconst 1, 1) := by decide +kernel
theorem dX2_divide_22 : decode cX2_divide 22 = .ok (.istore 8, 2) := by decide +kernel
theorem dX2_divide_24 : decode cX2_divide 24 = .ok (.iconst 0, 1) := by decide +kernel
theorem dX2_divide_25 : decode cX2_divide 25 = .ok (.istore 9, 2) := by decide +kernel
theorem dX2_divide_27 : decode cX2_divide 27 = .ok (.iload 9, 2) := by decide +kernel
theorem dX2_divide_29 : decode cX2_divide 29 = .ok (.iload 5, 2) := by decide +kernel
theorem dX2_divide_31 : decode cX2_divide 31 = .ok (.if_icmp .ge 64, 3) := by decide +kernel
theorem dX2_divide_34 : decode cX2_divide 34 = .ok (.lload 6, 2) := by decide +kernel
theorem dX2_divide_36 : decode cX2_divide 36 = .ok (.lconst 0, 1) := by decide +kernel
theorem dX2_divide_37 : decode cX2_divide 37 = .ok (.lcmp, 1) := by decide +kernel
theorem dX2_divide_38 : decode cX2_divide 38 = .ok (.ifCond .ge 7, 3) := by decide +kernel
theorem dX2_divide_41 : decode cX2_divide 41 = .ok (.iconst 1, 1) := by decide +kernel
theorem dX2_divide_42 : decode cX2_divide 42 = .ok (.goto 4, 3) := by decide +kernel
theorem dX2_divide_45 : decode cX2_divide 45 = .ok (.iconst 0, 1) := by decide +kernel
theorem dX2_divide_46 : decode cX2_divide 46 = .ok (.istore 10, 2) := by decide +kernel
theorem dX2_divide_48 : decode cX2_divide 48 = .ok (.lload 6, 2) := by decide +kernel
theorem dX2_divide_50 : decode cX2_divide 50 = .ok (.iconst 1, 1) := by decide +kernel
theorem dX2_divide_51 : decode cX2_divide 51 = .ok (.lshl, 1) := by decide +kernel
theorem dX2_divide_52 : decode cX2_divide 52 = .ok (.lstore 6, 2) := by decide +kernel
theorem dX2_divide_54 : decode cX2_divide 54 = .ok (.iload 8, 2) := by decide +kernel
theorem dX2_divide_56 : decode cX2_divide 56 = .ok (.iconst 1, 1) := by decide +kernel
theorem dX2_divide_57 : decode cX2_divide 57 = .ok (.ishl, 1) := by decide +kernel
theorem dX2_divide_58 : decode cX2_divide 58 = .ok (.bipush 7, 2) := by decide +kernel
theorem dX2_divide_60 : decode cX2_divide 60 = .ok (.iand, 1) := by decide +kernel
theorem dX2_divide_61 : decode cX2_divide 61 = .ok (.istore 8, 2) := by decide +kernel
theorem dX2_divide_63 : decode cX2_divide 63 = .ok (.iload 10, 2) := by decide +kernel
theorem dX2_divide_65 : decode cX2_divide 65 = .ok (.ifCond .ne 12, 3) := by decide +kernel
theorem dX2_divide_68 : decode cX2_divide 68 = .ok (.lload 6, 2) := by decide +kernel
theorem dX2_divide_70 : decode cX2_divide 70 = .ok (.lload_n 3, 1) := by decide +kernel
theorem dX2_divide_71 : decode cX2_divide 71 = .ok (.invokestatic 172, 3) := by decide +kernel
theorem dX2_divide_74 : decode cX2_divide 74 = .ok (.ifCond .lt 15, 3) := by decide +kernel
theorem dX2_divide_77 : decode cX2_divide 77 = .ok (.lload 6, 2) := by decide +kernel
theorem dX2_divide_79 : decode cX2_divide 79 = .ok (.lload_n 3, 1) := by decide +kernel
theorem dX2_divide_80 : decode cX2_divide 80 = .ok (.lsub, 1) := by decide +kernel
theorem dX2_divide_81 : decode cX2_divide 81 = .ok (.lstore 6, 2) := by decide +kernel
theorem dX2_divide_83 : decode cX2_divide 83 = .ok (.iload 8, 2) := by decide +kernel
theorem dX2_divide_85 : decode cX2_divide 85 = .ok (.iconst 1, 1) := by decide +kernel
theorem dX2_divide_86 : decode cX2_divide 86 = .ok (.ior, 1) := by decide +kernel
theorem dX2_divide_87 : decode cX2_divide 87 = .ok (.istore 8, 2) := by decide +kernel
theorem dX2_divide_89 : decode cX2_divide 89 = .ok (.iinc 9 1, 3) := by decide +kernel
theorem dX2_divide_92 : decode cX2_divide 92 = .ok (.goto (-65), 3) := by decide +kernel
theorem dX2_divide_95 : decode cX2_divide 95 = .ok (.aload_n 0, 1) := by decide +kernel
theorem dX2_divide_96 : decode cX2_divide 96 = .ok (.iload 8, 2) := by decide +kernel
theorem dX2_divide_98 : decode cX2_divide 98 = .ok (.putfield 28, 3) := by decide +kernel
theorem dX2_divide_101 : decode cX2_divide 101 = .ok (.lload 6, 2) := by decide +kernel
theorem dX2_divide_103 : decode cX2_divide 103 = .ok (.lreturn, 1) := by decide +kernel
set_option maxRecDepth 20000 in
theorem ggX2_order_X1_isOf : GoodIn wsX2_order wsX1_isOf := goodIn_r _ [7, 8, 9, 10, 5, 11, 12, 13, 14, 15, 16, 17, 18, 19, 20, 21, 22, 23, 92, 93] (by decide +kernel) (by decide +kernel)
set_option maxRecDepth 20000 in
theorem gX2_order_X1_isOf_n112 : GoodIn wsX2_order (wsX1_isOf) := ggX2_order_X1_isOf
set_option maxRecDepth 20000 in
theorem ggX2_order_X2_goesOn : GoodIn wsX2_order wsX2_goesOn := goodIn_r _ [28, 29, 3, 30, 31, 4, 5, 6, 7, 8, 9, 10, 11, 12, 13, 14, 15, 16, 17, 18, 19, 20, 21, 22, 23, 32, 33, 34, 27, 35, 36, 37, 38, 39, 1, 85, 86, 87, 88, 89, 90, 91, 92, 93] (by decide +kernel) (by decide +kernel)
set_option maxRecDepth 20000 in
theorem gX2_order_X2_goesOn : GoodIn wsX2_order (wsV RX2 75 RX2 yX2_goesOn wsX2_goesOn) := goodIn_app (goodIn_of _ (by decide +kernel)) ggX2_order_X2_goesOn
set_option maxRecDepth 20000 in
theorem ggX2_order_X1_side : GoodIn wsX2_order wsX1_side := goodIn_r _ [42, 43, 44, 45, 5, 46, 12, 19, 20, 21, 22, 23, 47, 48, 49, 50, 51, 92, 93] (by decide +kernel) (by decide +kernel)
set_option maxRecDepth 20000 in
theorem gX2_order_X1_side_n251 : GoodIn wsX2_order (wsX1_side) := ggX2_order_X1_side
set_option maxRecDepth 20000 in
theorem ggX2_order_X2_orderOfSizes : GoodIn wsX2_order wsX2_orderOfSizes := goodIn_r _ [54, 2, 4, 5, 6, 7, 8, 9, 10, 11, 12, 13, 14, 15, 16, 17, 18, 19, 20, 21, 22, 23, 55, 56, 57, 58, 59, 60, 61, 62, 63, 64, 65, 66, 67, 68, 69, 70, 71, 72, 73, 74, 75, 76, 77, 78, 79, 80, 81, 82, 83, 84, 92, 93] (by decide +kernel) (by decide +kernel)
set_option maxRecDepth 20000 in
theorem gX2_order_X2_orderOfSizes : GoodIn wsX2_order (va_wsS RX2 254 yX2_orderOfSizes wsX2_orderOfSizes) := goodIn_app (goodIn_of _ (by decide +kernel)) ggX2_order_X2_orderOfSizes
theorem dX2_order_0 : decode cX2_order 0 = .ok (.aload_n 0, 1) := by decide +kernel
theorem dX2_order_1 : decode cX2_order 1 = .ok (.getfield 17, 3) := by decide +kernel
theorem dX2_order_4 : decode cX2_order 4 = .ok (.sipush 4096, 3) := by decide +kernel
theorem dX2_order_7 : decode cX2_order 7 = .ok (.iand, 1) := by decide +kernel
theorem dX2_order_8 : decode cX2_order 8 = .ok (.ifCond .ne 7, 3) := by decide +kernel
theorem dX2_order_11 : decode cX2_order 11 = .ok (.iconst 1, 1) := by decide +kernel
theorem dX2_order_12 : decode cX2_order 12 = .ok (.goto 4, 3) := by decide +kernel
theorem dX2_order_15 : decode cX2_order 15 = .ok (.iconst 0, 1) := by decide +kernel
theorem dX2_order_16 : decode cX2_order 16 = .ok (.istore_n 3, 1) := by decide +kernel
theorem dX2_order_17 : decode cX2_order 17 = .ok (.aload_n 1, 1) := by decide +kernel
theorem dX2_order_18 : decode cX2_order 18 = .ok (.getstatic 106, 3) := by decide +kernel
theorem dX2_order_21 : decode cX2_order 21 = .ok (.invokevirtual 112, 3) := by decide +kernel
theorem dX2_order_24 : decode cX2_order 24 = .ok (.istore 4, 2) := by decide +kernel
theorem dX2_order_26 : decode cX2_order 26 = .ok (.iload_n 3, 1) := by decide +kernel
theorem dX2_order_27 : decode cX2_order 27 = .ok (.ifCond .eq 19, 3) := by decide +kernel
theorem dX2_order_30 : decode cX2_order 30 = .ok (.iload 4, 2) := by decide +kernel
theorem dX2_order_32 : decode cX2_order 32 = .ok (.aload_n 2, 1) := by decide +kernel
theorem dX2_order_33 : decode cX2_order 33 = .ok (.getstatic 106, 3) := by decide +kernel
theorem dX2_order_36 : decode cX2_order 36 = .ok (.invokevirtual 112, 3) := by decide +kernel
theorem dX2_order_39 : decode cX2_order 39 = .ok (.if_icmp .eq 7, 3) := by decide +kernel
theorem dX2_order_42 : decode cX2_order 42 = .ok (.iconst 1, 1) := by decide +kernel
theorem dX2_order_43 : decode cX2_order 43 = .ok (.goto 4, 3) := by decide +kernel
theorem dX2_order_46 : decode cX2_order 46 = .ok (.iconst 0, 1) := by decide +kernel
theorem dX2_order_47 : decode cX2_order 47 = .ok (.istore 5, 2) := by decide +kernel
theorem dX2_order_49 : decode cX2_order 49 = .ok (.aload_n 0, 1) := by decide +kernel
theorem dX2_order_50 : decode cX2_order 50 = .ok (.aload_n 1, 1) := by decide +kernel
theorem dX2_order_51 : decode cX2_order 51 = .ok (.aload_n 2, 1) := by decide +kernel
theorem dX2_order_52 : decode cX2_order 52 = .ok (.iload 5, 2) := by decide +kernel
theorem dX2_order_54 : decode cX2_order 54 = .ok (.iconst 0, 1) := by decide +kernel
theorem dX2_order_55 : decode cX2_order 55 = .ok (.invokevirtual 75, 3) := by decide +kernel
theorem dX2_order_58 : decode cX2_order 58 = .ok (.ifCond .ne 16, 3) := by decide +kernel
theorem dX2_order_61 : decode cX2_order 61 = .ok (.aload_n 0, 1) := by decide +kernel
theorem dX2_order_62 : decode cX2_order 62 = .ok (.getfield 24, 3) := by decide +kernel
theorem dX2_order_65 : decode cX2_order 65 = .ok (.ifCond .eq 7, 3) := by decide +kernel
theorem dX2_order_68 : decode cX2_order 68 = .ok (.iconst 2, 1) := by decide +kernel
theorem dX2_order_69 : decode cX2_order 69 = .ok (.goto 4, 3) := by decide +kernel
theorem dX2_order_72 : decode cX2_order 72 = .ok (.iconst 3, 1) := by decide +kernel
theorem dX2_order_73 : decode cX2_order 73 = .ok (.ireturn, 1) := by decide +kernel
theorem dX2_order_74 : decode cX2_order 74 = .ok (.iload_n 3, 1) := by decide +kernel
theorem dX2_order_75 : decode cX2_order 75 = .ok (.ifCond .eq 10, 3) := by decide +kernel
theorem dX2_order_78 : decode cX2_order 78 = .ok (.iload 4, 2) := by decide +kernel
theorem dX2_order_80 : decode cX2_order 80 = .ok (.ifCond .eq 5, 3) := by decide +kernel
theorem dX2_order_83 : decode cX2_order 83 = .ok (.iconst 0, 1) := by decide +kernel
theorem dX2_order_84 : decode cX2_order 84 = .ok (.ireturn, 1) := by decide +kernel
theorem dX2_order_85 : decode cX2_order 85 = .ok (.aload_n 1, 1) := by decide +kernel
theorem dX2_order_86 : decode cX2_order 86 = .ok (.invokevirtual 251, 3) := by decide +kernel
theorem dX2_order_89 : decode cX2_order 89 = .ok (.istore 6, 2) := by decide +kernel
theorem dX2_order_91 : decode cX2_order 91 = .ok (.iload 6, 2) := by decide +kernel
theorem dX2_order_93 : decode cX2_order 93 = .ok (.aload_n 2, 1) := by decide +kernel
theorem dX2_order_94 : decode cX2_order 94 = .ok (.invokevirtual 251, 3) := by decide +kernel
theorem dX2_order_97 : decode cX2_order 97 = .ok (.if_icmp .eq 18, 3) := by decide +kernel
theorem dX2_order_100 : decode cX2_order 100 = .ok (.iload 6, 2) := by decide +kernel
theorem dX2_order_102 : decode cX2_order 102 = .ok (.aload_n 2, 1) := by decide +kernel
theorem dX2_order_103 : decode cX2_order 103 = .ok (.invokevirtual 251, 3) := by decide +kernel
theorem dX2_order_106 : decode cX2_order 106 = .ok (.if_icmp .ge 7, 3) := by decide +kernel
theorem dX2_order_109 : decode cX2_order 109 = .ok (.iconst (-1), 1) := by decide +kernel
theorem dX2_order_110 : decode cX2_order 110 = .ok (.goto 4, 3) := by decide +kernel
theorem dX2_order_113 : decode cX2_order 113 = .ok (.iconst 1, 1) := by decide +kernel
theorem dX2_order_114 : decode cX2_order 114 = .ok (.ireturn, 1) := by decide +kernel
theorem dX2_order_115 : decode cX2_order 115 = .ok (.iload 6, 2) := by decide +kernel
theorem dX2_order_117 : decode cX2_order 117 = .ok (.aload_n 1, 1) := by decide +kernel
theorem dX2_order_118 : decode cX2_order 118 = .ok (.aload_n 2, 1) := by decide +kernel
theorem dX2_order_119 : decode cX2_order 119 = .ok (.invokestatic 254, 3) := by decide +kernel
theorem dX2_order_122 : decode cX2_order 122 = .ok (.imul, 1) := by decide +kernel
theorem dX2_order_123 : decode cX2_order 123 = .ok (.ireturn, 1) := by decide +kernel
set_option maxRecDepth 20000 in
theorem ggX2_orderOfSizes_X1_isOf : GoodIn wsX2_orderOfSizes wsX1_isOf := goodIn_r _ [5, 6, 7, 8, 3, 9, 10, 11, 12, 13, 14, 15, 16, 17, 18, 19, 20, 21, 52, 53] (by decide +kernel) (by decide +kernel)
set_option maxRecDepth 20000 in
theorem gX2_orderOfSizes_X1_isOf_n112 : GoodIn wsX2_orderOfSizes (wsX1_isOf) := ggX2_orderOfSizes_X1_isOf
set_option maxRecDepth 20000 in
theorem ggX2_orderOfSizes_X1_exponent : GoodIn wsX2_orderOfSizes wsX1_exponent := goodIn_r _ [24, 10, 25, 26, 27, 3, 28, 29, 30, 31, 32, 17, 18, 19, 20, 21, 33, 34, 35, 36, 37, 38, 39, 40, 41, 52, 53] (by decide +kernel) (by decide +kernel)
set_option maxRecDepth 20000 in
theorem gX2_orderOfSizes_X1_exponent_n223 : GoodIn wsX2_orderOfSizes (wsX1_exponent) := ggX2_orderOfSizes_X1_exponent
set_option maxRecDepth 20000 in
theorem ggX2_orderOfSizes_X1_normalised : GoodIn wsX2_orderOfSizes wsX1_normalised := goodIn_r _ [44, 10, 33, 34, 35, 36, 37, 38, 39, 40, 41, 52, 53] (by decide +kernel) (by decide +kernel)
set_option maxRecDepth 20000 in
theorem gX2_orderOfSizes_X1_normalised_n233 : GoodIn wsX2_orderOfSizes (wsX1_normalised) := ggX2_orderOfSizes_X1_normalised
set_option maxRecDepth 20000 in
theorem ggX2_orderOfSizes_J13_compareUnsigned_74951 : GoodIn wsX2_orderOfSizes wsJ13_compareUnsigned_74951 := goodIn_r _ [47, 48, 49, 50, 35, 51] (by decide +kernel) (by decide +kernel)
set_option maxRecDepth 20000 in
theorem gX2_orderOfSizes_J13_compareUnsigned_74951 : GoodIn wsX2_orderOfSizes (va_wsS RX2 172 yJ13_compareUnsigned_74951 wsJ13_compareUnsigned_74951) := goodIn_app (goodIn_of _ (by decide +kernel)) ggX2_orderOfSizes_J13_compareUnsigned_74951
theorem dX2_orderOfSizes_0 : decode cX2_orderOfSizes 0 = .ok (.aload_n 0, 1) := by decide +kernel
theorem dX2_orderOfSizes_1 : decode cX2_orderOfSizes 1 = .ok (.getstatic 106, 3) := by decide +kernel
theorem dX2_orderOfSizes_4 : decode cX2_orderOfSizes 4 = .ok (.invokevirtual 112, 3) := by decide +kernel
theorem dX2_orderOfSizes_7 : decode cX2_orderOfSizes 7 = .ok (.istore_n 2, 1) := by decide +kernel
theorem dX2_orderOfSizes_8 : decode cX2_orderOfSizes 8 = .ok (.iload_n 2, 1) := by decide +kernel
theorem dX2_orderOfSizes_9 : decode cX2_orderOfSizes 9 = .ok (.aload_n 1, 1) := by decide +kernel
theorem dX2_orderOfSizes_10 : decode cX2_orderOfSizes 10 = .ok (.getstatic 106, 3) := by decide +kernel
theorem dX2_orderOfSizes_13 : decode cX2_orderOfSizes 13 = .ok (.invokevirtual 112, 3) := by decide +kernel
theorem dX2_orderOfSizes_16 : decode cX2_orderOfSizes 16 = .ok (.if_icmp .eq 13, 3) := by decide +kernel
theorem dX2_orderOfSizes_19 : decode cX2_orderOfSizes 19 = .ok (.iload_n 2, 1) := by decide +kernel
theorem dX2_orderOfSizes_20 : decode cX2_orderOfSizes 20 = .ok (.ifCond .eq 7, 3) := by decide +kernel
theorem dX2_orderOfSizes_23 : decode cX2_orderOfSizes 23 = .ok (.iconst 1, 1) := by decide +kernel
theorem dX2_orderOfSizes_24 : decode cX2_orderOfSizes 24 = .ok (.goto 4, 3) := by decide +kernel
theorem dX2_orderOfSizes_27 : decode cX2_orderOfSizes 27 = .ok (.iconst (-1), 1) := by decide +kernel
theorem dX2_orderOfSizes_28 : decode cX2_orderOfSizes 28 = .ok (.ireturn, 1) := by decide +kernel
theorem dX2_orderOfSizes_29 : decode cX2_orderOfSizes 29 = .ok (.iload_n 2, 1) := by decide +kernel
theorem dX2_orderOfSizes_30 : decode cX2_orderOfSizes 30 = .ok (.ifCond .eq 5, 3) := by decide +kernel
theorem dX2_orderOfSizes_33 : decode cX2_orderOfSizes 33 = .ok (.iconst 0, 1) := by decide +kernel
theorem dX2_orderOfSizes_34 : decode cX2_orderOfSizes 34 = .ok (.ireturn, 1) := by decide +kernel
theorem dX2_orderOfSizes_35 : decode cX2_orderOfSizes 35 = .ok (.aload_n 0, 1) := by decide +kernel
theorem dX2_orderOfSizes_36 : decode cX2_orderOfSizes 36 = .ok (.invokevirtual 223, 3) := by decide +kernel
theorem dX2_orderOfSizes_39 : decode cX2_orderOfSizes 39 = .ok (.aload_n 1, 1) := by decide +kernel
theorem dX2_orderOfSizes_40 : decode cX2_orderOfSizes 40 = .ok (.invokevirtual 223, 3) := by decide +kernel
theorem dX2_orderOfSizes_43 : decode cX2_orderOfSizes 43 = .ok (.if_icmp .eq 20, 3) := by decide +kernel
theorem dX2_orderOfSizes_46 : decode cX2_orderOfSizes 46 = .ok (.aload_n 0, 1) := by decide +kernel
theorem dX2_orderOfSizes_47 : decode cX2_orderOfSizes 47 = .ok (.invokevirtual 223, 3) := by decide +kernel
theorem dX2_orderOfSizes_50 : decode cX2_orderOfSizes 50 = .ok (.aload_n 1, 1) := by decide +kernel
theorem dX2_orderOfSizes_51 : decode cX2_orderOfSizes 51 = .ok (.invokevirtual 223, 3) := by decide +kernel
theorem dX2_orderOfSizes_54 : decode cX2_orderOfSizes 54 = .ok (.if_icmp .ge 7, 3) := by decide +kernel
theorem dX2_orderOfSizes_57 : decode cX2_orderOfSizes 57 = .ok (.iconst (-1), 1) := by decide +kernel
theorem dX2_orderOfSizes_58 : decode cX2_orderOfSizes 58 = .ok (.goto 4, 3) := by decide +kernel
theorem dX2_orderOfSizes_61 : decode cX2_orderOfSizes 61 = .ok (.iconst 1, 1) := by decide +kernel
theorem dX2_orderOfSizes_62 : decode cX2_orderOfSizes 62 = .ok (.ireturn, 1) := by decide +kernel
theorem dX2_orderOfSizes_63 : decode cX2_orderOfSizes 63 = .ok (.aload_n 0, 1) := by decide +kernel
theorem dX2_orderOfSizes_64 : decode cX2_orderOfSizes 64 = .ok (.invokevirtual 233, 3) := by decide +kernel
theorem dX2_orderOfSizes_67 : decode cX2_orderOfSizes 67 = .ok (.aload_n 1, 1) := by decide +kernel
theorem dX2_orderOfSizes_68 : decode cX2_orderOfSizes 68 = .ok (.invokevirtual 233, 3) := by decide +kernel
theorem dX2_orderOfSizes_71 : decode cX2_orderOfSizes 71 = .ok (.lcmp, 1) := by decide +kernel
theorem dX2_orderOfSizes_72 : decode cX2_orderOfSizes 72 = .ok (.ifCond .ne 5, 3) := by decide +kernel
theorem dX2_orderOfSizes_75 : decode cX2_orderOfSizes 75 = .ok (.iconst 0, 1) := by decide +kernel
theorem dX2_orderOfSizes_76 : decode cX2_orderOfSizes 76 = .ok (.ireturn, 1) := by decide +kernel
theorem dX2_orderOfSizes_77 : decode cX2_orderOfSizes 77 = .ok (.aload_n 0, 1) := by decide +kernel
theorem dX2_orderOfSizes_78 : decode cX2_orderOfSizes 78 = .ok (.invokevirtual 233, 3) := by decide +kernel
theorem dX2_orderOfSizes_81 : decode cX2_orderOfSizes 81 = .ok (.aload_n 1, 1) := by decide +kernel
theorem dX2_orderOfSizes_82 : decode cX2_orderOfSizes 82 = .ok (.invokevirtual 233, 3) := by decide +kernel
theorem dX2_orderOfSizes_85 : decode cX2_orderOfSizes 85 = .ok (.invokestatic 172, 3) := by decide +kernel
theorem dX2_orderOfSizes_88 : decode cX2_orderOfSizes 88 = .ok (.ifCond .ge 7, 3) := by decide +kernel
theorem dX2_orderOfSizes_91 : decode cX2_orderOfSizes 91 = .ok (.iconst (-1), 1) := by decide +kernel
theorem dX2_orderOfSizes_92 : decode cX2_orderOfSizes 92 = .ok (.goto 4, 3) := by decide +kernel
theorem dX2_orderOfSizes_95 : decode cX2_orderOfSizes 95 = .ok (.iconst 1, 1) := by decide +kernel
theorem dX2_orderOfSizes_96 : decode cX2_orderOfSizes 96 = .ok (.ireturn, 1) := by decide +kernel
end
section
/-! words of mine: booleans, worlds, the environment that stays, the calls -/
def bI (b : Bool) : Int32 := if b = true then 1 else 0
theorem bI_nar (b : Bool) : narrow .boolean (.int (bI b)) = .int (bI b) := by cases b <;> rfl
theorem bI_fit (b : Bool) : fits .boolean (.int (bI b)) = true := by cases b <;> rfl
theorem bI_0 {b : Bool} : bI b = 0 ↔ b = false := by cases b <;> decide
theorem bI_1 {b : Bool} : bI b = 1 ↔ b = true := by cases b <;> decide
theorem z_nar0 : narrow .boolean (.int 0) = .int 0 := rfl
theorem z_nar1 : narrow .boolean (.int 1) = .int 1 := rfl
section QL
variable {p : Program} {l : Launch} {e : Env} {R : Room} {s : State} {m : MethodId} {args : Array Value} {below : List Frame} {meth : Method} {c : Code} {H : Heap} {locs : List Loc} {cells slots : Nat} {Q : State → Prop}
variable {cc : ByteArray} {pc : Nat} {ls : Array Slot} {rest : List Value}
theorem q_cl_eq (hexec : p.tables.exec = Jvm.exec) (hb : c.code = cc) {x y : Int64} {off : Int} {tgt : Nat} (d1 : decode cc pc = .ok (.lcmp, 1)) (d2 : decode cc (pc + 1) = .ok (.ifCond .eq off, 3)) (ht : ((pc + 1 : Nat) : Int) + off = (tgt : Int))
    (kt : x = y → W p l e R s m args below meth c H locs cells slots Q (F0 m tgt ls rest)) (kf : ¬ x = y → W p l e R s m args below meth c H locs cells slots Q (F0 m (pc + 1 + 3) ls rest)) : W p l e R s m args below meth c H locs cells slots Q (F0 m pc ls (.long y :: .long x :: rest)) :=
  W.lcmp hexec hb d1 (lv_if_eq hexec hb d2 ht (fun h => kt ((lg_cmp_eq x y).mp h)) (fun h => kf (fun q => h ((lg_cmp_eq x y).mpr q))))
theorem q_cl_ne (hexec : p.tables.exec = Jvm.exec) (hb : c.code = cc) {x y : Int64} {off : Int} {tgt : Nat} (d1 : decode cc pc = .ok (.lcmp, 1)) (d2 : decode cc (pc + 1) = .ok (.ifCond .ne off, 3)) (ht : ((pc + 1 : Nat) : Int) + off = (tgt : Int))
    (kt : ¬ x = y → W p l e R s m args below meth c H locs cells slots Q (F0 m tgt ls rest)) (kf : x = y → W p l e R s m args below meth c H locs cells slots Q (F0 m (pc + 1 + 3) ls rest)) : W p l e R s m args below meth c H locs cells slots Q (F0 m pc ls (.long y :: .long x :: rest)) :=
  W.lcmp hexec hb d1 (lv_if_ne hexec hb d2 ht (fun h => kt (fun q => h ((lg_cmp_eq x y).mpr q))) (fun h => kf ((lg_cmp_eq x y).mp h)))
theorem q_cl_lt (hexec : p.tables.exec = Jvm.exec) (hb : c.code = cc) {x y : Int64} {off : Int} {tgt : Nat} (d1 : decode cc pc = .ok (.lcmp, 1)) (d2 : decode cc (pc + 1) = .ok (.ifCond .lt off, 3)) (ht : ((pc + 1 : Nat) : Int) + off = (tgt : Int))
    (kt : x < y → W p l e R s m args below meth c H locs cells slots Q (F0 m tgt ls rest)) (kf : ¬ x < y → W p l e R s m args below meth c H locs cells slots Q (F0 m (pc + 1 + 3) ls rest)) : W p l e R s m args below meth c H locs cells slots Q (F0 m pc ls (.long y :: .long x :: rest)) :=
  W.lcmp hexec hb d1 (lv_if_lt hexec hb d2 ht (fun h => kt ((lg_cmp_lt x y).mp h)) (fun h => kf (fun q => h ((lg_cmp_lt x y).mpr q))))
theorem q_cl_ge (hexec : p.tables.exec = Jvm.exec) (hb : c.code = cc) {x y : Int64} {off : Int} {tgt : Nat} (d1 : decode cc pc = .ok (.lcmp, 1)) (d2 : decode cc (pc + 1) = .ok (.ifCond .ge off, 3)) (ht : ((pc + 1 : Nat) : Int) + off = (tgt : Int))
    (kt : ¬ x < y → W p l e R s m args below meth c H locs cells slots Q (F0 m tgt ls rest)) (kf : x < y → W p l e R s m args below meth c H locs cells slots Q (F0 m (pc + 1 + 3) ls rest)) : W p l e R s m args below meth c H locs cells slots Q (F0 m pc ls (.long y :: .long x :: rest)) :=
  W.lcmp hexec hb d1 (lv_if_ge hexec hb d2 ht (fun h => kt (Int64.not_lt.mpr ((lg_cmp_ge x y).mp h))) (fun h => kf (Int64.not_le.mp (fun q => h ((lg_cmp_ge x y).mpr q)))))
theorem q_cl_gt (hexec : p.tables.exec = Jvm.exec) (hb : c.code = cc) {x y : Int64} {off : Int} {tgt : Nat} (d1 : decode cc pc = .ok (.lcmp, 1)) (d2 : decode cc (pc + 1) = .ok (.ifCond .gt off, 3)) (ht : ((pc + 1 : Nat) : Int) + off = (tgt : Int))
    (kt : y < x → W p l e R s m args below meth c H locs cells slots Q (F0 m tgt ls rest)) (kf : ¬ y < x → W p l e R s m args below meth c H locs cells slots Q (F0 m (pc + 1 + 3) ls rest)) : W p l e R s m args below meth c H locs cells slots Q (F0 m pc ls (.long y :: .long x :: rest)) :=
  W.lcmp hexec hb d1 (lv_if_gt hexec hb d2 ht (fun h => kt ((lg_cmp_gt x y).mp h)) (fun h => kf (fun q => h ((lg_cmp_gt x y).mpr q))))
theorem q_cl_le (hexec : p.tables.exec = Jvm.exec) (hb : c.code = cc) {x y : Int64} {off : Int} {tgt : Nat} (d1 : decode cc pc = .ok (.lcmp, 1)) (d2 : decode cc (pc + 1) = .ok (.ifCond .le off, 3)) (ht : ((pc + 1 : Nat) : Int) + off = (tgt : Int))
    (kt : ¬ y < x → W p l e R s m args below meth c H locs cells slots Q (F0 m tgt ls rest)) (kf : y < x → W p l e R s m args below meth c H locs cells slots Q (F0 m (pc + 1 + 3) ls rest)) : W p l e R s m args below meth c H locs cells slots Q (F0 m pc ls (.long y :: .long x :: rest)) :=
  W.lcmp hexec hb d1 (lv_if_le hexec hb d2 ht (fun h => kt (Int64.not_lt.mpr ((lg_cmp_le x y).mp h))) (fun h => kf (Int64.not_le.mp (fun q => h ((lg_cmp_le x y).mpr q)))))
end QL
/-! what stays: the kinds, the nest's links, the texts, the two tables, what a throw reads -/
abbrev kNm : List String := ["ZERO", "DENORMAL", "UNNORMAL", "NORMAL", "INFINITE", "NO_NUMBER"]
abbrev kDs : String := "LRealSteps$Kind;"
abbrev kFl : List (String × String × String × List Int32) := [("RealSteps$Kind", "examined", "I", [8, 12, 0, 4, 5, 1])]
abbrev xIOB : String := "java/lang/IndexOutOfBoundsException"
abbrev xIAE : String := "java/lang/IllegalArgumentException"
abbrev xNm : List String := ["java/lang/RuntimeException", "java/lang/Exception"]
def nestW : List Cond := [.methodLinkNest RX2 112 yX1_isOf RX2, .methodLinkNest RX2 130 yX1_kind RX2, .methodLinkNest RX2 137 yX1_isNegative RX2, .methodLinkNest RX2 223 yX1_exponent RX2, .methodLinkNest RX2 226 yX1_unit RX2, .methodLinkNest RX2 233 yX1_normalised RX2, .methodLinkNest RX2 251 yX1_side RX2, .methodLinkNest RX2 52 yX1_init RX2, .methodLinkNest RX2 96 yX1_isNought RX2, .fieldLinkNest RX2 134 "RealSteps$Kind" "examined" "I" RX2, .fieldLinkNest RX2 147 "RealSteps$Real" "top" "I" RX2, .fieldLinkNest RX2 150 "RealSteps$Real" "fraction" "J" RX2]
def castW : List Cond := [.castable xIOB xIOB, .castable xIAE xIAE]
def strW : List (Nat × String) := [(140, "0 to 3 can be asked"), (144, "there is no such register"), (37, "the control has 16 bits"), (46, "sign and power have 16 bits"), (59, "a real has the parts 0 to 2"), (69, "there is no such constant"), (94, "power and fraction go into two registers")]
def kTp : Nat → Value := fun j => .int (([0, 16383, 16384, 16383, 16384, 16381, 16382] : List Int32).getD j 0)
def kFr : Nat → Value := fun j => .long (([0, -9223372036854775808, -3127054724296373506, -5140230975865229124, -3958705157555305931, -7340697496662837351, -5660435428506895956] : List Int64).getD j 0)
def EE (ad : Nat → Nat) (A : Nat → Prop) (U : State) (H : Heap) : Prop :=
  va_En RX0 kDs kNm kFl ad A U H ∧ (∀ w ∈ nestW, va_Nw w U) ∧ (∀ w ∈ castW, va_Nw w U) ∧ (∀ q ∈ strW, ∃ sa, vk_R RX2 q.1 q.2 sa U) ∧
  vx_Zq Bundle.tN "UNASSIGNED_STACK" Bundle.steD A U H ∧ vx_Zq Bundle.tN "SUPPRESSED_SENTINEL" Bundle.listD A U H ∧
  (∃ t, va_Z RX2 "CONSTANT_TOPS" "[I" (.ref t) A U H ∧ va_T .int t 7 kTp A U H) ∧ (∃ t, va_Z RX2 "CONSTANT_FRACTIONS" "[J" (.ref t) A U H ∧ va_T .long t 7 kFr A U H) ∧
  va_Nc xIAE xIOB U ∧ va_Nc xIOB xIAE U
theorem nestW_warm {s U : State} (hW : s.WarmedH U.vm) (h : ∀ w ∈ nestW, va_Nw w s) : ∀ w ∈ nestW, va_Nw w U := by
  simp only [nestW, List.forall_mem_cons] at h ⊢
  obtain ⟨h1, h2, h3, h4, h5, h6, h7, h8, h9, g1, g2, g3, -⟩ := h
  exact ⟨h1.warmM hW, h2.warmM hW, h3.warmM hW, h4.warmM hW, h5.warmM hW, h6.warmM hW, h7.warmM hW, h8.warmM hW, h9.warmM hW, g1.warmF hW, g2.warmF hW, g3.warmF hW, fun _ h => absurd h List.not_mem_nil⟩
theorem castW_warm {s U : State} (hW : s.WarmedH U.vm) (h : ∀ w ∈ castW, va_Nw w s) : ∀ w ∈ castW, va_Nw w U := by
  simp only [castW, List.forall_mem_cons] at h ⊢
  obtain ⟨h1, h2, -⟩ := h
  exact ⟨h1.warmC hW, h2.warmC hW, fun _ h => absurd h List.not_mem_nil⟩
theorem nestW_same {s U : State} (hW : s.vm = U.vm) (h : ∀ w ∈ nestW, va_Nw w s) : ∀ w ∈ nestW, va_Nw w U := by
  simp only [nestW, List.forall_mem_cons] at h ⊢
  obtain ⟨h1, h2, h3, h4, h5, h6, h7, h8, h9, g1, g2, g3, -⟩ := h
  exact ⟨h1.same rfl hW, h2.same rfl hW, h3.same rfl hW, h4.same rfl hW, h5.same rfl hW, h6.same rfl hW, h7.same rfl hW, h8.same rfl hW, h9.same rfl hW, g1.same rfl hW, g2.same rfl hW, g3.same rfl hW, fun _ h => absurd h List.not_mem_nil⟩
theorem castW_same {s U : State} (hW : s.vm = U.vm) (h : ∀ w ∈ castW, va_Nw w s) : ∀ w ∈ castW, va_Nw w U := by
  simp only [castW, List.forall_mem_cons] at h ⊢
  obtain ⟨h1, h2, -⟩ := h
  exact ⟨h1.same rfl hW, h2.same rfl hW, fun _ h => absurd h List.not_mem_nil⟩
theorem EE.go {ad : Nat → Nat} {A B : Nat → Prop} {s U : State} {H : Heap} {locs : List Loc} (h : EE ad A s s.heap) (hS : va_S A s.heap H locs) (hB : ∀ q, B q → A q) (hU : U.heap = H) (hW : s.WarmedH U.vm) : EE ad B U U.heap := by
  obtain ⟨h1, h2, h3, h4, h5, h6, ⟨t1, h7, h8⟩, ⟨t2, h9, h10⟩, h11, h12⟩ := h
  rw [hU]
  have k := hS.2.1
  exact ⟨((h1.kept k).narrow hB).moved hW.alike, nestW_warm hW h2, castW_warm hW h3, fun q hq => (h4 q hq).elim fun sa z => ⟨sa, z.warm hW⟩,
    ((h5.kept k).narrow hB).moved hW.alike, ((h6.kept k).narrow hB).moved hW.alike, ⟨t1, ((h7.kept k).narrow hB).moved hW.alike, ((h8.kept k).narrow hB).moved hW.alike⟩, ⟨t2, ((h9.kept k).narrow hB).moved hW.alike, ((h10.kept k).narrow hB).moved hW.alike⟩, h11.moved hW.alike, h12.moved hW.alike⟩
theorem EE.blind {ad : Nat → Nat} {A : Nat → Prop} {a : Array Value} {U : State} {g : JFrame} {mk : MethodId} (h : EE ad A U U.heap) : EE ad A (U.calling g mk a) (U.calling g mk a).heap := by
  obtain ⟨h1, h2, h3, h4, h5, h6, ⟨t1, h7, h8⟩, ⟨t2, h9, h10⟩, h11, h12⟩ := h
  have k : U.vm.Alike (U.calling g mk a).vm := Vm.Alike.refl U.vm
  exact ⟨h1.moved k, nestW_same (show U.vm = (U.calling g mk a).vm from rfl) h2, castW_same (show U.vm = (U.calling g mk a).vm from rfl) h3, fun q hq => (h4 q hq).elim fun sa z => ⟨sa, z.same rfl⟩, h5.moved k, h6.moved k, ⟨t1, h7.moved k, h8.moved k⟩, ⟨t2, h9.moved k, h10.moved k⟩, h11.moved k, h12.moved k⟩
/-! worlds that are only read -/
def PB (D : va_G) (tys : List (ClassId × FieldType)) (w : va_W) : State → Prop := fun U => va_P D vwCl w U.heap ∧ va_K D vwCl tys U
theorem PB.blind {D : va_G} {tys : List (ClassId × FieldType)} {w : va_W} {av : List Value} : FrameBlind (va_Pc av (PB D tys w)) := fun a U g mk q => ⟨q.1, q.2.1, va_K.moved (u := U) (U := U.calling g mk a) (Vm.Alike.refl U.vm) q.2.2⟩
theorem PB.pre {D : va_G} {tys : List (ClassId × FieldType)} {w : va_W} {av : List Value} {s : State} {H : Heap} (hK : va_K D vwCl tys s) (hP : va_P D vwCl w H) : ∀ U : State, U.heap = H → s.WarmedH U.vm → va_Pc av (PB D tys w) av.toArray U := fun U hU hW => ⟨rfl, by rw [hU]; exact hP, va_K.moved hW.alike hK⟩
def EB (D : va_G) (tys : List (ClassId × FieldType)) (ad : Nat → Nat) (w : va_W) : State → Prop := fun U => va_P D vwCl w U.heap ∧ va_K D vwCl tys U ∧ EE ad (fun _ => False) U U.heap
theorem EB.blind {D : va_G} {tys : List (ClassId × FieldType)} {ad : Nat → Nat} {w : va_W} {av : List Value} : FrameBlind (va_Pc av (EB D tys ad w)) := fun a U g mk q => ⟨q.1, q.2.1, va_K.moved (u := U) (U := U.calling g mk a) (Vm.Alike.refl U.vm) q.2.2.1, q.2.2.2.blind⟩
theorem EB.pre {D : va_G} {tys : List (ClassId × FieldType)} {ad : Nat → Nat} {w : va_W} {av : List Value} {s : State} {H : Heap} {A : Nat → Prop} {locs : List Loc} (hK : va_K D vwCl tys s) (hP : va_P D vwCl w H) (hE : EE ad A s s.heap) (hS : va_S A s.heap H locs) : ∀ U : State, U.heap = H → s.WarmedH U.vm → va_Pc av (EB D tys ad w) av.toArray U := fun U hU hW => ⟨rfl, by rw [hU]; exact hP, va_K.moved hW.alike hK, hE.go hS (fun _ h => h.elim) hU hW⟩
theorem TB.blind {av : List Value} : FrameBlind (va_Pc av (fun _ => True)) := fun _ _ _ _ q => q
theorem TB.pre {av : List Value} {s : State} {H : Heap} : ∀ U : State, U.heap = H → s.WarmedH U.vm → va_Pc av (fun _ => True) av.toArray U := fun _ _ _ => ⟨rfl, trivial⟩
abbrev cReal (a : Nat) (t : Int32) (f : Int64) : Nat × va_E := (a, .inr (0, [.int t, .long f]))
/-! the system's own world: the object, its tops, its fractions -/
abbrev cRS (h q1 q2 : Nat) (cA cB : ClassId) (tf : Nat → Int32) (ff : Nat → Int64) (cw td : Int32) (an : Bool) (qb : Int32) (pa : Bool) : va_W := [(h, .inr (1, [.ref q1, .ref q2, .int cw, .int td, .int (bI an), .int qb, .int (bI pa)])), (q1, .inl (cA, 8, .inl tf)), (q2, .inl (cB, 8, .inr (.inl ff)))]
abbrev tRS (cA cB : ClassId) : List (ClassId × FieldType) := [(cA, .int), (cB, .long)]
abbrev cMd (h q1 q2 : Nat) (cA cB : ClassId) (cd ct : Int32) (tf : Nat → Int32) (ff : Nat → Int64) (td : Int32) (an : Bool) (qb : Int32) (pa : Bool) (aT : Int32) (aF dg : Int64) (fi : Int32) (lo : Bool) : va_W := [(h, .inr (2, [.int cd, .int ct, .ref q1, .ref q2, .int td, .int (bI an), .int qb, .int (bI pa), .int aT, .long aF, .long dg, .int fi, .int (bI lo)])), (q1, .inl (cA, 8, .inl tf)), (q2, .inl (cB, 8, .inr (.inl ff)))]
def ap3 (a h q1 q2 : Nat) : Prop := a ≠ h ∧ a ≠ q1 ∧ a ≠ q2
/-- a method that may change the world w (at h, q1, q2), and reads the reals rs -/
def MRB (D : va_G) (ad : Nat → Nat) (h q1 q2 : Nat) (tys : List (ClassId × FieldType)) (w rs : va_W) (sz : Nat) : State → Prop := fun U => U.heap.size = sz ∧ va_P D vwCl w U.heap ∧ va_K D vwCl tys U ∧ va_D (fun _ => True) w ∧ va_P D vwCl rs U.heap ∧ (∀ q ∈ rs, ap3 q.1 h q1 q2) ∧ EE ad (va_A w sz) U U.heap
theorem MRB.blind {D : va_G} {ad : Nat → Nat} {h q1 q2 sz : Nat} {tys : List (ClassId × FieldType)} {w rs : va_W} {av : List Value} : FrameBlind (va_Pc av (MRB D ad h q1 q2 tys w rs sz)) := fun a U g mk q => ⟨q.1, q.2.1, q.2.2.1, va_K.moved (u := U) (U := U.calling g mk a) (Vm.Alike.refl U.vm) q.2.2.2.1, q.2.2.2.2.1, q.2.2.2.2.2.1, q.2.2.2.2.2.2.1, q.2.2.2.2.2.2.2.blind⟩
theorem MRB.pre {D : va_G} {ad : Nat → Nat} {h q1 q2 : Nat} {tys : List (ClassId × FieldType)} {w rs : va_W} {av : List Value} {s : State} {H : Heap} {A : Nat → Prop} {locs : List Loc} (hK : va_K D vwCl tys s) (hP : va_P D vwCl w H) (hD : va_D A w) (hR : va_P D vwCl rs H) (hap : ∀ q ∈ rs, ap3 q.1 h q1 q2) (hE : EE ad A s s.heap) (hS : va_S A s.heap H locs) (hF : ∀ q, va_A w H.size q → A q) : ∀ U : State, U.heap = H → s.WarmedH U.vm → va_Pc av (MRB D ad h q1 q2 tys w rs H.size) av.toArray U := fun U hU hW => ⟨rfl, by rw [hU], by rw [hU]; exact hP, va_K.moved hW.alike hK, hD.weaken (fun _ _ _ _ => trivial), by rw [hU]; exact hR, hap, hE.go hS hF hU hW⟩
/-- a method that makes reals, and reads the reals rs -/
def SCB (D : va_G) (ad : Nat → Nat) (rs : va_W) (sz : Nat) : State → Prop := fun U => U.heap.size = sz ∧ va_K D vwCl [] U ∧ va_P D vwCl rs U.heap ∧ EE ad (va_A [] sz) U U.heap
theorem SCB.blind {D : va_G} {ad : Nat → Nat} {sz : Nat} {rs : va_W} {av : List Value} : FrameBlind (va_Pc av (SCB D ad rs sz)) := fun a U g mk q => ⟨q.1, q.2.1, va_K.moved (u := U) (U := U.calling g mk a) (Vm.Alike.refl U.vm) q.2.2.1, q.2.2.2.1, q.2.2.2.2.blind⟩
theorem SCB.pre {D : va_G} {ad : Nat → Nat} {tys : List (ClassId × FieldType)} {rs : va_W} {av : List Value} {s : State} {H : Heap} {A : Nat → Prop} {locs : List Loc} (hK : va_K D vwCl tys s) (hR : va_P D vwCl rs H) (hE : EE ad A s s.heap) (hS : va_S A s.heap H locs) (hF : ∀ q, va_A [] H.size q → A q) : ∀ U : State, U.heap = H → s.WarmedH U.vm → va_Pc av (SCB D ad rs H.size) av.toArray U := fun U hU hW => ⟨rfl, by rw [hU], va_K.moved hW.alike (hK.sub [] rfl), by rw [hU]; exact hR, hE.go hS hF hU hW⟩
theorem va_A_nil {sz q : Nat} (h : va_A [] sz q) : sz ≤ q := by
  rcases h with ⟨k, e, h⟩ | h
  · simp at h
  · exact h
theorem vP_nil {D : va_G} {H : Heap} : va_P D vwCl [] H := fun k q h => by simp at h
theorem vD_nil {A : Nat → Prop} : va_D A [] := ⟨fun i j p q h => by simp at h, fun k q h => by simp at h⟩
theorem vP_one {D : va_G} {a : Nat × va_E} {w : va_W} {H : Heap} (h1 : va_P D vwCl [a] H) (h2 : va_P D vwCl w H) : va_P D vwCl (a :: w) H := va_P.app h1 h2
/-- what is read stays: a part that the method may not write -/
theorem ro_now {D : va_G} {rs : va_W} {A : Nat → Prop} {H0 H : Heap} {locs : List Loc} (h : va_P D vwCl rs H0) (hA : ∀ q ∈ rs, ¬ A q.1) (hS : va_S A H0 H locs) : va_P D vwCl rs H := h.kept (fun k q hk => hS.2.1 q.1 (h k q hk).lt (hA q (List.mem_of_getElem? hk)))
theorem ap_nil {h q1 q2 : Nat} : ∀ q ∈ ([] : va_W), ap3 q.1 h q1 q2 := fun _ h => absurd h List.not_mem_nil
theorem ap_one {h q1 q2 : Nat} {a : Nat × va_E} {w : va_W} (h1 : ap3 a.1 h q1 q2) (h2 : ∀ q ∈ w, ap3 q.1 h q1 q2) : ∀ q ∈ a :: w, ap3 q.1 h q1 q2 := List.forall_mem_cons.mpr ⟨h1, h2⟩
/-- a real stays over a call that changes the three cells alone -/
theorem ro_keep {D : va_G} {a h q1 q2 : Nat} {e e1 e2 e3 : va_E} {H H1 : Heap} (hx : va_P D vwCl [(a, e)] H) (nx : ap3 a h q1 q2) (hk : ∀ q : Nat, q < H.size → ¬ va_A [(h, e1), (q1, e2), (q2, e3)] H.size q → H1[q]? = H[q]?) : va_P D vwCl [(a, e)] H1 := by
  refine hx.kept (fun k q hk1 => ?_)
  have hl := (hx k q hk1).lt
  have ha : q.1 = a := by
    match k, hk1 with
    | 0, hk1 => cases hk1; rfl
    | k + 1, hk1 => simp at hk1
  refine hk q.1 hl ?_
  rw [ha] at hl ⊢
  rintro (⟨k, e, h⟩ | h)
  · match k, h with
    | 0, h => cases h; exact nx.1 rfl
    | 1, h => cases h; exact nx.2.1 rfl
    | 2, h => cases h; exact nx.2.2 rfl
    | k + 3, h => simp at h
  · omega
/-- .. and over a call that only makes cells -/
theorem ro_make {D : va_G} {w : va_W} {H H1 : Heap} (hx : va_P D vwCl w H) (hk : ∀ q : Nat, q < H.size → ¬ va_A [] H.size q → H1[q]? = H[q]?) : va_P D vwCl w H1 :=
  hx.kept (fun k q hk1 => hk q.1 (hx k q hk1).lt (fun z => absurd (va_A_nil z) (Nat.not_le.mpr (hx k q hk1).lt)))
theorem ap_new {D : va_G} {h q1 q2 a : Nat} {e1 e2 e3 : va_E} {H : Heap} (hP : va_P D vwCl [(h, e1), (q1, e2), (q2, e3)] H) (ha : H.size ≤ a) : ap3 a h q1 q2 := by
  have h1 : h < H.size := (hP 0 _ rfl).lt
  have h2 : q1 < H.size := (hP 1 _ rfl).lt
  have h3 : q2 < H.size := (hP 2 _ rfl).lt
  exact ⟨by omega, by omega, by omega⟩
theorem ap_D {A : Nat → Prop} {h q1 q2 a : Nat} {e1 e2 e3 e4 : va_E} (hD : va_D A [(h, e1), (q1, e2), (q2, e3), (a, e4)]) : ap3 a h q1 q2 :=
  ⟨fun z => absurd (hD.1 3 0 _ _ rfl rfl z) (by decide), fun z => absurd (hD.1 3 1 _ _ rfl rfl z) (by decide), fun z => absurd (hD.1 3 2 _ _ rfl rfl z) (by decide)⟩
theorem rs_A {D : va_G} {h q1 q2 : Nat} {e1 e2 e3 : va_E} {rs : va_W} {H : Heap} (hR : va_P D vwCl rs H) (hap : ∀ q ∈ rs, ap3 q.1 h q1 q2) : ∀ q ∈ rs, ¬ va_A [(h, e1), (q1, e2), (q2, e3)] H.size q.1 := by
  intro q hq
  obtain ⟨k, hk⟩ := List.getElem?_of_mem hq
  have hl := (hR k q hk).lt
  have nx := hap q hq
  rintro (⟨k, e, h⟩ | h)
  · match k, h with
    | 0, h => exact nx.1 (congrArg Prod.fst (Option.some.inj h)).symm
    | 1, h => exact nx.2.1 (congrArg Prod.fst (Option.some.inj h)).symm
    | 2, h => exact nx.2.2 (congrArg Prod.fst (Option.some.inj h)).symm
    | k + 3, h => simp at h
  · omega
theorem rs_A0 {D : va_G} {rs : va_W} {H : Heap} (hR : va_P D vwCl rs H) : ∀ q ∈ rs, ¬ va_A [] H.size q.1 := by
  intro q hq
  obtain ⟨k, hk⟩ := List.getElem?_of_mem hq
  exact fun z => absurd (va_A_nil z) (Nat.not_le.mpr (hR k q hk).lt)
theorem va_cr {p : Program} {l : Launch} {e : Env} {R : Room} {s : State} {m : MethodId} {args : Array Value} {below : List Frame} {meth : Method} {c : Code} {H : Heap} {locs : List Loc} {cells slots mc ms : Nat} {g : JFrame} {rest : List Value} {Qa : State → Outcome → State → Prop} {free : Addr → Prop} (h : va_Run p l e R s m args below meth c H locs cells slots mc ms g rest Qa free) : CallRun p l e R s m args below meth c H locs cells slots mc ms g rest Qa free := by
  intro T hT X
  obtain ⟨v, st₀, t, T', L, h0, X', hL, e1, -, hq, st⟩ := h T hT X
  exact ⟨v, st₀, t, T', L, h0, X', hL, e1, hq, st⟩
def jlushr (x : Int64) (y : Int32) : Int64 := (x.toUInt64 >>> (y.toInt64.toUInt64 &&& Int64.toUInt64 63)).toInt64
def jlshl (x : Int64) (y : Int32) : Int64 := x <<< (y.toInt64 &&& 63)
def jlshr (x : Int64) (y : Int32) : Int64 := x >>> (y.toInt64 &&& 63)
def jiushr (x y : Int32) : Int32 := (x.toUInt32 >>> (y.toUInt32 &&& Int32.toUInt32 31)).toInt32
/-- the constructor of a real: its own new cell -/
def INB (D : va_G) (a : Nat) (sz : Nat) : State → Prop := fun U => U.heap.size = sz ∧ va_P D vwCl [cReal a 0 0] U.heap ∧ va_K D vwCl [] U ∧ va_D (fun _ => True) [cReal a 0 0]
theorem INB.blind {D : va_G} {a sz : Nat} {av : List Value} : FrameBlind (va_Pc av (INB D a sz)) := fun b U g mk q => ⟨q.1, q.2.1, q.2.2.1, va_K.moved (u := U) (U := U.calling g mk b) (Vm.Alike.refl U.vm) q.2.2.2.1, q.2.2.2.2⟩
theorem INB.pre {D : va_G} {a : Nat} {av : List Value} {s : State} {H : Heap} {A : Nat → Prop} (hK : va_K D vwCl [] s) (hP : va_P D vwCl [cReal a 0 0] H) (hD : va_D A [cReal a 0 0]) : ∀ U : State, U.heap = H → s.WarmedH U.vm → va_Pc av (INB D a H.size) av.toArray U := fun U hU hW => ⟨rfl, by rw [hU], by rw [hU]; exact hP, va_K.moved hW.alike hK, hD.weaken (fun _ _ _ _ => trivial)⟩
theorem ro_init {D : va_G} {a h q1 q2 : Nat} {e e1 e2 e3 : va_E} {H H1 : Heap} (hP : va_P D vwCl [(h, e1), (q1, e2), (q2, e3)] H) (nx : ap3 a h q1 q2) (hk : ∀ q : Nat, q < H.size → ¬ va_A [(a, e)] H.size q → H1[q]? = H[q]?) : va_P D vwCl [(h, e1), (q1, e2), (q2, e3)] H1 := by
  refine hP.kept (fun k q hk1 => ?_)
  have hl := (hP k q hk1).lt
  refine hk q.1 hl ?_
  rintro (⟨j, e9, hj⟩ | h9)
  · match j, hj with
    | 0, hj =>
      have ha : a = q.1 := congrArg Prod.fst (Option.some.inj hj)
      match k, hk1 with
      | 0, hk1 => cases hk1; exact nx.1 ha
      | 1, hk1 => cases hk1; exact nx.2.1 ha
      | 2, hk1 => cases hk1; exact nx.2.2 ha
      | k + 3, hk1 => simp at hk1
    | j + 1, hj => simp at hj
  · omega
/-- a method of the reference: its world alone -/
def MMB (D : va_G) (tys : List (ClassId × FieldType)) (w : va_W) (sz : Nat) : State → Prop := fun U => U.heap.size = sz ∧ va_P D vwCl w U.heap ∧ va_K D vwCl tys U ∧ va_D (fun _ => True) w
theorem MMB.blind {D : va_G} {sz : Nat} {tys : List (ClassId × FieldType)} {w : va_W} {av : List Value} : FrameBlind (va_Pc av (MMB D tys w sz)) := fun a U g mk q => ⟨q.1, q.2.1, q.2.2.1, va_K.moved (u := U) (U := U.calling g mk a) (Vm.Alike.refl U.vm) q.2.2.2.1, q.2.2.2.2⟩
theorem MMB.pre {D : va_G} {tys : List (ClassId × FieldType)} {w : va_W} {av : List Value} {s : State} {H : Heap} {A : Nat → Prop} (hK : va_K D vwCl tys s) (hP : va_P D vwCl w H) (hD : va_D A w) : ∀ U : State, U.heap = H → s.WarmedH U.vm → va_Pc av (MMB D tys w H.size) av.toArray U := fun U hU hW => ⟨rfl, by rw [hU], by rw [hU]; exact hP, va_K.moved hW.alike hK, hD.weaken (fun _ _ _ _ => trivial)⟩
section QC
variable {p : Program} {l : Launch} {e : Env} {R : Room} {s : State} {m : MethodId} {args : Array Value} {below : List Frame} {meth : Method} {c : Code} {H : Heap} {locs : List Loc} {cells slots : Nat} {Q : State → Prop} {pc pcJ : Nat} {ls : Array Slot} {st0 rest : List Value}
/-- a stretch that only computes one value -/
theorem q_cut {v : Int32} (body : (∀ w : Int32, w = v → W p l e R s m args below meth c H locs cells slots Q (F0 m pcJ ls (.int w :: rest))) → W p l e R s m args below meth c H locs cells slots Q (F0 m pc ls st0)) (k : W p l e R s m args below meth c H locs cells slots Q (F0 m pcJ ls (.int v :: rest))) : W p l e R s m args below meth c H locs cells slots Q (F0 m pc ls st0) := body (fun w e9 => by rw [e9]; exact k)
theorem q_cutL {v : Int64} (body : (∀ w : Int64, w = v → W p l e R s m args below meth c H locs cells slots Q (F0 m pcJ ls (.long w :: rest))) → W p l e R s m args below meth c H locs cells slots Q (F0 m pc ls st0)) (k : W p l e R s m args below meth c H locs cells slots Q (F0 m pcJ ls (.long v :: rest))) : W p l e R s m args below meth c H locs cells slots Q (F0 m pc ls st0) := body (fun w e9 => by rw [e9]; exact k)
end QC
/-- Real(t, f): the fields of its new cell -/
theorem kS_X1_init : yX1_init.cls ≠ "java/lang/invoke/MethodHandle" ∧ yX1_init.cls ≠ "java/lang/invoke/VarHandle" ∧ (parseMethodDescriptor yX1_init.desc).map (fun d => d.parameters.length) = some 2 := by decide +kernel
set_option maxHeartbeats 4000000 in
set_option maxRecDepth 100000 in
theorem c_X1_init (l : Launch) (D : va_G) (a : Nat) (t : Int32) (f : Int64) (sz : Nat) : Met l yX1_init wsX1_init ({ frames := 1, cells := 0, slots := 0, locals := 12 } : Room) (va_Pc [.ref a, .int t, .long f] (INB D a sz)) (va_Qv (fun _ : Unit => True) (fun _ t9 => va_P D vwCl [cReal a t f] t9.heap) (va_A [cReal a 0 0] sz)) 0 0 (va_A [cReal a 0 0] sz) := by
  refine Met.ofW (cc := cX1_init) (maxL := 4) (ret := none) (by decide) rfl ?_
  intro p e s m args below meth c s₁ B hml hv
  obtain ⟨rfl, hsz, hP, hK, hD0⟩ := hv
  have hx := B.exec
  have hb := B.bytes
  have hr := B.returns
  have hts := atoms_spec (ws := wsX1_init) B.pre
  have hown : s.vm.findClass RX1 = some m.cls := findClass_of_methodNamed B.named
  have hlocks := B.notSynchronized
  have hin : meth.name = "<init>" := (name_of_methodNamed B.named B.method).1
  have in_X1 : ∀ w ∈ wsX10, w ∈ wsX1_init := by decide +kernel
  have w_1 := hts (.methodLink RX1 3 objectInit) (by decide +kernel)
  have w_2 := hts (.instanceMethod objectInit) (by decide +kernel)
  have w_3 := hts (.code objectInit ⟨#[0xb1]⟩ 1 none) (by decide +kernel)
  have w_4 := hts (.fieldLink RX1 9 "RealSteps$Real" "top" "I") (by decide +kernel)
  have w_5 := hts (.fieldLink RX1 15 "RealSteps$Real" "fraction" "J") (by decide +kernel)
  subst hsz
  have hD := hD0.self (sz := s.heap.size)
  generalize hAe : va_A ([cReal a 0 0]) s.heap.size = A at hD ⊢
  have hS : va_S A s.heap s.heap [] := va_S.rf
  have hl := lv_entry ([.ref a, .int t, .long f]) (n := 4) (Nat.le_of_ble_eq_true rfl)
  rw [lg_entry_eq]
  generalize (lg_sl ([.ref a, .int t, .long f]) ++ List.replicate (4 - (lg_sl ([.ref a, .int t, .long f])).length) Slot.unset).toArray = ls at hl ⊢
  have hl : lv_has ls 4 [(0, .ref a), (1, .int t), (2, .long f)] := hl
  refine lv_aload_n hx hb dX1_init_0 rfl (lv_at hl 0 rfl) ?_
  refine W.objInit hx hb hown w_1 w_2 w_3 rfl (by rw [hml]; exact hl.1) rfl dX1_init_1 (Nat.le_of_ble_eq_true rfl) (Nat.le_of_ble_eq_true rfl) ?_
  refine W.eq (g2 := F0 m 4 ls []) rfl ?_
  refine lv_aload_n hx hb dX1_init_4 rfl (lv_at hl 0 rfl) ?_
  refine lv_iload_n hx hb dX1_init_5 rfl (lv_at hl 1 rfl) ?_
  refine va_putF (v := .int t) (ty := .int) (C := RX1) (T := TX1) (N := 2) hx hb hts in_X1 tyX1 tyX1_ok nmX1 hown hK hP hD hS 0 rfl rfl 0 (by decide) w_4 (fun _ h9 => h9) rfl hin rfl (tyX1_ok 0 (by decide)) rfl rfl (Nat.le_of_ble_eq_true rfl) dX1_init_6 (fun H locs hP hD hS => ?_)
  have hP : va_P D vwCl [cReal a t 0] H := hP
  have hD : va_D A [cReal a t 0] := hD
  refine lv_aload_n hx hb dX1_init_9 rfl (lv_at hl 0 rfl) ?_
  refine lv_lload_n hx hb dX1_init_10 rfl (lv_at hl 2 rfl) ?_
  refine va_putF (v := .long f) (ty := .long) (C := RX1) (T := TX1) (N := 2) hx hb hts in_X1 tyX1 tyX1_ok nmX1 hown hK hP hD hS 0 rfl rfl 1 (by decide) w_5 (fun _ h9 => h9) rfl hin rfl (tyX1_ok 1 (by decide)) rfl rfl (Nat.le_of_ble_eq_true rfl) dX1_init_11 (fun H locs hP hD hS => ?_)
  have hP : va_P D vwCl [cReal a t f] H := hP
  exact W.vret hx hb hr (fun t9 ht hW => ⟨⟨(), rfl, trivial, by show va_P D vwCl [cReal a t f] t9.heap; rw [ht]; exact hP⟩, hS.F ht⟩) hS.2.2 dX1_init_14
theorem sw_out_1_3 {x : Int32} (h1 : ¬ x = 1) (h2 : ¬ x = 2) (h3 : ¬ x = 3) : x.toInt < 1 ∨ 3 < x.toInt := by
  have e1 : ¬ x.toInt = 1 := lv_neT h1 rfl
  have e2 : ¬ x.toInt = 2 := lv_neT h2 rfl
  have e3 : ¬ x.toInt = 3 := lv_neT h3 rfl
  omega
theorem sw_out_0_2 {x : Int32} (h0 : ¬ x = 0) (h1 : ¬ x = 1) (h2 : ¬ x = 2) : x.toInt < 0 ∨ 2 < x.toInt := by
  have e0 : ¬ x.toInt = 0 := lv_neT h0 rfl
  have e1 : ¬ x.toInt = 1 := lv_neT h1 rfl
  have e2 : ¬ x.toInt = 2 := lv_neT h2 rfl
  omega
theorem sw_out_0_3 {x : Int32} (h0 : ¬ x = 0) (h1 : ¬ x = 1) (h2 : ¬ x = 2) (h3 : ¬ x = 3) : x.toInt < 0 ∨ 3 < x.toInt := by
  have e0 : ¬ x.toInt = 0 := lv_neT h0 rfl
  have e1 : ¬ x.toInt = 1 := lv_neT h1 rfl
  have e2 : ¬ x.toInt = 2 := lv_neT h2 rfl
  have e3 : ¬ x.toInt = 3 := lv_neT h3 rfl
  omega
theorem sw_out_0_12 {x : Int32} (h0 : ¬ x = 0) (h1 : ¬ x = 1) (h2 : ¬ x = 2) (h3 : ¬ x = 3) (h4 : ¬ x = 4) (h5 : ¬ x = 5) (h6 : ¬ x = 6) (h7 : ¬ x = 7) (h8 : ¬ x = 8) (h9 : ¬ x = 9) (h10 : ¬ x = 10) (h11 : ¬ x = 11) (h12 : ¬ x = 12) : x.toInt < 0 ∨ 12 < x.toInt := by
  have e0 : ¬ x.toInt = 0 := lv_neT h0 rfl
  have e1 : ¬ x.toInt = 1 := lv_neT h1 rfl
  have e2 : ¬ x.toInt = 2 := lv_neT h2 rfl
  have e3 : ¬ x.toInt = 3 := lv_neT h3 rfl
  have e4 : ¬ x.toInt = 4 := lv_neT h4 rfl
  have e5 : ¬ x.toInt = 5 := lv_neT h5 rfl
  have e6 : ¬ x.toInt = 6 := lv_neT h6 rfl
  have e7 : ¬ x.toInt = 7 := lv_neT h7 rfl
  have e8 : ¬ x.toInt = 8 := lv_neT h8 rfl
  have e9 : ¬ x.toInt = 9 := lv_neT h9 rfl
  have e10 : ¬ x.toInt = 10 := lv_neT h10 rfl
  have e11 : ¬ x.toInt = 11 := lv_neT h11 rfl
  have e12 : ¬ x.toInt = 12 := lv_neT h12 rfl
  omega
end
section
/-! numbers: rows of kit/laws/COUNTS.to-paste, and measures of mine -/
theorem fb_rng (x : Int32) : -2147483648 ≤ x.toInt ∧ x.toInt < 2147483648 := by
  have h1 := Int32.le_toInt x
  have h2 := Int32.toInt_lt x
  omega
theorem fb_bmod {z : Int} (h1 : -2147483648 ≤ z) (h2 : z < 2147483648) : z.bmod (2 ^ 32) = z := by
  rw [Int.bmod_eq_of_le (by omega) (by omega)]
theorem fb_addI {x y : Int32} (h1 : -2147483648 ≤ x.toInt + y.toInt) (h2 : x.toInt + y.toInt < 2147483648) : (x + y).toInt = x.toInt + y.toInt := by
  rw [Int32.toInt_add, fb_bmod h1 h2]
theorem fb_subI {x y : Int32} (h1 : -2147483648 ≤ x.toInt - y.toInt) (h2 : x.toInt - y.toInt < 2147483648) : (x - y).toInt = x.toInt - y.toInt := by
  rw [Int32.toInt_sub, fb_bmod h1 h2]
theorem fb_mulI {x y : Int32} (h1 : -2147483648 ≤ x.toInt * y.toInt) (h2 : x.toInt * y.toInt < 2147483648) : (x * y).toInt = x.toInt * y.toInt := by
  rw [Int32.toInt_mul, fb_bmod h1 h2]
theorem fb_negI {x : Int32} (h : x.toInt ≠ -2147483648) : (-x).toInt = -x.toInt := by
  have := fb_rng x
  rw [Int32.toInt_neg, fb_bmod (by omega) (by omega)]
theorem fb_ofI {z : Int} (h1 : -2147483648 ≤ z) (h2 : z < 2147483648) : (Int32.ofInt z).toInt = z := by
  rw [Int32.toInt_ofInt, fb_bmod h1 h2]
theorem fb_asI (x : Int32) : Int32.ofInt x.toInt = x := Int32.ofInt_toInt x
theorem fb_rngL (x : Int64) : -9223372036854775808 ≤ x.toInt ∧ x.toInt < 9223372036854775808 := by
  have h1 := Int64.le_toInt x
  have h2 := Int64.toInt_lt x
  omega
theorem fb_bmodL {z : Int} (h1 : -9223372036854775808 ≤ z) (h2 : z < 9223372036854775808) : z.bmod (2 ^ 64) = z := by
  rw [Int.bmod_eq_of_le (by omega) (by omega)]
theorem fb_addL {x y : Int64} (h1 : -9223372036854775808 ≤ x.toInt + y.toInt) (h2 : x.toInt + y.toInt < 9223372036854775808) : (x + y).toInt = x.toInt + y.toInt := by
  rw [Int64.toInt_add, fb_bmodL h1 h2]
theorem fb_subL {x y : Int64} (h1 : -9223372036854775808 ≤ x.toInt - y.toInt) (h2 : x.toInt - y.toInt < 9223372036854775808) : (x - y).toInt = x.toInt - y.toInt := by
  rw [Int64.toInt_sub, fb_bmodL h1 h2]
theorem fb_mulL {x y : Int64} (h1 : -9223372036854775808 ≤ x.toInt * y.toInt) (h2 : x.toInt * y.toInt < 9223372036854775808) : (x * y).toInt = x.toInt * y.toInt := by
  rw [Int64.toInt_mul, fb_bmodL h1 h2]
theorem ilt {a b : Int32} : a < b ↔ a.toInt < b.toInt := Int32.lt_iff_toInt_lt
theorem ile {a b : Int32} : a ≤ b ↔ a.toInt ≤ b.toInt := Int32.le_iff_toInt_le
theorem mu_inc {x v : Int32} (h : ¬ x ≤ v) : (x.toInt - (v + 1).toInt).toNat < (x.toInt - v.toInt).toNat := by
  rw [ile] at h
  have h1 := fb_rng x
  have h2 := fb_rng v
  have h3 : (1 : Int32).toInt = 1 := rfl
  have e : (v + 1).toInt = v.toInt + 1 := by rw [fb_addI (by omega) (by omega), h3]
  omega
theorem mu_0 (x : Int32) : (x.toInt - (0 : Int32).toInt).toNat < x.toInt.toNat + 1 := by
  have h3 : (0 : Int32).toInt = 0 := rfl
  omega
theorem mu_go {a b n : Nat} (h : a < b) (hn : b < n + 1) : a < n := Nat.lt_of_lt_of_le h (Nat.le_of_lt_succ hn)
end
section
def J_nlz32 (i : Int32) : Int32 :=
  if 0 < i then (if i < 65536 then (if i < 256 then (if i < 16 then (if i < 4 then (31 - (jiushr i 1))
          else (29 - (jiushr (jiushr i 2) 1)))
        else if (jiushr i 4) < 4 then (27 - (jiushr (jiushr i 4) 1))
        else (25 - (jiushr (jiushr (jiushr i 4) 2) 1)))
      else if (jiushr i 8) < 16 then (if (jiushr i 8) < 4 then (23 - (jiushr (jiushr i 8) 1))
        else (21 - (jiushr (jiushr (jiushr i 8) 2) 1)))
      else if (jiushr (jiushr i 8) 4) < 4 then (19 - (jiushr (jiushr (jiushr i 8) 4) 1))
      else (17 - (jiushr (jiushr (jiushr (jiushr i 8) 4) 2) 1)))
    else if (jiushr i 16) < 256 then (if (jiushr i 16) < 16 then (if (jiushr i 16) < 4 then (15 - (jiushr (jiushr i 16) 1))
        else (13 - (jiushr (jiushr (jiushr i 16) 2) 1)))
      else if (jiushr (jiushr i 16) 4) < 4 then (11 - (jiushr (jiushr (jiushr i 16) 4) 1))
      else (9 - (jiushr (jiushr (jiushr (jiushr i 16) 4) 2) 1)))
    else if (jiushr (jiushr i 16) 8) < 16 then (if (jiushr (jiushr i 16) 8) < 4 then (7 - (jiushr (jiushr (jiushr i 16) 8) 1))
      else (5 - (jiushr (jiushr (jiushr (jiushr i 16) 8) 2) 1)))
    else if (jiushr (jiushr (jiushr i 16) 8) 4) < 4 then (3 - (jiushr (jiushr (jiushr (jiushr i 16) 8) 4) 1))
    else (1 - (jiushr (jiushr (jiushr (jiushr (jiushr i 16) 8) 4) 2) 1)))
  else (if i = 0 then 32 else 0)
theorem kS_J6_numberOfLeadingZeros_0f7a4 : yJ6_numberOfLeadingZeros_0f7a4.cls ≠ "java/lang/invoke/MethodHandle" ∧ yJ6_numberOfLeadingZeros_0f7a4.cls ≠ "java/lang/invoke/VarHandle" ∧ (parseMethodDescriptor yJ6_numberOfLeadingZeros_0f7a4.desc).map (fun d => d.parameters.length) = some 1 := by decide +kernel
set_option maxHeartbeats 4000000 in
set_option maxRecDepth 100000 in
theorem c_J6_numberOfLeadingZeros_0f7a4 (l : Launch) (i : Int32) : Met l yJ6_numberOfLeadingZeros_0f7a4 wsJ6_numberOfLeadingZeros_0f7a4 ({ frames := 0, cells := 0, slots := 0, locals := 0 } : Room) (va_Pc [.int i] (fun _ => True)) (vp_Si (fun r => r = J_nlz32 i)) 0 0 (fun _ => False) := by
  refine Met.ofW (cc := cJ6_numberOfLeadingZeros_0f7a4) (maxL := 2) (ret := (some .int)) (by decide) rfl ?_
  intro p e s m args below meth c s₁ B hml hv
  obtain ⟨rfl, -⟩ := hv
  have hx := B.exec
  have hb := B.bytes
  have hr := B.returns
  have hts := atoms_spec (ws := wsJ6_numberOfLeadingZeros_0f7a4) B.pre
  have hown : s.vm.findClass RJ6 = some m.cls := findClass_of_methodNamed B.named
  have hlocks := B.notSynchronized
  have w_1 := hts (.constant RJ6 264 (65536)) (by decide +kernel)
  have hl := lv_entry ([.int i]) (n := 2) (Nat.le_of_ble_eq_true rfl)
  rw [lg_entry_eq]
  generalize (lg_sl ([.int i]) ++ List.replicate (2 - (lg_sl ([.int i])).length) Slot.unset).toArray = ls at hl ⊢
  have hl : lv_has ls 2 [(0, .int i)] := hl
  refine lv_iload_n hx hb dJ6_numberOfLeadingZeros_0f7a4_0 rfl (lv_at hl 0 rfl) ?_
  refine lv_if_gt (tgt := 15) hx hb dJ6_numberOfLeadingZeros_0f7a4_1 (by decide) (fun c_1 => ?_) (fun c_1 => ?_)
  · refine lv_bipush (v := 31) hx hb dJ6_numberOfLeadingZeros_0f7a4_15 (by decide) ?_
    refine lv_istore_n (lv' := [(1, .int 31), (0, .int i)]) hx hb dJ6_numberOfLeadingZeros_0f7a4_17 rfl hl (by decide) rfl (fun ls hl => ?_)
    refine lv_iload_n hx hb dJ6_numberOfLeadingZeros_0f7a4_18 rfl (lv_at hl 1 rfl) ?_
    refine lv_ldcw (v := 65536) hx hb hown w_1 dJ6_numberOfLeadingZeros_0f7a4_19 ?_
    refine lv_icmp_lt (tgt := 33) hx hb dJ6_numberOfLeadingZeros_0f7a4_22 (by decide) (fun c_2 => ?_) (fun c_2 => ?_)
    · refine lv_iload_n hx hb dJ6_numberOfLeadingZeros_0f7a4_33 rfl (lv_at hl 1 rfl) ?_
      refine lv_sipush (v := 256) hx hb dJ6_numberOfLeadingZeros_0f7a4_34 (by decide) ?_
      refine lv_icmp_lt (tgt := 48) hx hb dJ6_numberOfLeadingZeros_0f7a4_37 (by decide) (fun c_3 => ?_) (fun c_3 => ?_)
      · refine lv_iload_n hx hb dJ6_numberOfLeadingZeros_0f7a4_48 rfl (lv_at hl 1 rfl) ?_
        refine lv_bipush (v := 16) hx hb dJ6_numberOfLeadingZeros_0f7a4_49 (by decide) ?_
        refine lv_icmp_lt (tgt := 61) hx hb dJ6_numberOfLeadingZeros_0f7a4_51 (by decide) (fun c_4 => ?_) (fun c_4 => ?_)
        · refine lv_iload_n hx hb dJ6_numberOfLeadingZeros_0f7a4_61 rfl (lv_at hl 1 rfl) ?_
          refine lv_iconst (v := 4) hx hb dJ6_numberOfLeadingZeros_0f7a4_62 (by decide) ?_
          refine lv_icmp_lt (tgt := 73) hx hb dJ6_numberOfLeadingZeros_0f7a4_63 (by decide) (fun c_5 => ?_) (fun c_5 => ?_)
          · refine lv_iload_n hx hb dJ6_numberOfLeadingZeros_0f7a4_73 rfl (lv_at hl 0 rfl) ?_
            refine lv_iload_n hx hb dJ6_numberOfLeadingZeros_0f7a4_74 rfl (lv_at hl 1 rfl) ?_
            refine lv_iconst (v := 1) hx hb dJ6_numberOfLeadingZeros_0f7a4_75 (by decide) ?_
            refine lv_iushr (v := (jiushr i 1)) hx hb dJ6_numberOfLeadingZeros_0f7a4_76 rfl ?_
            refine lv_isub hx hb dJ6_numberOfLeadingZeros_0f7a4_77 ?_
            have hw : J_nlz32 i = (31 - (jiushr i 1)) := by unfold J_nlz32; rw [if_pos c_1, if_pos c_2, if_pos c_3, if_pos c_4, if_pos c_5]; try rfl
            exact W.iret hx hb hr (fun t9 ht hW => ⟨_, rfl, hw.symm, ht⟩) t_nil dJ6_numberOfLeadingZeros_0f7a4_78
          · refine lv_iinc (v := 29) (lv' := [(1, .int 29), (0, .int i)]) hx hb dJ6_numberOfLeadingZeros_0f7a4_66 hl (k := 0) rfl rfl (by decide) rfl (fun ls hl => ?_)
            refine lv_iload_n hx hb dJ6_numberOfLeadingZeros_0f7a4_69 rfl (lv_at hl 1 rfl) ?_
            refine lv_iconst (v := 2) hx hb dJ6_numberOfLeadingZeros_0f7a4_70 (by decide) ?_
            refine lv_iushr (v := (jiushr i 2)) hx hb dJ6_numberOfLeadingZeros_0f7a4_71 rfl ?_
            refine lv_istore_n (lv' := [(0, .int (jiushr i 2)), (1, .int 29)]) hx hb dJ6_numberOfLeadingZeros_0f7a4_72 rfl hl (by decide) rfl (fun ls hl => ?_)
            refine lv_iload_n hx hb dJ6_numberOfLeadingZeros_0f7a4_73 rfl (lv_at hl 1 rfl) ?_
            refine lv_iload_n hx hb dJ6_numberOfLeadingZeros_0f7a4_74 rfl (lv_at hl 0 rfl) ?_
            refine lv_iconst (v := 1) hx hb dJ6_numberOfLeadingZeros_0f7a4_75 (by decide) ?_
            refine lv_iushr (v := (jiushr (jiushr i 2) 1)) hx hb dJ6_numberOfLeadingZeros_0f7a4_76 rfl ?_
            refine lv_isub hx hb dJ6_numberOfLeadingZeros_0f7a4_77 ?_
            have hw : J_nlz32 i = (29 - (jiushr (jiushr i 2) 1)) := by unfold J_nlz32; rw [if_pos c_1, if_pos c_2, if_pos c_3, if_pos c_4, if_neg c_5]; try rfl
            exact W.iret hx hb hr (fun t9 ht hW => ⟨_, rfl, hw.symm, ht⟩) t_nil dJ6_numberOfLeadingZeros_0f7a4_78
        · refine lv_iinc (v := 27) (lv' := [(1, .int 27), (0, .int i)]) hx hb dJ6_numberOfLeadingZeros_0f7a4_54 hl (k := 0) rfl rfl (by decide) rfl (fun ls hl => ?_)
          refine lv_iload_n hx hb dJ6_numberOfLeadingZeros_0f7a4_57 rfl (lv_at hl 1 rfl) ?_
          refine lv_iconst (v := 4) hx hb dJ6_numberOfLeadingZeros_0f7a4_58 (by decide) ?_
          refine lv_iushr (v := (jiushr i 4)) hx hb dJ6_numberOfLeadingZeros_0f7a4_59 rfl ?_
          refine lv_istore_n (lv' := [(0, .int (jiushr i 4)), (1, .int 27)]) hx hb dJ6_numberOfLeadingZeros_0f7a4_60 rfl hl (by decide) rfl (fun ls hl => ?_)
          refine lv_iload_n hx hb dJ6_numberOfLeadingZeros_0f7a4_61 rfl (lv_at hl 0 rfl) ?_
          refine lv_iconst (v := 4) hx hb dJ6_numberOfLeadingZeros_0f7a4_62 (by decide) ?_
          refine lv_icmp_lt (tgt := 73) hx hb dJ6_numberOfLeadingZeros_0f7a4_63 (by decide) (fun c_6 => ?_) (fun c_6 => ?_)
          · refine lv_iload_n hx hb dJ6_numberOfLeadingZeros_0f7a4_73 rfl (lv_at hl 1 rfl) ?_
            refine lv_iload_n hx hb dJ6_numberOfLeadingZeros_0f7a4_74 rfl (lv_at hl 0 rfl) ?_
            refine lv_iconst (v := 1) hx hb dJ6_numberOfLeadingZeros_0f7a4_75 (by decide) ?_
            refine lv_iushr (v := (jiushr (jiushr i 4) 1)) hx hb dJ6_numberOfLeadingZeros_0f7a4_76 rfl ?_
            refine lv_isub hx hb dJ6_numberOfLeadingZeros_0f7a4_77 ?_
            have hw : J_nlz32 i = (27 - (jiushr (jiushr i 4) 1)) := by unfold J_nlz32; rw [if_pos c_1, if_pos c_2, if_pos c_3, if_neg c_4, if_pos c_6]; try rfl
            exact W.iret hx hb hr (fun t9 ht hW => ⟨_, rfl, hw.symm, ht⟩) t_nil dJ6_numberOfLeadingZeros_0f7a4_78
          · refine lv_iinc (v := 25) (lv' := [(1, .int 25), (0, .int (jiushr i 4))]) hx hb dJ6_numberOfLeadingZeros_0f7a4_66 hl (k := 1) rfl rfl (by decide) rfl (fun ls hl => ?_)
            refine lv_iload_n hx hb dJ6_numberOfLeadingZeros_0f7a4_69 rfl (lv_at hl 1 rfl) ?_
            refine lv_iconst (v := 2) hx hb dJ6_numberOfLeadingZeros_0f7a4_70 (by decide) ?_
            refine lv_iushr (v := (jiushr (jiushr i 4) 2)) hx hb dJ6_numberOfLeadingZeros_0f7a4_71 rfl ?_
            refine lv_istore_n (lv' := [(0, .int (jiushr (jiushr i 4) 2)), (1, .int 25)]) hx hb dJ6_numberOfLeadingZeros_0f7a4_72 rfl hl (by decide) rfl (fun ls hl => ?_)
            refine lv_iload_n hx hb dJ6_numberOfLeadingZeros_0f7a4_73 rfl (lv_at hl 1 rfl) ?_
            refine lv_iload_n hx hb dJ6_numberOfLeadingZeros_0f7a4_74 rfl (lv_at hl 0 rfl) ?_
            refine lv_iconst (v := 1) hx hb dJ6_numberOfLeadingZeros_0f7a4_75 (by decide) ?_
            refine lv_iushr (v := (jiushr (jiushr (jiushr i 4) 2) 1)) hx hb dJ6_numberOfLeadingZeros_0f7a4_76 rfl ?_
            refine lv_isub hx hb dJ6_numberOfLeadingZeros_0f7a4_77 ?_
            have hw : J_nlz32 i = (25 - (jiushr (jiushr (jiushr i 4) 2) 1)) := by unfold J_nlz32; rw [if_pos c_1, if_pos c_2, if_pos c_3, if_neg c_4, if_neg c_6]; try rfl
            exact W.iret hx hb hr (fun t9 ht hW => ⟨_, rfl, hw.symm, ht⟩) t_nil dJ6_numberOfLeadingZeros_0f7a4_78
      · refine lv_iinc (v := 23) (lv' := [(1, .int 23), (0, .int i)]) hx hb dJ6_numberOfLeadingZeros_0f7a4_40 hl (k := 0) rfl rfl (by decide) rfl (fun ls hl => ?_)
        refine lv_iload_n hx hb dJ6_numberOfLeadingZeros_0f7a4_43 rfl (lv_at hl 1 rfl) ?_
        refine lv_bipush (v := 8) hx hb dJ6_numberOfLeadingZeros_0f7a4_44 (by decide) ?_
        refine lv_iushr (v := (jiushr i 8)) hx hb dJ6_numberOfLeadingZeros_0f7a4_46 rfl ?_
        refine lv_istore_n (lv' := [(0, .int (jiushr i 8)), (1, .int 23)]) hx hb dJ6_numberOfLeadingZeros_0f7a4_47 rfl hl (by decide) rfl (fun ls hl => ?_)
        refine lv_iload_n hx hb dJ6_numberOfLeadingZeros_0f7a4_48 rfl (lv_at hl 0 rfl) ?_
        refine lv_bipush (v := 16) hx hb dJ6_numberOfLeadingZeros_0f7a4_49 (by decide) ?_
        refine lv_icmp_lt (tgt := 61) hx hb dJ6_numberOfLeadingZeros_0f7a4_51 (by decide) (fun c_7 => ?_) (fun c_7 => ?_)
        · refine lv_iload_n hx hb dJ6_numberOfLeadingZeros_0f7a4_61 rfl (lv_at hl 0 rfl) ?_
          refine lv_iconst (v := 4) hx hb dJ6_numberOfLeadingZeros_0f7a4_62 (by decide) ?_
          refine lv_icmp_lt (tgt := 73) hx hb dJ6_numberOfLeadingZeros_0f7a4_63 (by decide) (fun c_8 => ?_) (fun c_8 => ?_)
          · refine lv_iload_n hx hb dJ6_numberOfLeadingZeros_0f7a4_73 rfl (lv_at hl 1 rfl) ?_
            refine lv_iload_n hx hb dJ6_numberOfLeadingZeros_0f7a4_74 rfl (lv_at hl 0 rfl) ?_
            refine lv_iconst (v := 1) hx hb dJ6_numberOfLeadingZeros_0f7a4_75 (by decide) ?_
            refine lv_iushr (v := (jiushr (jiushr i 8) 1)) hx hb dJ6_numberOfLeadingZeros_0f7a4_76 rfl ?_
            refine lv_isub hx hb dJ6_numberOfLeadingZeros_0f7a4_77 ?_
            have hw : J_nlz32 i = (23 - (jiushr (jiushr i 8) 1)) := by unfold J_nlz32; rw [if_pos c_1, if_pos c_2, if_neg c_3, if_pos c_7, if_pos c_8]; try rfl
            exact W.iret hx hb hr (fun t9 ht hW => ⟨_, rfl, hw.symm, ht⟩) t_nil dJ6_numberOfLeadingZeros_0f7a4_78
          · refine lv_iinc (v := 21) (lv' := [(1, .int 21), (0, .int (jiushr i 8))]) hx hb dJ6_numberOfLeadingZeros_0f7a4_66 hl (k := 1) rfl rfl (by decide) rfl (fun ls hl => ?_)
            refine lv_iload_n hx hb dJ6_numberOfLeadingZeros_0f7a4_69 rfl (lv_at hl 1 rfl) ?_
            refine lv_iconst (v := 2) hx hb dJ6_numberOfLeadingZeros_0f7a4_70 (by decide) ?_
            refine lv_iushr (v := (jiushr (jiushr i 8) 2)) hx hb dJ6_numberOfLeadingZeros_0f7a4_71 rfl ?_
            refine lv_istore_n (lv' := [(0, .int (jiushr (jiushr i 8) 2)), (1, .int 21)]) hx hb dJ6_numberOfLeadingZeros_0f7a4_72 rfl hl (by decide) rfl (fun ls hl => ?_)
            refine lv_iload_n hx hb dJ6_numberOfLeadingZeros_0f7a4_73 rfl (lv_at hl 1 rfl) ?_
            refine lv_iload_n hx hb dJ6_numberOfLeadingZeros_0f7a4_74 rfl (lv_at hl 0 rfl) ?_
            refine lv_iconst (v := 1) hx hb dJ6_numberOfLeadingZeros_0f7a4_75 (by decide) ?_
            refine lv_iushr (v := (jiushr (jiushr (jiushr i 8) 2) 1)) hx hb dJ6_numberOfLeadingZeros_0f7a4_76 rfl ?_
            refine lv_isub hx hb dJ6_numberOfLeadingZeros_0f7a4_77 ?_
            have hw : J_nlz32 i = (21 - (jiushr (jiushr (jiushr i 8) 2) 1)) := by unfold J_nlz32; rw [if_pos c_1, if_pos c_2, if_neg c_3, if_pos c_7, if_neg c_8]; try rfl
            exact W.iret hx hb hr (fun t9 ht hW => ⟨_, rfl, hw.symm, ht⟩) t_nil dJ6_numberOfLeadingZeros_0f7a4_78
        · refine lv_iinc (v := 19) (lv' := [(1, .int 19), (0, .int (jiushr i 8))]) hx hb dJ6_numberOfLeadingZeros_0f7a4_54 hl (k := 1) rfl rfl (by decide) rfl (fun ls hl => ?_)
          refine lv_iload_n hx hb dJ6_numberOfLeadingZeros_0f7a4_57 rfl (lv_at hl 1 rfl) ?_
          refine lv_iconst (v := 4) hx hb dJ6_numberOfLeadingZeros_0f7a4_58 (by decide) ?_
          refine lv_iushr (v := (jiushr (jiushr i 8) 4)) hx hb dJ6_numberOfLeadingZeros_0f7a4_59 rfl ?_
          refine lv_istore_n (lv' := [(0, .int (jiushr (jiushr i 8) 4)), (1, .int 19)]) hx hb dJ6_numberOfLeadingZeros_0f7a4_60 rfl hl (by decide) rfl (fun ls hl => ?_)
          refine lv_iload_n hx hb dJ6_numberOfLeadingZeros_0f7a4_61 rfl (lv_at hl 0 rfl) ?_
          refine lv_iconst (v := 4) hx hb dJ6_numberOfLeadingZeros_0f7a4_62 (by decide) ?_
          refine lv_icmp_lt (tgt := 73) hx hb dJ6_numberOfLeadingZeros_0f7a4_63 (by decide) (fun c_9 => ?_) (fun c_9 => ?_)
          · refine lv_iload_n hx hb dJ6_numberOfLeadingZeros_0f7a4_73 rfl (lv_at hl 1 rfl) ?_
            refine lv_iload_n hx hb dJ6_numberOfLeadingZeros_0f7a4_74 rfl (lv_at hl 0 rfl) ?_
            refine lv_iconst (v := 1) hx hb dJ6_numberOfLeadingZeros_0f7a4_75 (by decide) ?_
            refine lv_iushr (v := (jiushr (jiushr (jiushr i 8) 4) 1)) hx hb dJ6_numberOfLeadingZeros_0f7a4_76 rfl ?_
            refine lv_isub hx hb dJ6_numberOfLeadingZeros_0f7a4_77 ?_
            have hw : J_nlz32 i = (19 - (jiushr (jiushr (jiushr i 8) 4) 1)) := by unfold J_nlz32; rw [if_pos c_1, if_pos c_2, if_neg c_3, if_neg c_7, if_pos c_9]; try rfl
            exact W.iret hx hb hr (fun t9 ht hW => ⟨_, rfl, hw.symm, ht⟩) t_nil dJ6_numberOfLeadingZeros_0f7a4_78
          · refine lv_iinc (v := 17) (lv' := [(1, .int 17), (0, .int (jiushr (jiushr i 8) 4))]) hx hb dJ6_numberOfLeadingZeros_0f7a4_66 hl (k := 1) rfl rfl (by decide) rfl (fun ls hl => ?_)
            refine lv_iload_n hx hb dJ6_numberOfLeadingZeros_0f7a4_69 rfl (lv_at hl 1 rfl) ?_
            refine lv_iconst (v := 2) hx hb dJ6_numberOfLeadingZeros_0f7a4_70 (by decide) ?_
            refine lv_iushr (v := (jiushr (jiushr (jiushr i 8) 4) 2)) hx hb dJ6_numberOfLeadingZeros_0f7a4_71 rfl ?_
            refine lv_istore_n (lv' := [(0, .int (jiushr (jiushr (jiushr i 8) 4) 2)), (1, .int 17)]) hx hb dJ6_numberOfLeadingZeros_0f7a4_72 rfl hl (by decide) rfl (fun ls hl => ?_)
            refine lv_iload_n hx hb dJ6_numberOfLeadingZeros_0f7a4_73 rfl (lv_at hl 1 rfl) ?_
            refine lv_iload_n hx hb dJ6_numberOfLeadingZeros_0f7a4_74 rfl (lv_at hl 0 rfl) ?_
            refine lv_iconst (v := 1) hx hb dJ6_numberOfLeadingZeros_0f7a4_75 (by decide) ?_
            refine lv_iushr (v := (jiushr (jiushr (jiushr (jiushr i 8) 4) 2) 1)) hx hb dJ6_numberOfLeadingZeros_0f7a4_76 rfl ?_
            refine lv_isub hx hb dJ6_numberOfLeadingZeros_0f7a4_77 ?_
            have hw : J_nlz32 i = (17 - (jiushr (jiushr (jiushr (jiushr i 8) 4) 2) 1)) := by unfold J_nlz32; rw [if_pos c_1, if_pos c_2, if_neg c_3, if_neg c_7, if_neg c_9]; try rfl
            exact W.iret hx hb hr (fun t9 ht hW => ⟨_, rfl, hw.symm, ht⟩) t_nil dJ6_numberOfLeadingZeros_0f7a4_78
    · refine lv_iinc (v := 15) (lv' := [(1, .int 15), (0, .int i)]) hx hb dJ6_numberOfLeadingZeros_0f7a4_25 hl (k := 0) rfl rfl (by decide) rfl (fun ls hl => ?_)
      refine lv_iload_n hx hb dJ6_numberOfLeadingZeros_0f7a4_28 rfl (lv_at hl 1 rfl) ?_
      refine lv_bipush (v := 16) hx hb dJ6_numberOfLeadingZeros_0f7a4_29 (by decide) ?_
      refine lv_iushr (v := (jiushr i 16)) hx hb dJ6_numberOfLeadingZeros_0f7a4_31 rfl ?_
      refine lv_istore_n (lv' := [(0, .int (jiushr i 16)), (1, .int 15)]) hx hb dJ6_numberOfLeadingZeros_0f7a4_32 rfl hl (by decide) rfl (fun ls hl => ?_)
      refine lv_iload_n hx hb dJ6_numberOfLeadingZeros_0f7a4_33 rfl (lv_at hl 0 rfl) ?_
      refine lv_sipush (v := 256) hx hb dJ6_numberOfLeadingZeros_0f7a4_34 (by decide) ?_
      refine lv_icmp_lt (tgt := 48) hx hb dJ6_numberOfLeadingZeros_0f7a4_37 (by decide) (fun c_10 => ?_) (fun c_10 => ?_)
      · refine lv_iload_n hx hb dJ6_numberOfLeadingZeros_0f7a4_48 rfl (lv_at hl 0 rfl) ?_
        refine lv_bipush (v := 16) hx hb dJ6_numberOfLeadingZeros_0f7a4_49 (by decide) ?_
        refine lv_icmp_lt (tgt := 61) hx hb dJ6_numberOfLeadingZeros_0f7a4_51 (by decide) (fun c_11 => ?_) (fun c_11 => ?_)
        · refine lv_iload_n hx hb dJ6_numberOfLeadingZeros_0f7a4_61 rfl (lv_at hl 0 rfl) ?_
          refine lv_iconst (v := 4) hx hb dJ6_numberOfLeadingZeros_0f7a4_62 (by decide) ?_
          refine lv_icmp_lt (tgt := 73) hx hb dJ6_numberOfLeadingZeros_0f7a4_63 (by decide) (fun c_12 => ?_) (fun c_12 => ?_)
          · refine lv_iload_n hx hb dJ6_numberOfLeadingZeros_0f7a4_73 rfl (lv_at hl 1 rfl) ?_
            refine lv_iload_n hx hb dJ6_numberOfLeadingZeros_0f7a4_74 rfl (lv_at hl 0 rfl) ?_
            refine lv_iconst (v := 1) hx hb dJ6_numberOfLeadingZeros_0f7a4_75 (by decide) ?_
            refine lv_iushr (v := (jiushr (jiushr i 16) 1)) hx hb dJ6_numberOfLeadingZeros_0f7a4_76 rfl ?_
            refine lv_isub hx hb dJ6_numberOfLeadingZeros_0f7a4_77 ?_
            have hw : J_nlz32 i = (15 - (jiushr (jiushr i 16) 1)) := by unfold J_nlz32; rw [if_pos c_1, if_neg c_2, if_pos c_10, if_pos c_11, if_pos c_12]; try rfl
            exact W.iret hx hb hr (fun t9 ht hW => ⟨_, rfl, hw.symm, ht⟩) t_nil dJ6_numberOfLeadingZeros_0f7a4_78
          · refine lv_iinc (v := 13) (lv' := [(1, .int 13), (0, .int (jiushr i 16))]) hx hb dJ6_numberOfLeadingZeros_0f7a4_66 hl (k := 1) rfl rfl (by decide) rfl (fun ls hl => ?_)
            refine lv_iload_n hx hb dJ6_numberOfLeadingZeros_0f7a4_69 rfl (lv_at hl 1 rfl) ?_
            refine lv_iconst (v := 2) hx hb dJ6_numberOfLeadingZeros_0f7a4_70 (by decide) ?_
            refine lv_iushr (v := (jiushr (jiushr i 16) 2)) hx hb dJ6_numberOfLeadingZeros_0f7a4_71 rfl ?_
            refine lv_istore_n (lv' := [(0, .int (jiushr (jiushr i 16) 2)), (1, .int 13)]) hx hb dJ6_numberOfLeadingZeros_0f7a4_72 rfl hl (by decide) rfl (fun ls hl => ?_)
            refine lv_iload_n hx hb dJ6_numberOfLeadingZeros_0f7a4_73 rfl (lv_at hl 1 rfl) ?_
            refine lv_iload_n hx hb dJ6_numberOfLeadingZeros_0f7a4_74 rfl (lv_at hl 0 rfl) ?_
            refine lv_iconst (v := 1) hx hb dJ6_numberOfLeadingZeros_0f7a4_75 (by decide) ?_
            refine lv_iushr (v := (jiushr (jiushr (jiushr i 16) 2) 1)) hx hb dJ6_numberOfLeadingZeros_0f7a4_76 rfl ?_
            refine lv_isub hx hb dJ6_numberOfLeadingZeros_0f7a4_77 ?_
            have hw : J_nlz32 i = (13 - (jiushr (jiushr (jiushr i 16) 2) 1)) := by unfold J_nlz32; rw [if_pos c_1, if_neg c_2, if_pos c_10, if_pos c_11, if_neg c_12]; try rfl
            exact W.iret hx hb hr (fun t9 ht hW => ⟨_, rfl, hw.symm, ht⟩) t_nil dJ6_numberOfLeadingZeros_0f7a4_78
        · refine lv_iinc (v := 11) (lv' := [(1, .int 11), (0, .int (jiushr i 16))]) hx hb dJ6_numberOfLeadingZeros_0f7a4_54 hl (k := 1) rfl rfl (by decide) rfl (fun ls hl => ?_)
          refine lv_iload_n hx hb dJ6_numberOfLeadingZeros_0f7a4_57 rfl (lv_at hl 1 rfl) ?_
          refine lv_iconst (v := 4) hx hb dJ6_numberOfLeadingZeros_0f7a4_58 (by decide) ?_
          refine lv_iushr (v := (jiushr (jiushr i 16) 4)) hx hb dJ6_numberOfLeadingZeros_0f7a4_59 rfl ?_
          refine lv_istore_n (lv' := [(0, .int (jiushr (jiushr i 16) 4)), (1, .int 11)]) hx hb dJ6_numberOfLeadingZeros_0f7a4_60 rfl hl (by decide) rfl (fun ls hl => ?_)
          refine lv_iload_n hx hb dJ6_numberOfLeadingZeros_0f7a4_61 rfl (lv_at hl 0 rfl) ?_
          refine lv_iconst (v := 4) hx hb dJ6_numberOfLeadingZeros_0f7a4_62 (by decide) ?_
          refine lv_icmp_lt (tgt := 73) hx hb dJ6_numberOfLeadingZeros_0f7a4_63 (by decide) (fun c_13 => ?_) (fun c_13 => ?_)
          · refine lv_iload_n hx hb dJ6_numberOfLeadingZeros_0f7a4_73 rfl (lv_at hl 1 rfl) ?_
            refine lv_iload_n hx hb dJ6_numberOfLeadingZeros_0f7a4_74 rfl (lv_at hl 0 rfl) ?_
            refine lv_iconst (v := 1) hx hb dJ6_numberOfLeadingZeros_0f7a4_75 (by decide) ?_
            refine lv_iushr (v := (jiushr (jiushr (jiushr i 16) 4) 1)) hx hb dJ6_numberOfLeadingZeros_0f7a4_76 rfl ?_
            refine lv_isub hx hb dJ6_numberOfLeadingZeros_0f7a4_77 ?_
            have hw : J_nlz32 i = (11 - (jiushr (jiushr (jiushr i 16) 4) 1)) := by unfold J_nlz32; rw [if_pos c_1, if_neg c_2, if_pos c_10, if_neg c_11, if_pos c_13]; try rfl
            exact W.iret hx hb hr (fun t9 ht hW => ⟨_, rfl, hw.symm, ht⟩) t_nil dJ6_numberOfLeadingZeros_0f7a4_78
          · refine lv_iinc (v := 9) (lv' := [(1, .int 9), (0, .int (jiushr (jiushr i 16) 4))]) hx hb dJ6_numberOfLeadingZeros_0f7a4_66 hl (k := 1) rfl rfl (by decide) rfl (fun ls hl => ?_)
            refine lv_iload_n hx hb dJ6_numberOfLeadingZeros_0f7a4_69 rfl (lv_at hl 1 rfl) ?_
            refine lv_iconst (v := 2) hx hb dJ6_numberOfLeadingZeros_0f7a4_70 (by decide) ?_
            refine lv_iushr (v := (jiushr (jiushr (jiushr i 16) 4) 2)) hx hb dJ6_numberOfLeadingZeros_0f7a4_71 rfl ?_
            refine lv_istore_n (lv' := [(0, .int (jiushr (jiushr (jiushr i 16) 4) 2)), (1, .int 9)]) hx hb dJ6_numberOfLeadingZeros_0f7a4_72 rfl hl (by decide) rfl (fun ls hl => ?_)
            refine lv_iload_n hx hb dJ6_numberOfLeadingZeros_0f7a4_73 rfl (lv_at hl 1 rfl) ?_
            refine lv_iload_n hx hb dJ6_numberOfLeadingZeros_0f7a4_74 rfl (lv_at hl 0 rfl) ?_
            refine lv_iconst (v := 1) hx hb dJ6_numberOfLeadingZeros_0f7a4_75 (by decide) ?_
            refine lv_iushr (v := (jiushr (jiushr (jiushr (jiushr i 16) 4) 2) 1)) hx hb dJ6_numberOfLeadingZeros_0f7a4_76 rfl ?_
            refine lv_isub hx hb dJ6_numberOfLeadingZeros_0f7a4_77 ?_
            have hw : J_nlz32 i = (9 - (jiushr (jiushr (jiushr (jiushr i 16) 4) 2) 1)) := by unfold J_nlz32; rw [if_pos c_1, if_neg c_2, if_pos c_10, if_neg c_11, if_neg c_13]; try rfl
            exact W.iret hx hb hr (fun t9 ht hW => ⟨_, rfl, hw.symm, ht⟩) t_nil dJ6_numberOfLeadingZeros_0f7a4_78
      · refine lv_iinc (v := 7) (lv' := [(1, .int 7), (0, .int (jiushr i 16))]) hx hb dJ6_numberOfLeadingZeros_0f7a4_40 hl (k := 1) rfl rfl (by decide) rfl (fun ls hl => ?_)
        refine lv_iload_n hx hb dJ6_numberOfLeadingZeros_0f7a4_43 rfl (lv_at hl 1 rfl) ?_
        refine lv_bipush (v := 8) hx hb dJ6_numberOfLeadingZeros_0f7a4_44 (by decide) ?_
        refine lv_iushr (v := (jiushr (jiushr i 16) 8)) hx hb dJ6_numberOfLeadingZeros_0f7a4_46 rfl ?_
        refine lv_istore_n (lv' := [(0, .int (jiushr (jiushr i 16) 8)), (1, .int 7)]) hx hb dJ6_numberOfLeadingZeros_0f7a4_47 rfl hl (by decide) rfl (fun ls hl => ?_)
        refine lv_iload_n hx hb dJ6_numberOfLeadingZeros_0f7a4_48 rfl (lv_at hl 0 rfl) ?_
        refine lv_bipush (v := 16) hx hb dJ6_numberOfLeadingZeros_0f7a4_49 (by decide) ?_
        refine lv_icmp_lt (tgt := 61) hx hb dJ6_numberOfLeadingZeros_0f7a4_51 (by decide) (fun c_14 => ?_) (fun c_14 => ?_)
        · refine lv_iload_n hx hb dJ6_numberOfLeadingZeros_0f7a4_61 rfl (lv_at hl 0 rfl) ?_
          refine lv_iconst (v := 4) hx hb dJ6_numberOfLeadingZeros_0f7a4_62 (by decide) ?_
          refine lv_icmp_lt (tgt := 73) hx hb dJ6_numberOfLeadingZeros_0f7a4_63 (by decide) (fun c_15 => ?_) (fun c_15 => ?_)
          · refine lv_iload_n hx hb dJ6_numberOfLeadingZeros_0f7a4_73 rfl (lv_at hl 1 rfl) ?_
            refine lv_iload_n hx hb dJ6_numberOfLeadingZeros_0f7a4_74 rfl (lv_at hl 0 rfl) ?_
            refine lv_iconst (v := 1) hx hb dJ6_numberOfLeadingZeros_0f7a4_75 (by decide) ?_
            refine lv_iushr (v := (jiushr (jiushr (jiushr i 16) 8) 1)) hx hb dJ6_numberOfLeadingZeros_0f7a4_76 rfl ?_
            refine lv_isub hx hb dJ6_numberOfLeadingZeros_0f7a4_77 ?_
            have hw : J_nlz32 i = (7 - (jiushr (jiushr (jiushr i 16) 8) 1)) := by unfold J_nlz32; rw [if_pos c_1, if_neg c_2, if_neg c_10, if_pos c_14, if_pos c_15]; try rfl
            exact W.iret hx hb hr (fun t9 ht hW => ⟨_, rfl, hw.symm, ht⟩) t_nil dJ6_numberOfLeadingZeros_0f7a4_78
          · refine lv_iinc (v := 5) (lv' := [(1, .int 5), (0, .int (jiushr (jiushr i 16) 8))]) hx hb dJ6_numberOfLeadingZeros_0f7a4_66 hl (k := 1) rfl rfl (by decide) rfl (fun ls hl => ?_)
            refine lv_iload_n hx hb dJ6_numberOfLeadingZeros_0f7a4_69 rfl (lv_at hl 1 rfl) ?_
            refine lv_iconst (v := 2) hx hb dJ6_numberOfLeadingZeros_0f7a4_70 (by decide) ?_
            refine lv_iushr (v := (jiushr (jiushr (jiushr i 16) 8) 2)) hx hb dJ6_numberOfLeadingZeros_0f7a4_71 rfl ?_
            refine lv_istore_n (lv' := [(0, .int (jiushr (jiushr (jiushr i 16) 8) 2)), (1, .int 5)]) hx hb dJ6_numberOfLeadingZeros_0f7a4_72 rfl hl (by decide) rfl (fun ls hl => ?_)
            refine lv_iload_n hx hb dJ6_numberOfLeadingZeros_0f7a4_73 rfl (lv_at hl 1 rfl) ?_
            refine lv_iload_n hx hb dJ6_numberOfLeadingZeros_0f7a4_74 rfl (lv_at hl 0 rfl) ?_
            refine lv_iconst (v := 1) hx hb dJ6_numberOfLeadingZeros_0f7a4_75 (by decide) ?_
            refine lv_iushr (v := (jiushr (jiushr (jiushr (jiushr i 16) 8) 2) 1)) hx hb dJ6_numberOfLeadingZeros_0f7a4_76 rfl ?_
            refine lv_isub hx hb dJ6_numberOfLeadingZeros_0f7a4_77 ?_
            have hw : J_nlz32 i = (5 - (jiushr (jiushr (jiushr (jiushr i 16) 8) 2) 1)) := by unfold J_nlz32; rw [if_pos c_1, if_neg c_2, if_neg c_10, if_pos c_14, if_neg c_15]; try rfl
            exact W.iret hx hb hr (fun t9 ht hW => ⟨_, rfl, hw.symm, ht⟩) t_nil dJ6_numberOfLeadingZeros_0f7a4_78
        · refine lv_iinc (v := 3) (lv' := [(1, .int 3), (0, .int (jiushr (jiushr i 16) 8))]) hx hb dJ6_numberOfLeadingZeros_0f7a4_54 hl (k := 1) rfl rfl (by decide) rfl (fun ls hl => ?_)
          refine lv_iload_n hx hb dJ6_numberOfLeadingZeros_0f7a4_57 rfl (lv_at hl 1 rfl) ?_
          refine lv_iconst (v := 4) hx hb dJ6_numberOfLeadingZeros_0f7a4_58 (by decide) ?_
          refine lv_iushr (v := (jiushr (jiushr (jiushr i 16) 8) 4)) hx hb dJ6_numberOfLeadingZeros_0f7a4_59 rfl ?_
          refine lv_istore_n (lv' := [(0, .int (jiushr (jiushr (jiushr i 16) 8) 4)), (1, .int 3)]) hx hb dJ6_numberOfLeadingZeros_0f7a4_60 rfl hl (by decide) rfl (fun ls hl => ?_)
          refine lv_iload_n hx hb dJ6_numberOfLeadingZeros_0f7a4_61 rfl (lv_at hl 0 rfl) ?_
          refine lv_iconst (v := 4) hx hb dJ6_numberOfLeadingZeros_0f7a4_62 (by decide) ?_
          refine lv_icmp_lt (tgt := 73) hx hb dJ6_numberOfLeadingZeros_0f7a4_63 (by decide) (fun c_16 => ?_) (fun c_16 => ?_)
          · refine lv_iload_n hx hb dJ6_numberOfLeadingZeros_0f7a4_73 rfl (lv_at hl 1 rfl) ?_
            refine lv_iload_n hx hb dJ6_numberOfLeadingZeros_0f7a4_74 rfl (lv_at hl 0 rfl) ?_
            refine lv_iconst (v := 1) hx hb dJ6_numberOfLeadingZeros_0f7a4_75 (by decide) ?_
            refine lv_iushr (v := (jiushr (jiushr (jiushr (jiushr i 16) 8) 4) 1)) hx hb dJ6_numberOfLeadingZeros_0f7a4_76 rfl ?_
            refine lv_isub hx hb dJ6_numberOfLeadingZeros_0f7a4_77 ?_
            have hw : J_nlz32 i = (3 - (jiushr (jiushr (jiushr (jiushr i 16) 8) 4) 1)) := by unfold J_nlz32; rw [if_pos c_1, if_neg c_2, if_neg c_10, if_neg c_14, if_pos c_16]; try rfl
            exact W.iret hx hb hr (fun t9 ht hW => ⟨_, rfl, hw.symm, ht⟩) t_nil dJ6_numberOfLeadingZeros_0f7a4_78
          · refine lv_iinc (v := 1) (lv' := [(1, .int 1), (0, .int (jiushr (jiushr (jiushr i 16) 8) 4))]) hx hb dJ6_numberOfLeadingZeros_0f7a4_66 hl (k := 1) rfl rfl (by decide) rfl (fun ls hl => ?_)
            refine lv_iload_n hx hb dJ6_numberOfLeadingZeros_0f7a4_69 rfl (lv_at hl 1 rfl) ?_
            refine lv_iconst (v := 2) hx hb dJ6_numberOfLeadingZeros_0f7a4_70 (by decide) ?_
            refine lv_iushr (v := (jiushr (jiushr (jiushr (jiushr i 16) 8) 4) 2)) hx hb dJ6_numberOfLeadingZeros_0f7a4_71 rfl ?_
            refine lv_istore_n (lv' := [(0, .int (jiushr (jiushr (jiushr (jiushr i 16) 8) 4) 2)), (1, .int 1)]) hx hb dJ6_numberOfLeadingZeros_0f7a4_72 rfl hl (by decide) rfl (fun ls hl => ?_)
            refine lv_iload_n hx hb dJ6_numberOfLeadingZeros_0f7a4_73 rfl (lv_at hl 1 rfl) ?_
            refine lv_iload_n hx hb dJ6_numberOfLeadingZeros_0f7a4_74 rfl (lv_at hl 0 rfl) ?_
            refine lv_iconst (v := 1) hx hb dJ6_numberOfLeadingZeros_0f7a4_75 (by decide) ?_
            refine lv_iushr (v := (jiushr (jiushr (jiushr (jiushr (jiushr i 16) 8) 4) 2) 1)) hx hb dJ6_numberOfLeadingZeros_0f7a4_76 rfl ?_
            refine lv_isub hx hb dJ6_numberOfLeadingZeros_0f7a4_77 ?_
            have hw : J_nlz32 i = (1 - (jiushr (jiushr (jiushr (jiushr (jiushr i 16) 8) 4) 2) 1)) := by unfold J_nlz32; rw [if_pos c_1, if_neg c_2, if_neg c_10, if_neg c_14, if_neg c_16]; try rfl
            exact W.iret hx hb hr (fun t9 ht hW => ⟨_, rfl, hw.symm, ht⟩) t_nil dJ6_numberOfLeadingZeros_0f7a4_78
  · refine lv_iload_n hx hb dJ6_numberOfLeadingZeros_0f7a4_4 rfl (lv_at hl 0 rfl) ?_
    refine q_cut (v := (if i = 0 then 32 else 0)) (pcJ := 14) (rest := []) (fun J => ?_) ?_
    · refine lv_if_ne (tgt := 13) hx hb dJ6_numberOfLeadingZeros_0f7a4_5 (by decide) (fun c_17 => ?_) (fun c_17 => ?_)
      · refine lv_iconst (v := 0) hx hb dJ6_numberOfLeadingZeros_0f7a4_13 (by decide) ?_
        exact J _ (by rw [if_neg c_17]; try rfl)
      · refine lv_bipush (v := 32) hx hb dJ6_numberOfLeadingZeros_0f7a4_8 (by decide) ?_
        refine lv_goto (tgt := 14) hx hb dJ6_numberOfLeadingZeros_0f7a4_10 (by decide) ?_
        exact J _ (by rw [if_pos c_17]; try rfl)
    have hw : J_nlz32 i = (if i = 0 then 32 else 0) := by unfold J_nlz32; rw [if_neg c_1]; try rfl
    exact W.iret hx hb hr (fun t9 ht hW => ⟨_, rfl, hw.symm, ht⟩) t_nil dJ6_numberOfLeadingZeros_0f7a4_14
def J_nlz64 (i : Int64) : Int32 :=
  (if ((jlushr i 32)).toInt32 = 0 then (32 + (J_nlz32 ((i).toInt32))) else (J_nlz32 (((jlushr i 32)).toInt32)))
theorem kS_J13_numberOfLeadingZeros_95d88 : yJ13_numberOfLeadingZeros_95d88.cls ≠ "java/lang/invoke/MethodHandle" ∧ yJ13_numberOfLeadingZeros_95d88.cls ≠ "java/lang/invoke/VarHandle" ∧ (parseMethodDescriptor yJ13_numberOfLeadingZeros_95d88.desc).map (fun d => d.parameters.length) = some 1 := by decide +kernel
set_option maxHeartbeats 4000000 in
set_option maxRecDepth 100000 in
theorem c_J13_numberOfLeadingZeros_95d88 (l : Launch) (i : Int64) : Met l yJ13_numberOfLeadingZeros_95d88 wsJ13_numberOfLeadingZeros_95d88 ({ frames := 1, cells := 0, slots := 0, locals := 21 } : Room) (va_Pc [.long i] (fun _ => True)) (vp_Si (fun r => r = J_nlz64 i)) 0 0 (fun _ => False) := by
  refine Met.ofW (cc := cJ13_numberOfLeadingZeros_95d88) (maxL := 3) (ret := (some .int)) (by decide) rfl ?_
  intro p e s m args below meth c s₁ B hml hv
  obtain ⟨rfl, -⟩ := hv
  have hx := B.exec
  have hb := B.bytes
  have hr := B.returns
  have hts := atoms_spec (ws := wsJ13_numberOfLeadingZeros_95d88) B.pre
  have hown : s.vm.findClass RJ13 = some m.cls := findClass_of_methodNamed B.named
  have hlocks := B.notSynchronized
  have hl := lv_entry ([.long i]) (n := 3) (Nat.le_of_ble_eq_true rfl)
  rw [lg_entry_eq]
  generalize (lg_sl ([.long i]) ++ List.replicate (3 - (lg_sl ([.long i])).length) Slot.unset).toArray = ls at hl ⊢
  have hl : lv_has ls 3 [(0, .long i)] := hl
  refine lv_lload_n hx hb dJ13_numberOfLeadingZeros_95d88_0 rfl (lv_at hl 0 rfl) ?_
  refine lv_bipush (v := 32) hx hb dJ13_numberOfLeadingZeros_95d88_1 (by decide) ?_
  refine lv_lushr (v := (jlushr i 32)) hx hb dJ13_numberOfLeadingZeros_95d88_3 rfl ?_
  refine lv_l2i (v := ((jlushr i 32)).toInt32) hx hb dJ13_numberOfLeadingZeros_95d88_4 rfl ?_
  refine lv_istore_n (lv' := [(2, .int (((jlushr i 32)).toInt32)), (0, .long i)]) hx hb dJ13_numberOfLeadingZeros_95d88_5 rfl hl (by decide) rfl (fun ls hl => ?_)
  refine lv_iload_n hx hb dJ13_numberOfLeadingZeros_95d88_6 rfl (lv_at hl 0 rfl) ?_
  refine q_cut (v := (if ((jlushr i 32)).toInt32 = 0 then (32 + (J_nlz32 ((i).toInt32))) else (J_nlz32 (((jlushr i 32)).toInt32)))) (pcJ := 25) (rest := []) (fun J => ?_) ?_
  · refine lv_if_ne (tgt := 21) hx hb dJ13_numberOfLeadingZeros_95d88_7 (by decide) (fun c_1 => ?_) (fun c_1 => ?_)
    · refine lv_iload_n hx hb dJ13_numberOfLeadingZeros_95d88_21 rfl (lv_at hl 0 rfl) ?_
      refine vp_callSi (va_cr (va_runS (As := [.int (((jlushr i 32)).toInt32)]) (rest := []) ⟨hx, hb, hml, hown, hts⟩ (c_J6_numberOfLeadingZeros_0f7a4 l (((jlushr i 32)).toInt32)) (va_cwS 1 hts gJ13_numberOfLeadingZeros_95d88_J6_numberOfLeadingZeros_0f7a4 rfl rfl rfl kS_J6_numberOfLeadingZeros_0f7a4 ⟨Nat.le_of_ble_eq_true rfl, Nat.le_of_ble_eq_true rfl⟩) ⟨TB.blind, TB.pre⟩ rfl rfl hl.1 rfl (lv_room (Nat.le_of_ble_eq_true rfl)) dJ13_numberOfLeadingZeros_95d88_22 ⟨Nat.le_of_ble_eq_true rfl, Nat.le_of_ble_eq_true rfl⟩)) (fun r9 e9 => ?_)
      rw [e9]
      exact J _ (by rw [if_neg c_1]; try rfl)
    · refine lv_bipush (v := 32) hx hb dJ13_numberOfLeadingZeros_95d88_10 (by decide) ?_
      refine lv_lload_n hx hb dJ13_numberOfLeadingZeros_95d88_12 rfl (lv_at hl 1 rfl) ?_
      refine lv_l2i (v := (i).toInt32) hx hb dJ13_numberOfLeadingZeros_95d88_13 rfl ?_
      refine vp_callSi (va_cr (va_runS (As := [.int ((i).toInt32)]) (rest := [.int 32]) ⟨hx, hb, hml, hown, hts⟩ (c_J6_numberOfLeadingZeros_0f7a4 l ((i).toInt32)) (va_cwS 1 hts gJ13_numberOfLeadingZeros_95d88_J6_numberOfLeadingZeros_0f7a4 rfl rfl rfl kS_J6_numberOfLeadingZeros_0f7a4 ⟨Nat.le_of_ble_eq_true rfl, Nat.le_of_ble_eq_true rfl⟩) ⟨TB.blind, TB.pre⟩ rfl rfl hl.1 rfl (lv_room (Nat.le_of_ble_eq_true rfl)) dJ13_numberOfLeadingZeros_95d88_14 ⟨Nat.le_of_ble_eq_true rfl, Nat.le_of_ble_eq_true rfl⟩)) (fun r9 e9 => ?_)
      rw [e9]
      refine lv_iadd hx hb dJ13_numberOfLeadingZeros_95d88_17 ?_
      refine lv_goto (tgt := 25) hx hb dJ13_numberOfLeadingZeros_95d88_18 (by decide) ?_
      exact J _ (by rw [if_pos c_1]; try rfl)
  have hw : J_nlz64 i = (if ((jlushr i 32)).toInt32 = 0 then (32 + (J_nlz32 ((i).toInt32))) else (J_nlz32 (((jlushr i 32)).toInt32))) := rfl
  exact W.iret hx hb hr (fun t9 ht hW => ⟨_, rfl, hw.symm, ht⟩) t_nil dJ13_numberOfLeadingZeros_95d88_25
def J_cmp (i : Int64) (j : Int64) : Int32 :=
  (if i < j then (-1) else (if i = j then 0 else 1))
theorem kS_J13_compare_74951 : yJ13_compare_74951.cls ≠ "java/lang/invoke/MethodHandle" ∧ yJ13_compare_74951.cls ≠ "java/lang/invoke/VarHandle" ∧ (parseMethodDescriptor yJ13_compare_74951.desc).map (fun d => d.parameters.length) = some 2 := by decide +kernel
set_option maxHeartbeats 4000000 in
set_option maxRecDepth 100000 in
theorem c_J13_compare_74951 (l : Launch) (i : Int64) (j : Int64) : Met l yJ13_compare_74951 wsJ13_compare_74951 ({ frames := 0, cells := 0, slots := 0, locals := 0 } : Room) (va_Pc [.long i, .long j] (fun _ => True)) (vp_Si (fun r => r = J_cmp i j)) 0 0 (fun _ => False) := by
  refine Met.ofW (cc := cJ13_compare_74951) (maxL := 4) (ret := (some .int)) (by decide) rfl ?_
  intro p e s m args below meth c s₁ B hml hv
  obtain ⟨rfl, -⟩ := hv
  have hx := B.exec
  have hb := B.bytes
  have hr := B.returns
  have hts := atoms_spec (ws := wsJ13_compare_74951) B.pre
  have hown : s.vm.findClass RJ13 = some m.cls := findClass_of_methodNamed B.named
  have hlocks := B.notSynchronized
  have hl := lv_entry ([.long i, .long j]) (n := 4) (Nat.le_of_ble_eq_true rfl)
  rw [lg_entry_eq]
  generalize (lg_sl ([.long i, .long j]) ++ List.replicate (4 - (lg_sl ([.long i, .long j])).length) Slot.unset).toArray = ls at hl ⊢
  have hl : lv_has ls 4 [(0, .long i), (2, .long j)] := hl
  refine lv_lload_n hx hb dJ13_compare_74951_0 rfl (lv_at hl 0 rfl) ?_
  refine lv_lload_n hx hb dJ13_compare_74951_1 rfl (lv_at hl 1 rfl) ?_
  refine q_cut (v := (if i < j then (-1) else (if i = j then 0 else 1))) (pcJ := 21) (rest := []) (fun J => ?_) ?_
  · refine q_cl_ge (tgt := 10) hx hb dJ13_compare_74951_2 dJ13_compare_74951_3 (by decide) (fun c_1 => ?_) (fun c_1 => ?_)
    · refine lv_lload_n hx hb dJ13_compare_74951_10 rfl (lv_at hl 0 rfl) ?_
      refine lv_lload_n hx hb dJ13_compare_74951_11 rfl (lv_at hl 1 rfl) ?_
      refine q_cl_ne (tgt := 20) hx hb dJ13_compare_74951_12 dJ13_compare_74951_13 (by decide) (fun c_2 => ?_) (fun c_2 => ?_)
      · refine lv_iconst (v := 1) hx hb dJ13_compare_74951_20 (by decide) ?_
        exact J _ (by rw [if_neg c_1, if_neg c_2]; try rfl)
      · refine lv_iconst (v := 0) hx hb dJ13_compare_74951_16 (by decide) ?_
        refine lv_goto (tgt := 21) hx hb dJ13_compare_74951_17 (by decide) ?_
        exact J _ (by rw [if_neg c_1, if_pos c_2]; try rfl)
    · refine lv_iconst (v := (-1)) hx hb dJ13_compare_74951_6 (by decide) ?_
      refine lv_goto (tgt := 21) hx hb dJ13_compare_74951_7 (by decide) ?_
      exact J _ (by rw [if_pos c_1]; try rfl)
  have hw : J_cmp i j = (if i < j then (-1) else (if i = j then 0 else 1)) := rfl
  exact W.iret hx hb hr (fun t9 ht hW => ⟨_, rfl, hw.symm, ht⟩) t_nil dJ13_compare_74951_21
def J_cmpU (i : Int64) (j : Int64) : Int32 :=
  (J_cmp (i + (-9223372036854775808)) (j + (-9223372036854775808)))
theorem kS_J13_compareUnsigned_74951 : yJ13_compareUnsigned_74951.cls ≠ "java/lang/invoke/MethodHandle" ∧ yJ13_compareUnsigned_74951.cls ≠ "java/lang/invoke/VarHandle" ∧ (parseMethodDescriptor yJ13_compareUnsigned_74951.desc).map (fun d => d.parameters.length) = some 2 := by decide +kernel
set_option maxHeartbeats 4000000 in
set_option maxRecDepth 100000 in
theorem c_J13_compareUnsigned_74951 (l : Launch) (i : Int64) (j : Int64) : Met l yJ13_compareUnsigned_74951 wsJ13_compareUnsigned_74951 ({ frames := 1, cells := 0, slots := 0, locals := 23 } : Room) (va_Pc [.long i, .long j] (fun _ => True)) (vp_Si (fun r => r = J_cmpU i j)) 0 0 (fun _ => False) := by
  refine Met.ofW (cc := cJ13_compareUnsigned_74951) (maxL := 4) (ret := (some .int)) (by decide) rfl ?_
  intro p e s m args below meth c s₁ B hml hv
  obtain ⟨rfl, -⟩ := hv
  have hx := B.exec
  have hb := B.bytes
  have hr := B.returns
  have hts := atoms_spec (ws := wsJ13_compareUnsigned_74951) B.pre
  have hown : s.vm.findClass RJ13 = some m.cls := findClass_of_methodNamed B.named
  have hlocks := B.notSynchronized
  have w_1 := hts (.constantLong RJ13 168 (-9223372036854775808)) (by decide +kernel)
  have hl := lv_entry ([.long i, .long j]) (n := 4) (Nat.le_of_ble_eq_true rfl)
  rw [lg_entry_eq]
  generalize (lg_sl ([.long i, .long j]) ++ List.replicate (4 - (lg_sl ([.long i, .long j])).length) Slot.unset).toArray = ls at hl ⊢
  have hl : lv_has ls 4 [(0, .long i), (2, .long j)] := hl
  refine lv_lload_n hx hb dJ13_compareUnsigned_74951_0 rfl (lv_at hl 0 rfl) ?_
  refine lv_ldc2 (v := (-9223372036854775808)) hx hb hown w_1 dJ13_compareUnsigned_74951_1 ?_
  refine lv_ladd hx hb dJ13_compareUnsigned_74951_4 ?_
  refine lv_lload_n hx hb dJ13_compareUnsigned_74951_5 rfl (lv_at hl 1 rfl) ?_
  refine lv_ldc2 (v := (-9223372036854775808)) hx hb hown w_1 dJ13_compareUnsigned_74951_6 ?_
  refine lv_ladd hx hb dJ13_compareUnsigned_74951_9 ?_
  refine vp_callSi (va_cr (va_runS (As := [.long (i + (-9223372036854775808)), .long (j + (-9223372036854775808))]) (rest := []) ⟨hx, hb, hml, hown, hts⟩ (c_J13_compare_74951 l (i + (-9223372036854775808)) (j + (-9223372036854775808))) (va_cwS 2 hts gJ13_compareUnsigned_74951_J13_compare_74951 rfl rfl rfl kS_J13_compare_74951 ⟨Nat.le_of_ble_eq_true rfl, Nat.le_of_ble_eq_true rfl⟩) ⟨TB.blind, TB.pre⟩ rfl rfl hl.1 rfl (lv_room (Nat.le_of_ble_eq_true rfl)) dJ13_compareUnsigned_74951_10 ⟨Nat.le_of_ble_eq_true rfl, Nat.le_of_ble_eq_true rfl⟩)) (fun r9 e9 => ?_)
  rw [e9]
  have hw : J_cmpU i j = (J_cmp (i + (-9223372036854775808)) (j + (-9223372036854775808))) := rfl
  exact W.iret hx hb hr (fun t9 ht hW => ⟨_, rfl, hw.symm, ht⟩) t_nil dJ13_compareUnsigned_74951_13
def R_neg (t : Int32) : Bool :=
  (if (t &&& 32768) = 0 then false else true)
theorem kS_X1_isNegative : yX1_isNegative.cls ≠ "java/lang/invoke/MethodHandle" ∧ yX1_isNegative.cls ≠ "java/lang/invoke/VarHandle" ∧ (parseMethodDescriptor yX1_isNegative.desc).map (fun d => d.parameters.length) = some 0 := by decide +kernel
theorem kV_X1_isNegative : yX1_isNegative.cls = RX1 ∧ yX1_isNegative.cls ≠ "java/lang/invoke/MethodHandle" ∧ yX1_isNegative.cls ≠ "java/lang/invoke/VarHandle" ∧ (parseMethodDescriptor yX1_isNegative.desc).map (fun d => d.parameters.length) = some 0 := ⟨rfl, kS_X1_isNegative⟩
set_option maxHeartbeats 4000000 in
set_option maxRecDepth 100000 in
theorem c_X1_isNegative (l : Launch) (D : va_G) (ad : Nat → Nat) (x : Nat) (t : Int32) (f : Int64) : Met l yX1_isNegative wsX1_isNegative ({ frames := 0, cells := 0, slots := 0, locals := 0 } : Room) (va_Pc [.ref x] (EB D [] ad [cReal x t f])) (vp_Si (fun r => r = bI (R_neg t))) 0 0 (fun _ => False) := by
  refine Met.ofW (cc := cX1_isNegative) (maxL := 1) (ret := (some .boolean)) (by decide) rfl ?_
  intro p e s m args below meth c s₁ B hml hv
  obtain ⟨rfl, hP, hK, hE⟩ := hv
  have hx := B.exec
  have hb := B.bytes
  have hr := B.returns
  have hts := atoms_spec (ws := wsX1_isNegative) B.pre
  have hown : s.vm.findClass RX1 = some m.cls := findClass_of_methodNamed B.named
  have hlocks := B.notSynchronized
  have w_1 := hts (.fieldLink RX1 9 "RealSteps$Real" "top" "I") (by decide +kernel)
  have in_X1 : ∀ w ∈ wsX10, w ∈ wsX1_isNegative := by decide +kernel
  have w_3 := hts (.constant RX1 19 (32768)) (by decide +kernel)
  have hS : va_S (fun _ : Nat => False) s.heap s.heap [] := va_S.rf
  have hl := lv_entry ([.ref x]) (n := 1) (Nat.le_of_ble_eq_true rfl)
  rw [lg_entry_eq]
  generalize (lg_sl ([.ref x]) ++ List.replicate (1 - (lg_sl ([.ref x])).length) Slot.unset).toArray = ls at hl ⊢
  have hl : lv_has ls 1 [(0, .ref x)] := hl
  refine lv_aload_n hx hb dX1_isNegative_0 rfl (lv_at hl 0 rfl) ?_
  refine va_get (v := .int t) (C := RX1) (T := TX1) (N := 2) hx hb hts in_X1 hown hK hP 0 rfl rfl 0 (by decide) w_1 (fun _ h9 => h9) rfl dX1_isNegative_1 ?_
  refine lv_ldc (v := 32768) hx hb hown w_3 dX1_isNegative_4 ?_
  refine lv_iand hx hb dX1_isNegative_6 ?_
  refine q_cut (v := bI (if (t &&& 32768) = 0 then false else true)) (pcJ := 15) (rest := []) (fun J => ?_) ?_
  · refine lv_if_eq (tgt := 14) hx hb dX1_isNegative_7 (by decide) (fun c_1 => ?_) (fun c_1 => ?_)
    · refine lv_iconst (v := 0) hx hb dX1_isNegative_14 (by decide) ?_
      exact J _ (by rw [if_pos c_1]; try rfl)
    · refine lv_iconst (v := 1) hx hb dX1_isNegative_10 (by decide) ?_
      refine lv_goto (tgt := 15) hx hb dX1_isNegative_11 (by decide) ?_
      exact J _ (by rw [if_neg c_1]; try rfl)
  have hw : R_neg t = (if (t &&& 32768) = 0 then false else true) := rfl
  exact W.zret hx hb hr (bI_nar _) (fun t9 ht hW => ⟨_, rfl, (congrArg bI hw).symm, ht⟩) t_nil dX1_isNegative_15
def R_pow (t : Int32) : Int32 :=
  (t &&& 32767)
theorem kS_X1_power : yX1_power.cls ≠ "java/lang/invoke/MethodHandle" ∧ yX1_power.cls ≠ "java/lang/invoke/VarHandle" ∧ (parseMethodDescriptor yX1_power.desc).map (fun d => d.parameters.length) = some 0 := by decide +kernel
theorem kV_X1_power : yX1_power.cls = RX1 ∧ yX1_power.cls ≠ "java/lang/invoke/MethodHandle" ∧ yX1_power.cls ≠ "java/lang/invoke/VarHandle" ∧ (parseMethodDescriptor yX1_power.desc).map (fun d => d.parameters.length) = some 0 := ⟨rfl, kS_X1_power⟩
set_option maxHeartbeats 4000000 in
set_option maxRecDepth 100000 in
theorem c_X1_power (l : Launch) (D : va_G) (ad : Nat → Nat) (x : Nat) (t : Int32) (f : Int64) : Met l yX1_power wsX1_power ({ frames := 0, cells := 0, slots := 0, locals := 0 } : Room) (va_Pc [.ref x] (EB D [] ad [cReal x t f])) (vp_Si (fun r => r = R_pow t)) 0 0 (fun _ => False) := by
  refine Met.ofW (cc := cX1_power) (maxL := 1) (ret := (some .int)) (by decide) rfl ?_
  intro p e s m args below meth c s₁ B hml hv
  obtain ⟨rfl, hP, hK, hE⟩ := hv
  have hx := B.exec
  have hb := B.bytes
  have hr := B.returns
  have hts := atoms_spec (ws := wsX1_power) B.pre
  have hown : s.vm.findClass RX1 = some m.cls := findClass_of_methodNamed B.named
  have hlocks := B.notSynchronized
  have w_1 := hts (.fieldLink RX1 9 "RealSteps$Real" "top" "I") (by decide +kernel)
  have in_X1 : ∀ w ∈ wsX10, w ∈ wsX1_power := by decide +kernel
  have hS : va_S (fun _ : Nat => False) s.heap s.heap [] := va_S.rf
  have hl := lv_entry ([.ref x]) (n := 1) (Nat.le_of_ble_eq_true rfl)
  rw [lg_entry_eq]
  generalize (lg_sl ([.ref x]) ++ List.replicate (1 - (lg_sl ([.ref x])).length) Slot.unset).toArray = ls at hl ⊢
  have hl : lv_has ls 1 [(0, .ref x)] := hl
  refine lv_aload_n hx hb dX1_power_0 rfl (lv_at hl 0 rfl) ?_
  refine va_get (v := .int t) (C := RX1) (T := TX1) (N := 2) hx hb hts in_X1 hown hK hP 0 rfl rfl 0 (by decide) w_1 (fun _ h9 => h9) rfl dX1_power_1 ?_
  refine lv_sipush (v := 32767) hx hb dX1_power_4 (by decide) ?_
  refine lv_iand hx hb dX1_power_7 ?_
  have hw : R_pow t = (t &&& 32767) := rfl
  exact W.iret hx hb hr (fun t9 ht hW => ⟨_, rfl, hw.symm, ht⟩) t_nil dX1_power_8
def R_kind (t : Int32) (f : Int64) : Nat :=
  if (R_pow t) = 0 then (if f = 0 then 0
    else 1)
  else if (R_pow t) = 32767 then (if (jlshl f 1) = 0 then 4
    else 5)
  else if f < 0 then 3
  else 2
theorem kS_X1_kind : yX1_kind.cls ≠ "java/lang/invoke/MethodHandle" ∧ yX1_kind.cls ≠ "java/lang/invoke/VarHandle" ∧ (parseMethodDescriptor yX1_kind.desc).map (fun d => d.parameters.length) = some 0 := by decide +kernel
theorem kV_X1_kind : yX1_kind.cls = RX1 ∧ yX1_kind.cls ≠ "java/lang/invoke/MethodHandle" ∧ yX1_kind.cls ≠ "java/lang/invoke/VarHandle" ∧ (parseMethodDescriptor yX1_kind.desc).map (fun d => d.parameters.length) = some 0 := ⟨rfl, kS_X1_kind⟩
set_option maxHeartbeats 4000000 in
set_option maxRecDepth 100000 in
theorem c_X1_kind (l : Launch) (D : va_G) (ad : Nat → Nat) (x : Nat) (t : Int32) (f : Int64) : Met l yX1_kind wsX1_kind ({ frames := 1, cells := 0, slots := 0, locals := 20 } : Room) (va_Pc [.ref x] (EB D [] ad [cReal x t f])) (va_Se ad (fun r => r = some (R_kind t f))) 0 0 (fun _ => False) := by
  refine Met.ofW (cc := cX1_kind) (maxL := 2) (ret := (some (.object "RealSteps$Kind"))) (by decide) rfl ?_
  intro p e s m args below meth c s₁ B hml hv
  obtain ⟨rfl, hP, hK, hE⟩ := hv
  have hx := B.exec
  have hb := B.bytes
  have hr := B.returns
  have hts := atoms_spec (ws := wsX1_kind) B.pre
  have hown : s.vm.findClass RX1 = some m.cls := findClass_of_methodNamed B.named
  have hlocks := B.notSynchronized
  have w_1 := hts (.fieldLink RX1 15 "RealSteps$Real" "fraction" "J") (by decide +kernel)
  have in_X1 : ∀ w ∈ wsX10, w ∈ wsX1_kind := by decide +kernel
  have w_3 := hts (.fieldLink RX1 42 "RealSteps$Kind" "UNNORMAL" "LRealSteps$Kind;") (by decide +kernel)
  have w_4 := hts (.fieldLink RX1 39 "RealSteps$Kind" "NORMAL" "LRealSteps$Kind;") (by decide +kernel)
  have w_5 := hts (.fieldLink RX1 36 "RealSteps$Kind" "NO_NUMBER" "LRealSteps$Kind;") (by decide +kernel)
  have w_6 := hts (.fieldLink RX1 33 "RealSteps$Kind" "INFINITE" "LRealSteps$Kind;") (by decide +kernel)
  have w_7 := hts (.fieldLink RX1 30 "RealSteps$Kind" "DENORMAL" "LRealSteps$Kind;") (by decide +kernel)
  have w_8 := hts (.fieldLink RX1 24 "RealSteps$Kind" "ZERO" "LRealSteps$Kind;") (by decide +kernel)
  have hS : va_S (fun _ : Nat => False) s.heap s.heap [] := va_S.rf
  have hl := lv_entry ([.ref x]) (n := 2) (Nat.le_of_ble_eq_true rfl)
  rw [lg_entry_eq]
  generalize (lg_sl ([.ref x]) ++ List.replicate (2 - (lg_sl ([.ref x])).length) Slot.unset).toArray = ls at hl ⊢
  have hl : lv_has ls 2 [(0, .ref x)] := hl
  refine lv_aload_n hx hb dX1_kind_0 rfl (lv_at hl 0 rfl) ?_
  refine vp_callSi (va_cr (va_runV (As := []) (rest := []) ⟨hx, hb, hml, hown, hts⟩ (c_X1_power l D ad x t f) (cwV 0 hts gX1_kind_X1_power rfl rfl rfl kV_X1_power ⟨Nat.le_of_ble_eq_true rfl, Nat.le_of_ble_eq_true rfl⟩) ⟨EB.blind, va_recv hK hP (ci := 0) (q0 := 0) rfl rfl, EB.pre (hK.sub [] rfl) (hP.sub [0] rfl) hE hS⟩ rfl rfl hl.1 rfl (lv_room (Nat.le_of_ble_eq_true rfl)) dX1_kind_1 ⟨Nat.le_of_ble_eq_true rfl, Nat.le_of_ble_eq_true rfl⟩)) (fun r9 e9 => ?_)
  rw [e9]
  refine lv_istore_n (lv' := [(1, .int (R_pow t)), (0, .ref x)]) hx hb dX1_kind_4 rfl hl (by decide) rfl (fun ls hl => ?_)
  refine lv_iload_n hx hb dX1_kind_5 rfl (lv_at hl 0 rfl) ?_
  refine lv_if_ne (tgt := 28) hx hb dX1_kind_6 (by decide) (fun c_1 => ?_) (fun c_1 => ?_)
  · refine lv_iload_n hx hb dX1_kind_28 rfl (lv_at hl 0 rfl) ?_
    refine lv_sipush (v := 32767) hx hb dX1_kind_29 (by decide) ?_
    refine lv_icmp_ne (tgt := 56) hx hb dX1_kind_32 (by decide) (fun c_2 => ?_) (fun c_2 => ?_)
    · refine lv_aload_n hx hb dX1_kind_56 rfl (lv_at hl 1 rfl) ?_
      refine va_get (v := .long f) (C := RX1) (T := TX1) (N := 2) hx hb hts in_X1 hown hK hP 0 rfl rfl 1 (by decide) w_1 (fun _ h9 => h9) rfl dX1_kind_57 ?_
      refine lv_lconst (v := 0) hx hb dX1_kind_60 (by decide) ?_
      refine q_cl_ge (tgt := 71) hx hb dX1_kind_61 dX1_kind_62 (by decide) (fun c_3 => ?_) (fun c_3 => ?_)
      · refine va_gets (v := .ref (ad 2)) hx hb (hE.1.1 2 (by decide)).1 hS hown w_3 (fun _ h9 => h9) dX1_kind_71 ?_
        have hw : R_kind t f = 2 := by unfold R_kind; rw [if_neg c_1, if_neg c_2, if_neg c_3]; try rfl
        exact W.aret hx hb hr (Or.inl ⟨_, rfl⟩) (Or.inr ⟨_, rfl⟩) (fun t9 ht hW => ⟨some (2), rfl, (congrArg some hw).symm, ht⟩) t_nil dX1_kind_74
      · refine va_gets (v := .ref (ad 3)) hx hb (hE.1.1 3 (by decide)).1 hS hown w_4 (fun _ h9 => h9) dX1_kind_65 ?_
        refine lv_goto (tgt := 74) hx hb dX1_kind_68 (by decide) ?_
        have hw : R_kind t f = 3 := by unfold R_kind; rw [if_neg c_1, if_neg c_2, if_pos c_3]; try rfl
        exact W.aret hx hb hr (Or.inl ⟨_, rfl⟩) (Or.inr ⟨_, rfl⟩) (fun t9 ht hW => ⟨some (3), rfl, (congrArg some hw).symm, ht⟩) t_nil dX1_kind_74
    · refine lv_aload_n hx hb dX1_kind_35 rfl (lv_at hl 1 rfl) ?_
      refine va_get (v := .long f) (C := RX1) (T := TX1) (N := 2) hx hb hts in_X1 hown hK hP 0 rfl rfl 1 (by decide) w_1 (fun _ h9 => h9) rfl dX1_kind_36 ?_
      refine lv_iconst (v := 1) hx hb dX1_kind_39 (by decide) ?_
      refine lv_lshl (v := (jlshl f 1)) hx hb dX1_kind_40 rfl ?_
      refine lv_lconst (v := 0) hx hb dX1_kind_41 (by decide) ?_
      refine q_cl_ne (tgt := 52) hx hb dX1_kind_42 dX1_kind_43 (by decide) (fun c_4 => ?_) (fun c_4 => ?_)
      · refine va_gets (v := .ref (ad 5)) hx hb (hE.1.1 5 (by decide)).1 hS hown w_5 (fun _ h9 => h9) dX1_kind_52 ?_
        have hw : R_kind t f = 5 := by unfold R_kind; rw [if_neg c_1, if_pos c_2, if_neg c_4]; try rfl
        exact W.aret hx hb hr (Or.inl ⟨_, rfl⟩) (Or.inr ⟨_, rfl⟩) (fun t9 ht hW => ⟨some (5), rfl, (congrArg some hw).symm, ht⟩) t_nil dX1_kind_55
      · refine va_gets (v := .ref (ad 4)) hx hb (hE.1.1 4 (by decide)).1 hS hown w_6 (fun _ h9 => h9) dX1_kind_46 ?_
        refine lv_goto (tgt := 55) hx hb dX1_kind_49 (by decide) ?_
        have hw : R_kind t f = 4 := by unfold R_kind; rw [if_neg c_1, if_pos c_2, if_pos c_4]; try rfl
        exact W.aret hx hb hr (Or.inl ⟨_, rfl⟩) (Or.inr ⟨_, rfl⟩) (fun t9 ht hW => ⟨some (4), rfl, (congrArg some hw).symm, ht⟩) t_nil dX1_kind_55
  · refine lv_aload_n hx hb dX1_kind_9 rfl (lv_at hl 1 rfl) ?_
    refine va_get (v := .long f) (C := RX1) (T := TX1) (N := 2) hx hb hts in_X1 hown hK hP 0 rfl rfl 1 (by decide) w_1 (fun _ h9 => h9) rfl dX1_kind_10 ?_
    refine lv_lconst (v := 0) hx hb dX1_kind_13 (by decide) ?_
    refine q_cl_ne (tgt := 24) hx hb dX1_kind_14 dX1_kind_15 (by decide) (fun c_5 => ?_) (fun c_5 => ?_)
    · refine va_gets (v := .ref (ad 1)) hx hb (hE.1.1 1 (by decide)).1 hS hown w_7 (fun _ h9 => h9) dX1_kind_24 ?_
      have hw : R_kind t f = 1 := by unfold R_kind; rw [if_pos c_1, if_neg c_5]; try rfl
      exact W.aret hx hb hr (Or.inl ⟨_, rfl⟩) (Or.inr ⟨_, rfl⟩) (fun t9 ht hW => ⟨some (1), rfl, (congrArg some hw).symm, ht⟩) t_nil dX1_kind_27
    · refine va_gets (v := .ref (ad 0)) hx hb (hE.1.1 0 (by decide)).1 hS hown w_8 (fun _ h9 => h9) dX1_kind_18 ?_
      refine lv_goto (tgt := 27) hx hb dX1_kind_21 (by decide) ?_
      have hw : R_kind t f = 0 := by unfold R_kind; rw [if_pos c_1, if_pos c_5]; try rfl
      exact W.aret hx hb hr (Or.inl ⟨_, rfl⟩) (Or.inr ⟨_, rfl⟩) (fun t9 ht hW => ⟨some (0), rfl, (congrArg some hw).symm, ht⟩) t_nil dX1_kind_27
theorem R_kind_lt (t : Int32) (f : Int64) : R_kind t f < 6 := by
  unfold R_kind
  repeat' split
  all_goals decide
def R_isOf (t : Int32) (f : Int64) (k : Nat) : Bool :=
  if (R_kind t f) = k then true
  else false
theorem kS_X1_isOf : yX1_isOf.cls ≠ "java/lang/invoke/MethodHandle" ∧ yX1_isOf.cls ≠ "java/lang/invoke/VarHandle" ∧ (parseMethodDescriptor yX1_isOf.desc).map (fun d => d.parameters.length) = some 1 := by decide +kernel
theorem kV_X1_isOf : yX1_isOf.cls = RX1 ∧ yX1_isOf.cls ≠ "java/lang/invoke/MethodHandle" ∧ yX1_isOf.cls ≠ "java/lang/invoke/VarHandle" ∧ (parseMethodDescriptor yX1_isOf.desc).map (fun d => d.parameters.length) = some 1 := ⟨rfl, kS_X1_isOf⟩
set_option maxHeartbeats 4000000 in
set_option maxRecDepth 100000 in
theorem c_X1_isOf (l : Launch) (D : va_G) (ad : Nat → Nat) (x : Nat) (t : Int32) (f : Int64) (k : Nat) (hk : k < 6) : Met l yX1_isOf wsX1_isOf ({ frames := 2, cells := 0, slots := 0, locals := 41 } : Room) (va_Pc [.ref x, .ref (ad k)] (EB D [] ad [cReal x t f])) (vp_Si (fun r => r = bI (R_isOf t f k))) 0 0 (fun _ => False) := by
  refine Met.ofW (cc := cX1_isOf) (maxL := 2) (ret := (some .boolean)) (by decide) rfl ?_
  intro p e s m args below meth c s₁ B hml hv
  obtain ⟨rfl, hP, hK, hE⟩ := hv
  have hx := B.exec
  have hb := B.bytes
  have hr := B.returns
  have hts := atoms_spec (ws := wsX1_isOf) B.pre
  have hown : s.vm.findClass RX1 = some m.cls := findClass_of_methodNamed B.named
  have hlocks := B.notSynchronized
  have hS : va_S (fun _ : Nat => False) s.heap s.heap [] := va_S.rf
  have hl := lv_entry ([.ref x, .ref (ad k)]) (n := 2) (Nat.le_of_ble_eq_true rfl)
  rw [lg_entry_eq]
  generalize (lg_sl ([.ref x, .ref (ad k)]) ++ List.replicate (2 - (lg_sl ([.ref x, .ref (ad k)])).length) Slot.unset).toArray = ls at hl ⊢
  have hl : lv_has ls 2 [(0, .ref x), (1, .ref (ad k))] := hl
  refine lv_aload_n hx hb dX1_isOf_0 rfl (lv_at hl 0 rfl) ?_
  refine va_cse (va_cr (va_runV (As := []) (rest := []) ⟨hx, hb, hml, hown, hts⟩ (c_X1_kind l D ad x t f) (cwV 0 hts gX1_isOf_X1_kind rfl rfl rfl kV_X1_kind ⟨Nat.le_of_ble_eq_true rfl, Nat.le_of_ble_eq_true rfl⟩) ⟨EB.blind, va_recv hK hP (ci := 0) (q0 := 0) rfl rfl, EB.pre (hK.sub [] rfl) (hP.sub [0] rfl) hE hS⟩ rfl rfl hl.1 rfl (lv_room (Nat.le_of_ble_eq_true rfl)) dX1_isOf_1 ⟨Nat.le_of_ble_eq_true rfl, Nat.le_of_ble_eq_true rfl⟩)) (fun r9 e9 => ?_)
  rw [e9]
  refine lv_aload_n hx hb dX1_isOf_4 rfl (lv_at hl 1 rfl) ?_
  refine lv_acmp_ne (rx := some (ad (R_kind t f))) (ry := some (ad k)) (tgt := 12) hx hb dX1_isOf_5 (by decide) (fun c_1 => ?_) (fun c_1 => ?_)
  · have c_1 : ¬ (R_kind t f) = k := fun z => c_1 (by rw [z])
    refine lv_iconst (v := 0) hx hb dX1_isOf_12 (by decide) ?_
    have hw : R_isOf t f k = false := by unfold R_isOf; rw [if_neg c_1]; try rfl
    exact W.zret hx hb hr rfl (fun t9 ht hW => ⟨_, rfl, (congrArg bI hw).symm, ht⟩) t_nil dX1_isOf_13
  · have c_1 : (R_kind t f) = k := hE.1.2 _ _ (R_kind_lt _ _) hk (Option.some.inj c_1)
    refine lv_iconst (v := 1) hx hb dX1_isOf_8 (by decide) ?_
    refine lv_goto (tgt := 13) hx hb dX1_isOf_9 (by decide) ?_
    have hw : R_isOf t f k = true := by unfold R_isOf; rw [if_pos c_1]; try rfl
    exact W.zret hx hb hr rfl (fun t9 ht hW => ⟨_, rfl, (congrArg bI hw).symm, ht⟩) t_nil dX1_isOf_13
def R_nought (t : Int32) (f : Int64) : Bool :=
  (if f = 0 then (if (R_pow t) = 32767 then false else true) else false)
theorem kS_X1_isNought : yX1_isNought.cls ≠ "java/lang/invoke/MethodHandle" ∧ yX1_isNought.cls ≠ "java/lang/invoke/VarHandle" ∧ (parseMethodDescriptor yX1_isNought.desc).map (fun d => d.parameters.length) = some 0 := by decide +kernel
theorem kV_X1_isNought : yX1_isNought.cls = RX1 ∧ yX1_isNought.cls ≠ "java/lang/invoke/MethodHandle" ∧ yX1_isNought.cls ≠ "java/lang/invoke/VarHandle" ∧ (parseMethodDescriptor yX1_isNought.desc).map (fun d => d.parameters.length) = some 0 := ⟨rfl, kS_X1_isNought⟩
set_option maxHeartbeats 4000000 in
set_option maxRecDepth 100000 in
theorem c_X1_isNought (l : Launch) (D : va_G) (ad : Nat → Nat) (x : Nat) (t : Int32) (f : Int64) : Met l yX1_isNought wsX1_isNought ({ frames := 1, cells := 0, slots := 0, locals := 20 } : Room) (va_Pc [.ref x] (EB D [] ad [cReal x t f])) (vp_Si (fun r => r = bI (R_nought t f))) 0 0 (fun _ => False) := by
  refine Met.ofW (cc := cX1_isNought) (maxL := 1) (ret := (some .boolean)) (by decide) rfl ?_
  intro p e s m args below meth c s₁ B hml hv
  obtain ⟨rfl, hP, hK, hE⟩ := hv
  have hx := B.exec
  have hb := B.bytes
  have hr := B.returns
  have hts := atoms_spec (ws := wsX1_isNought) B.pre
  have hown : s.vm.findClass RX1 = some m.cls := findClass_of_methodNamed B.named
  have hlocks := B.notSynchronized
  have w_1 := hts (.fieldLink RX1 15 "RealSteps$Real" "fraction" "J") (by decide +kernel)
  have in_X1 : ∀ w ∈ wsX10, w ∈ wsX1_isNought := by decide +kernel
  have hS : va_S (fun _ : Nat => False) s.heap s.heap [] := va_S.rf
  have hl := lv_entry ([.ref x]) (n := 1) (Nat.le_of_ble_eq_true rfl)
  rw [lg_entry_eq]
  generalize (lg_sl ([.ref x]) ++ List.replicate (1 - (lg_sl ([.ref x])).length) Slot.unset).toArray = ls at hl ⊢
  have hl : lv_has ls 1 [(0, .ref x)] := hl
  refine lv_aload_n hx hb dX1_isNought_0 rfl (lv_at hl 0 rfl) ?_
  refine va_get (v := .long f) (C := RX1) (T := TX1) (N := 2) hx hb hts in_X1 hown hK hP 0 rfl rfl 1 (by decide) w_1 (fun _ h9 => h9) rfl dX1_isNought_1 ?_
  refine lv_lconst (v := 0) hx hb dX1_isNought_4 (by decide) ?_
  refine q_cut (v := bI (if f = 0 then (if (R_pow t) = 32767 then false else true) else false)) (pcJ := 24) (rest := []) (fun J => ?_) ?_
  · refine q_cl_ne (tgt := 23) hx hb dX1_isNought_5 dX1_isNought_6 (by decide) (fun c_1 => ?_) (fun c_1 => ?_)
    · refine lv_iconst (v := 0) hx hb dX1_isNought_23 (by decide) ?_
      exact J _ (by rw [if_neg c_1]; try rfl)
    · refine lv_aload_n hx hb dX1_isNought_9 rfl (lv_at hl 0 rfl) ?_
      refine vp_callSi (va_cr (va_runV (As := []) (rest := []) ⟨hx, hb, hml, hown, hts⟩ (c_X1_power l D ad x t f) (cwV 0 hts gX1_isNought_X1_power rfl rfl rfl kV_X1_power ⟨Nat.le_of_ble_eq_true rfl, Nat.le_of_ble_eq_true rfl⟩) ⟨EB.blind, va_recv hK hP (ci := 0) (q0 := 0) rfl rfl, EB.pre (hK.sub [] rfl) (hP.sub [0] rfl) hE hS⟩ rfl rfl hl.1 rfl (lv_room (Nat.le_of_ble_eq_true rfl)) dX1_isNought_10 ⟨Nat.le_of_ble_eq_true rfl, Nat.le_of_ble_eq_true rfl⟩)) (fun r9 e9 => ?_)
      rw [e9]
      refine lv_sipush (v := 32767) hx hb dX1_isNought_13 (by decide) ?_
      refine lv_icmp_eq (tgt := 23) hx hb dX1_isNought_16 (by decide) (fun c_2 => ?_) (fun c_2 => ?_)
      · refine lv_iconst (v := 0) hx hb dX1_isNought_23 (by decide) ?_
        exact J _ (by rw [if_pos c_1, if_pos c_2]; try rfl)
      · refine lv_iconst (v := 1) hx hb dX1_isNought_19 (by decide) ?_
        refine lv_goto (tgt := 24) hx hb dX1_isNought_20 (by decide) ?_
        exact J _ (by rw [if_pos c_1, if_neg c_2]; try rfl)
  have hw : R_nought t f = (if f = 0 then (if (R_pow t) = 32767 then false else true) else false) := rfl
  exact W.zret hx hb hr (bI_nar _) (fun t9 ht hW => ⟨_, rfl, (congrArg bI hw).symm, ht⟩) t_nil dX1_isNought_24
def R_side (t : Int32) (f : Int64) : Int32 :=
  if bI (R_nought t f) = 0 then (if bI (R_neg t) = 0 then 1 else (-1))
  else 0
theorem kS_X1_side : yX1_side.cls ≠ "java/lang/invoke/MethodHandle" ∧ yX1_side.cls ≠ "java/lang/invoke/VarHandle" ∧ (parseMethodDescriptor yX1_side.desc).map (fun d => d.parameters.length) = some 0 := by decide +kernel
theorem kV_X1_side : yX1_side.cls = RX1 ∧ yX1_side.cls ≠ "java/lang/invoke/MethodHandle" ∧ yX1_side.cls ≠ "java/lang/invoke/VarHandle" ∧ (parseMethodDescriptor yX1_side.desc).map (fun d => d.parameters.length) = some 0 := ⟨rfl, kS_X1_side⟩
set_option maxHeartbeats 4000000 in
set_option maxRecDepth 100000 in
theorem c_X1_side (l : Launch) (D : va_G) (ad : Nat → Nat) (x : Nat) (t : Int32) (f : Int64) : Met l yX1_side wsX1_side ({ frames := 2, cells := 0, slots := 0, locals := 40 } : Room) (va_Pc [.ref x] (EB D [] ad [cReal x t f])) (vp_Si (fun r => r = R_side t f)) 0 0 (fun _ => False) := by
  refine Met.ofW (cc := cX1_side) (maxL := 1) (ret := (some .int)) (by decide) rfl ?_
  intro p e s m args below meth c s₁ B hml hv
  obtain ⟨rfl, hP, hK, hE⟩ := hv
  have hx := B.exec
  have hb := B.bytes
  have hr := B.returns
  have hts := atoms_spec (ws := wsX1_side) B.pre
  have hown : s.vm.findClass RX1 = some m.cls := findClass_of_methodNamed B.named
  have hlocks := B.notSynchronized
  have hS : va_S (fun _ : Nat => False) s.heap s.heap [] := va_S.rf
  have hl := lv_entry ([.ref x]) (n := 1) (Nat.le_of_ble_eq_true rfl)
  rw [lg_entry_eq]
  generalize (lg_sl ([.ref x]) ++ List.replicate (1 - (lg_sl ([.ref x])).length) Slot.unset).toArray = ls at hl ⊢
  have hl : lv_has ls 1 [(0, .ref x)] := hl
  refine lv_aload_n hx hb dX1_side_0 rfl (lv_at hl 0 rfl) ?_
  refine vp_callSi (va_cr (va_runV (As := []) (rest := []) ⟨hx, hb, hml, hown, hts⟩ (c_X1_isNought l D ad x t f) (cwV 0 hts gX1_side_X1_isNought rfl rfl rfl kV_X1_isNought ⟨Nat.le_of_ble_eq_true rfl, Nat.le_of_ble_eq_true rfl⟩) ⟨EB.blind, va_recv hK hP (ci := 0) (q0 := 0) rfl rfl, EB.pre (hK.sub [] rfl) (hP.sub [0] rfl) hE hS⟩ rfl rfl hl.1 rfl (lv_room (Nat.le_of_ble_eq_true rfl)) dX1_side_1 ⟨Nat.le_of_ble_eq_true rfl, Nat.le_of_ble_eq_true rfl⟩)) (fun r9 e9 => ?_)
  rw [e9]
  refine lv_if_eq (tgt := 9) hx hb dX1_side_4 (by decide) (fun c_1 => ?_) (fun c_1 => ?_)
  · refine lv_aload_n hx hb dX1_side_9 rfl (lv_at hl 0 rfl) ?_
    refine vp_callSi (va_cr (va_runV (As := []) (rest := []) ⟨hx, hb, hml, hown, hts⟩ (c_X1_isNegative l D ad x t f) (cwV 0 hts gX1_side_X1_isNegative rfl rfl rfl kV_X1_isNegative ⟨Nat.le_of_ble_eq_true rfl, Nat.le_of_ble_eq_true rfl⟩) ⟨EB.blind, va_recv hK hP (ci := 0) (q0 := 0) rfl rfl, EB.pre (hK.sub [] rfl) (hP.sub [0] rfl) hE hS⟩ rfl rfl hl.1 rfl (lv_room (Nat.le_of_ble_eq_true rfl)) dX1_side_10 ⟨Nat.le_of_ble_eq_true rfl, Nat.le_of_ble_eq_true rfl⟩)) (fun r9 e9 => ?_)
    rw [e9]
    refine q_cut (v := (if bI (R_neg t) = 0 then 1 else (-1))) (pcJ := 21) (rest := []) (fun J => ?_) ?_
    · refine lv_if_eq (tgt := 20) hx hb dX1_side_13 (by decide) (fun c_2 => ?_) (fun c_2 => ?_)
      · refine lv_iconst (v := 1) hx hb dX1_side_20 (by decide) ?_
        exact J _ (by rw [if_pos c_2]; try rfl)
      · refine lv_iconst (v := (-1)) hx hb dX1_side_16 (by decide) ?_
        refine lv_goto (tgt := 21) hx hb dX1_side_17 (by decide) ?_
        exact J _ (by rw [if_neg c_2]; try rfl)
    have hw : R_side t f = (if bI (R_neg t) = 0 then 1 else (-1)) := by unfold R_side; rw [if_pos c_1]; try rfl
    exact W.iret hx hb hr (fun t9 ht hW => ⟨_, rfl, hw.symm, ht⟩) t_nil dX1_side_21
  · refine lv_iconst (v := 0) hx hb dX1_side_7 (by decide) ?_
    have hw : R_side t f = 0 := by unfold R_side; rw [if_neg c_1]; try rfl
    exact W.iret hx hb hr (fun t9 ht hW => ⟨_, rfl, hw.symm, ht⟩) t_nil dX1_side_8
def R_unit (t : Int32) : Int32 :=
  ((if (R_pow t) < 1 then 1 else (R_pow t)) - 16446)
theorem kS_X1_unit : yX1_unit.cls ≠ "java/lang/invoke/MethodHandle" ∧ yX1_unit.cls ≠ "java/lang/invoke/VarHandle" ∧ (parseMethodDescriptor yX1_unit.desc).map (fun d => d.parameters.length) = some 0 := by decide +kernel
theorem kV_X1_unit : yX1_unit.cls = RX1 ∧ yX1_unit.cls ≠ "java/lang/invoke/MethodHandle" ∧ yX1_unit.cls ≠ "java/lang/invoke/VarHandle" ∧ (parseMethodDescriptor yX1_unit.desc).map (fun d => d.parameters.length) = some 0 := ⟨rfl, kS_X1_unit⟩
set_option maxHeartbeats 4000000 in
set_option maxRecDepth 100000 in
theorem c_X1_unit (l : Launch) (D : va_G) (ad : Nat → Nat) (x : Nat) (t : Int32) (f : Int64) : Met l yX1_unit wsX1_unit ({ frames := 1, cells := 0, slots := 0, locals := 20 } : Room) (va_Pc [.ref x] (EB D [] ad [cReal x t f])) (vp_Si (fun r => r = R_unit t)) 0 0 (fun _ => False) := by
  refine Met.ofW (cc := cX1_unit) (maxL := 1) (ret := (some .int)) (by decide) rfl ?_
  intro p e s m args below meth c s₁ B hml hv
  obtain ⟨rfl, hP, hK, hE⟩ := hv
  have hx := B.exec
  have hb := B.bytes
  have hr := B.returns
  have hts := atoms_spec (ws := wsX1_unit) B.pre
  have hown : s.vm.findClass RX1 = some m.cls := findClass_of_methodNamed B.named
  have hlocks := B.notSynchronized
  have w_1 := hts (.methodLink RX1 56 Lib.Math.max.name) (by decide +kernel)
  have w_2 := hts (.static Lib.Math.max.name) (by decide +kernel)
  have w_3 := hts (.initialized "java/lang/Math") (by decide +kernel)
  have w_4 := hts (.code Lib.Math.max.name Lib.Math.max.code 2 (some .int)) (by decide +kernel)
  have hS : va_S (fun _ : Nat => False) s.heap s.heap [] := va_S.rf
  have hl := lv_entry ([.ref x]) (n := 1) (Nat.le_of_ble_eq_true rfl)
  rw [lg_entry_eq]
  generalize (lg_sl ([.ref x]) ++ List.replicate (1 - (lg_sl ([.ref x])).length) Slot.unset).toArray = ls at hl ⊢
  have hl : lv_has ls 1 [(0, .ref x)] := hl
  refine lv_aload_n hx hb dX1_unit_0 rfl (lv_at hl 0 rfl) ?_
  refine vp_callSi (va_cr (va_runV (As := []) (rest := []) ⟨hx, hb, hml, hown, hts⟩ (c_X1_power l D ad x t f) (cwV 0 hts gX1_unit_X1_power rfl rfl rfl kV_X1_power ⟨Nat.le_of_ble_eq_true rfl, Nat.le_of_ble_eq_true rfl⟩) ⟨EB.blind, va_recv hK hP (ci := 0) (q0 := 0) rfl rfl, EB.pre (hK.sub [] rfl) (hP.sub [0] rfl) hE hS⟩ rfl rfl hl.1 rfl (lv_room (Nat.le_of_ble_eq_true rfl)) dX1_unit_1 ⟨Nat.le_of_ble_eq_true rfl, Nat.le_of_ble_eq_true rfl⟩)) (fun r9 e9 => ?_)
  rw [e9]
  refine lv_iconst (v := 1) hx hb dX1_unit_4 (by decide) ?_
  refine va_mmax hx hb (hml.trans hl.1.symm) hown w_1 w_2 w_3 w_4 (Nat.le_of_ble_eq_true rfl) (Nat.le_of_ble_eq_true rfl) (Nat.le_of_ble_eq_true rfl) (Nat.le_of_ble_eq_true rfl) dX1_unit_5 ?_
  refine lv_sipush (v := 16446) hx hb dX1_unit_8 (by decide) ?_
  refine lv_isub hx hb dX1_unit_11 ?_
  have hw : R_unit t = ((if (R_pow t) < 1 then 1 else (R_pow t)) - 16446) := rfl
  exact W.iret hx hb hr (fun t9 ht hW => ⟨_, rfl, hw.symm, ht⟩) t_nil dX1_unit_12
def R_exp (t : Int32) (f : Int64) : Int32 :=
  (((R_unit t) + 63) - (J_nlz64 f))
theorem kS_X1_exponent : yX1_exponent.cls ≠ "java/lang/invoke/MethodHandle" ∧ yX1_exponent.cls ≠ "java/lang/invoke/VarHandle" ∧ (parseMethodDescriptor yX1_exponent.desc).map (fun d => d.parameters.length) = some 0 := by decide +kernel
theorem kV_X1_exponent : yX1_exponent.cls = RX1 ∧ yX1_exponent.cls ≠ "java/lang/invoke/MethodHandle" ∧ yX1_exponent.cls ≠ "java/lang/invoke/VarHandle" ∧ (parseMethodDescriptor yX1_exponent.desc).map (fun d => d.parameters.length) = some 0 := ⟨rfl, kS_X1_exponent⟩
set_option maxHeartbeats 4000000 in
set_option maxRecDepth 100000 in
theorem c_X1_exponent (l : Launch) (D : va_G) (ad : Nat → Nat) (x : Nat) (t : Int32) (f : Int64) : Met l yX1_exponent wsX1_exponent ({ frames := 2, cells := 0, slots := 0, locals := 43 } : Room) (va_Pc [.ref x] (EB D [] ad [cReal x t f])) (vp_Si (fun r => r = R_exp t f)) 0 0 (fun _ => False) := by
  refine Met.ofW (cc := cX1_exponent) (maxL := 1) (ret := (some .int)) (by decide) rfl ?_
  intro p e s m args below meth c s₁ B hml hv
  obtain ⟨rfl, hP, hK, hE⟩ := hv
  have hx := B.exec
  have hb := B.bytes
  have hr := B.returns
  have hts := atoms_spec (ws := wsX1_exponent) B.pre
  have hown : s.vm.findClass RX1 = some m.cls := findClass_of_methodNamed B.named
  have hlocks := B.notSynchronized
  have w_1 := hts (.fieldLink RX1 15 "RealSteps$Real" "fraction" "J") (by decide +kernel)
  have in_X1 : ∀ w ∈ wsX10, w ∈ wsX1_exponent := by decide +kernel
  have hS : va_S (fun _ : Nat => False) s.heap s.heap [] := va_S.rf
  have hl := lv_entry ([.ref x]) (n := 1) (Nat.le_of_ble_eq_true rfl)
  rw [lg_entry_eq]
  generalize (lg_sl ([.ref x]) ++ List.replicate (1 - (lg_sl ([.ref x])).length) Slot.unset).toArray = ls at hl ⊢
  have hl : lv_has ls 1 [(0, .ref x)] := hl
  refine lv_aload_n hx hb dX1_exponent_0 rfl (lv_at hl 0 rfl) ?_
  refine vp_callSi (va_cr (va_runV (As := []) (rest := []) ⟨hx, hb, hml, hown, hts⟩ (c_X1_unit l D ad x t f) (cwV 0 hts gX1_exponent_X1_unit rfl rfl rfl kV_X1_unit ⟨Nat.le_of_ble_eq_true rfl, Nat.le_of_ble_eq_true rfl⟩) ⟨EB.blind, va_recv hK hP (ci := 0) (q0 := 0) rfl rfl, EB.pre (hK.sub [] rfl) (hP.sub [0] rfl) hE hS⟩ rfl rfl hl.1 rfl (lv_room (Nat.le_of_ble_eq_true rfl)) dX1_exponent_1 ⟨Nat.le_of_ble_eq_true rfl, Nat.le_of_ble_eq_true rfl⟩)) (fun r9 e9 => ?_)
  rw [e9]
  refine lv_bipush (v := 63) hx hb dX1_exponent_4 (by decide) ?_
  refine lv_iadd hx hb dX1_exponent_6 ?_
  refine lv_aload_n hx hb dX1_exponent_7 rfl (lv_at hl 0 rfl) ?_
  refine va_get (v := .long f) (C := RX1) (T := TX1) (N := 2) hx hb hts in_X1 hown hK hP 0 rfl rfl 1 (by decide) w_1 (fun _ h9 => h9) rfl dX1_exponent_8 ?_
  refine vp_callSi (va_cr (va_runS (As := [.long f]) (rest := [.int ((R_unit t) + 63)]) ⟨hx, hb, hml, hown, hts⟩ (c_J13_numberOfLeadingZeros_95d88 l f) (va_cwS 1 hts gX1_exponent_J13_numberOfLeadingZeros_95d88 rfl rfl rfl kS_J13_numberOfLeadingZeros_95d88 ⟨Nat.le_of_ble_eq_true rfl, Nat.le_of_ble_eq_true rfl⟩) ⟨TB.blind, TB.pre⟩ rfl rfl hl.1 rfl (lv_room (Nat.le_of_ble_eq_true rfl)) dX1_exponent_11 ⟨Nat.le_of_ble_eq_true rfl, Nat.le_of_ble_eq_true rfl⟩)) (fun r9 e9 => ?_)
  rw [e9]
  refine lv_isub hx hb dX1_exponent_14 ?_
  have hw : R_exp t f = (((R_unit t) + 63) - (J_nlz64 f)) := rfl
  exact W.iret hx hb hr (fun t9 ht hW => ⟨_, rfl, hw.symm, ht⟩) t_nil dX1_exponent_15
def R_norm (f : Int64) : Int64 :=
  (jlshl f (J_nlz64 f))
theorem kS_X1_normalised : yX1_normalised.cls ≠ "java/lang/invoke/MethodHandle" ∧ yX1_normalised.cls ≠ "java/lang/invoke/VarHandle" ∧ (parseMethodDescriptor yX1_normalised.desc).map (fun d => d.parameters.length) = some 0 := by decide +kernel
theorem kV_X1_normalised : yX1_normalised.cls = RX1 ∧ yX1_normalised.cls ≠ "java/lang/invoke/MethodHandle" ∧ yX1_normalised.cls ≠ "java/lang/invoke/VarHandle" ∧ (parseMethodDescriptor yX1_normalised.desc).map (fun d => d.parameters.length) = some 0 := ⟨rfl, kS_X1_normalised⟩
set_option maxHeartbeats 4000000 in
set_option maxRecDepth 100000 in
theorem c_X1_normalised (l : Launch) (D : va_G) (ad : Nat → Nat) (x : Nat) (t : Int32) (f : Int64) : Met l yX1_normalised wsX1_normalised ({ frames := 2, cells := 0, slots := 0, locals := 43 } : Room) (va_Pc [.ref x] (EB D [] ad [cReal x t f])) (vp_Sl (fun r => r = R_norm f)) 0 0 (fun _ => False) := by
  refine Met.ofW (cc := cX1_normalised) (maxL := 1) (ret := (some .long)) (by decide) rfl ?_
  intro p e s m args below meth c s₁ B hml hv
  obtain ⟨rfl, hP, hK, hE⟩ := hv
  have hx := B.exec
  have hb := B.bytes
  have hr := B.returns
  have hts := atoms_spec (ws := wsX1_normalised) B.pre
  have hown : s.vm.findClass RX1 = some m.cls := findClass_of_methodNamed B.named
  have hlocks := B.notSynchronized
  have w_1 := hts (.fieldLink RX1 15 "RealSteps$Real" "fraction" "J") (by decide +kernel)
  have in_X1 : ∀ w ∈ wsX10, w ∈ wsX1_normalised := by decide +kernel
  have hS : va_S (fun _ : Nat => False) s.heap s.heap [] := va_S.rf
  have hl := lv_entry ([.ref x]) (n := 1) (Nat.le_of_ble_eq_true rfl)
  rw [lg_entry_eq]
  generalize (lg_sl ([.ref x]) ++ List.replicate (1 - (lg_sl ([.ref x])).length) Slot.unset).toArray = ls at hl ⊢
  have hl : lv_has ls 1 [(0, .ref x)] := hl
  refine lv_aload_n hx hb dX1_normalised_0 rfl (lv_at hl 0 rfl) ?_
  refine va_get (v := .long f) (C := RX1) (T := TX1) (N := 2) hx hb hts in_X1 hown hK hP 0 rfl rfl 1 (by decide) w_1 (fun _ h9 => h9) rfl dX1_normalised_1 ?_
  refine lv_aload_n hx hb dX1_normalised_4 rfl (lv_at hl 0 rfl) ?_
  refine va_get (v := .long f) (C := RX1) (T := TX1) (N := 2) hx hb hts in_X1 hown hK hP 0 rfl rfl 1 (by decide) w_1 (fun _ h9 => h9) rfl dX1_normalised_5 ?_
  refine vp_callSi (va_cr (va_runS (As := [.long f]) (rest := [.long f]) ⟨hx, hb, hml, hown, hts⟩ (c_J13_numberOfLeadingZeros_95d88 l f) (va_cwS 1 hts gX1_normalised_J13_numberOfLeadingZeros_95d88 rfl rfl rfl kS_J13_numberOfLeadingZeros_95d88 ⟨Nat.le_of_ble_eq_true rfl, Nat.le_of_ble_eq_true rfl⟩) ⟨TB.blind, TB.pre⟩ rfl rfl hl.1 rfl (lv_room (Nat.le_of_ble_eq_true rfl)) dX1_normalised_8 ⟨Nat.le_of_ble_eq_true rfl, Nat.le_of_ble_eq_true rfl⟩)) (fun r9 e9 => ?_)
  rw [e9]
  refine lv_lshl (v := (jlshl f (J_nlz64 f))) hx hb dX1_normalised_11 rfl ?_
  have hw : R_norm f = (jlshl f (J_nlz64 f)) := rfl
  exact W.lret hx hb hr (fun t9 ht hW => ⟨_, rfl, hw.symm, ht⟩) t_nil dX1_normalised_12
end
section
def R_signOf (ng : Bool) : Int32 :=
  (if bI ng = 0 then 0 else 32768)
theorem kS_X2_signOf : yX2_signOf.cls ≠ "java/lang/invoke/MethodHandle" ∧ yX2_signOf.cls ≠ "java/lang/invoke/VarHandle" ∧ (parseMethodDescriptor yX2_signOf.desc).map (fun d => d.parameters.length) = some 1 := by decide +kernel
set_option maxHeartbeats 4000000 in
set_option maxRecDepth 100000 in
theorem c_X2_signOf (l : Launch) (ng : Bool) : Met l yX2_signOf wsX2_signOf ({ frames := 0, cells := 0, slots := 0, locals := 0 } : Room) (va_Pc [.int (bI ng)] (fun _ => True)) (vp_Si (fun r => r = R_signOf ng)) 0 0 (fun _ => False) := by
  refine Met.ofW (cc := cX2_signOf) (maxL := 1) (ret := (some .int)) (by decide) rfl ?_
  intro p e s m args below meth c s₁ B hml hv
  obtain ⟨rfl, -⟩ := hv
  have hx := B.exec
  have hb := B.bytes
  have hr := B.returns
  have hts := atoms_spec (ws := wsX2_signOf) B.pre
  have hown : s.vm.findClass RX2 = some m.cls := findClass_of_methodNamed B.named
  have hlocks := B.notSynchronized
  have w_1 := hts (.constant RX2 62 (32768)) (by decide +kernel)
  have hl := lv_entry ([.int (bI ng)]) (n := 1) (Nat.le_of_ble_eq_true rfl)
  rw [lg_entry_eq]
  generalize (lg_sl ([.int (bI ng)]) ++ List.replicate (1 - (lg_sl ([.int (bI ng)])).length) Slot.unset).toArray = ls at hl ⊢
  have hl : lv_has ls 1 [(0, .int (bI ng))] := hl
  refine lv_iload_n hx hb dX2_signOf_0 rfl (lv_at hl 0 rfl) ?_
  refine q_cut (v := (if bI ng = 0 then 0 else 32768)) (pcJ := 10) (rest := []) (fun J => ?_) ?_
  · refine lv_if_eq (tgt := 9) hx hb dX2_signOf_1 (by decide) (fun c_1 => ?_) (fun c_1 => ?_)
    · refine lv_iconst (v := 0) hx hb dX2_signOf_9 (by decide) ?_
      exact J _ (by rw [if_pos c_1]; try rfl)
    · refine lv_ldc (v := 32768) hx hb hown w_1 dX2_signOf_4 ?_
      refine lv_goto (tgt := 10) hx hb dX2_signOf_6 (by decide) ?_
      exact J _ (by rw [if_neg c_1]; try rfl)
  have hw : R_signOf ng = (if bI ng = 0 then 0 else 32768) := rfl
  exact W.iret hx hb hr (fun t9 ht hW => ⟨_, rfl, hw.symm, ht⟩) t_nil dX2_signOf_10
def R_isCut (fr : Int64) (sh : Int32) : Bool :=
  (if 63 < sh then true else (if (jlshl fr (64 - sh)) = 0 then false else true))
theorem kS_X2_isCut : yX2_isCut.cls ≠ "java/lang/invoke/MethodHandle" ∧ yX2_isCut.cls ≠ "java/lang/invoke/VarHandle" ∧ (parseMethodDescriptor yX2_isCut.desc).map (fun d => d.parameters.length) = some 2 := by decide +kernel
set_option maxHeartbeats 4000000 in
set_option maxRecDepth 100000 in
theorem c_X2_isCut (l : Launch) (fr : Int64) (sh : Int32) : Met l yX2_isCut wsX2_isCut ({ frames := 0, cells := 0, slots := 0, locals := 0 } : Room) (va_Pc [.long fr, .int sh] (fun _ => True)) (vp_Si (fun r => r = bI (R_isCut fr sh))) 0 0 (fun _ => False) := by
  refine Met.ofW (cc := cX2_isCut) (maxL := 3) (ret := (some .boolean)) (by decide) rfl ?_
  intro p e s m args below meth c s₁ B hml hv
  obtain ⟨rfl, -⟩ := hv
  have hx := B.exec
  have hb := B.bytes
  have hr := B.returns
  have hts := atoms_spec (ws := wsX2_isCut) B.pre
  have hown : s.vm.findClass RX2 = some m.cls := findClass_of_methodNamed B.named
  have hlocks := B.notSynchronized
  have hl := lv_entry ([.long fr, .int sh]) (n := 3) (Nat.le_of_ble_eq_true rfl)
  rw [lg_entry_eq]
  generalize (lg_sl ([.long fr, .int sh]) ++ List.replicate (3 - (lg_sl ([.long fr, .int sh])).length) Slot.unset).toArray = ls at hl ⊢
  have hl : lv_has ls 3 [(0, .long fr), (2, .int sh)] := hl
  refine lv_iload_n hx hb dX2_isCut_0 rfl (lv_at hl 1 rfl) ?_
  refine lv_bipush (v := 63) hx hb dX2_isCut_1 (by decide) ?_
  refine q_cut (v := bI (if 63 < sh then true else (if (jlshl fr (64 - sh)) = 0 then false else true))) (pcJ := 22) (rest := []) (fun J => ?_) ?_
  · refine lv_icmp_gt (tgt := 17) hx hb dX2_isCut_3 (by decide) (fun c_1 => ?_) (fun c_1 => ?_)
    · refine lv_iconst (v := 1) hx hb dX2_isCut_17 (by decide) ?_
      refine lv_goto (tgt := 22) hx hb dX2_isCut_18 (by decide) ?_
      exact J _ (by rw [if_pos c_1]; try rfl)
    · refine lv_lload_n hx hb dX2_isCut_6 rfl (lv_at hl 0 rfl) ?_
      refine lv_bipush (v := 64) hx hb dX2_isCut_7 (by decide) ?_
      refine lv_iload_n hx hb dX2_isCut_9 rfl (lv_at hl 1 rfl) ?_
      refine lv_isub hx hb dX2_isCut_10 ?_
      refine lv_lshl (v := (jlshl fr (64 - sh))) hx hb dX2_isCut_11 rfl ?_
      refine lv_lconst (v := 0) hx hb dX2_isCut_12 (by decide) ?_
      refine q_cl_eq (tgt := 21) hx hb dX2_isCut_13 dX2_isCut_14 (by decide) (fun c_2 => ?_) (fun c_2 => ?_)
      · refine lv_iconst (v := 0) hx hb dX2_isCut_21 (by decide) ?_
        exact J _ (by rw [if_neg c_1, if_pos c_2]; try rfl)
      · refine lv_iconst (v := 1) hx hb dX2_isCut_17 (by decide) ?_
        refine lv_goto (tgt := 22) hx hb dX2_isCut_18 (by decide) ?_
        exact J _ (by rw [if_neg c_1, if_neg c_2]; try rfl)
  have hw : R_isCut fr sh = (if 63 < sh then true else (if (jlshl fr (64 - sh)) = 0 then false else true)) := rfl
  exact W.zret hx hb hr (bI_nar _) (fun t9 ht hW => ⟨_, rfl, (congrArg bI hw).symm, ht⟩) t_nil dX2_isCut_22
def R_nearer (fr : Int64) (sh : Int32) (kp : Int64) : Bool :=
  if sh ≤ 64 then (if (if sh ≤ 63 then (fr - (jlshl kp sh)) else fr) = (jlshl 1 (sh - 1)) then (if (kp &&& 1) = 0 then false else true)
    else (if (J_cmpU (if sh ≤ 63 then (fr - (jlshl kp sh)) else fr) (jlshl 1 (sh - 1))) ≤ 0 then false else true))
  else false
theorem kS_X2_isNearerAbove : yX2_isNearerAbove.cls ≠ "java/lang/invoke/MethodHandle" ∧ yX2_isNearerAbove.cls ≠ "java/lang/invoke/VarHandle" ∧ (parseMethodDescriptor yX2_isNearerAbove.desc).map (fun d => d.parameters.length) = some 3 := by decide +kernel
set_option maxHeartbeats 4000000 in
set_option maxRecDepth 100000 in
theorem c_X2_isNearerAbove (l : Launch) (fr : Int64) (sh : Int32) (kp : Int64) : Met l yX2_isNearerAbove wsX2_isNearerAbove ({ frames := 2, cells := 0, slots := 0, locals := 46 } : Room) (va_Pc [.long fr, .int sh, .long kp] (fun _ => True)) (vp_Si (fun r => r = bI (R_nearer fr sh kp))) 0 0 (fun _ => False) := by
  refine Met.ofW (cc := cX2_isNearerAbove) (maxL := 9) (ret := (some .boolean)) (by decide) rfl ?_
  intro p e s m args below meth c s₁ B hml hv
  obtain ⟨rfl, -⟩ := hv
  have hx := B.exec
  have hb := B.bytes
  have hr := B.returns
  have hts := atoms_spec (ws := wsX2_isNearerAbove) B.pre
  have hown : s.vm.findClass RX2 = some m.cls := findClass_of_methodNamed B.named
  have hlocks := B.notSynchronized
  have hl := lv_entry ([.long fr, .int sh, .long kp]) (n := 9) (Nat.le_of_ble_eq_true rfl)
  rw [lg_entry_eq]
  generalize (lg_sl ([.long fr, .int sh, .long kp]) ++ List.replicate (9 - (lg_sl ([.long fr, .int sh, .long kp])).length) Slot.unset).toArray = ls at hl ⊢
  have hl : lv_has ls 9 [(0, .long fr), (2, .int sh), (3, .long kp)] := hl
  refine lv_iload_n hx hb dX2_isNearerAbove_0 rfl (lv_at hl 1 rfl) ?_
  refine lv_bipush (v := 64) hx hb dX2_isNearerAbove_1 (by decide) ?_
  refine lv_icmp_le (tgt := 8) hx hb dX2_isNearerAbove_3 (by decide) (fun c_1 => ?_) (fun c_1 => ?_)
  · refine lv_iload_n hx hb dX2_isNearerAbove_8 rfl (lv_at hl 1 rfl) ?_
    refine lv_bipush (v := 63) hx hb dX2_isNearerAbove_9 (by decide) ?_
    refine q_cutL (v := (if sh ≤ 63 then (fr - (jlshl kp sh)) else fr)) (pcJ := 23) (rest := []) (fun J => ?_) ?_
    · refine lv_icmp_le (tgt := 18) hx hb dX2_isNearerAbove_11 (by decide) (fun c_2 => ?_) (fun c_2 => ?_)
      · refine lv_lload_n hx hb dX2_isNearerAbove_18 rfl (lv_at hl 0 rfl) ?_
        refine lv_lload_n hx hb dX2_isNearerAbove_19 rfl (lv_at hl 2 rfl) ?_
        refine lv_iload_n hx hb dX2_isNearerAbove_20 rfl (lv_at hl 1 rfl) ?_
        refine lv_lshl (v := (jlshl kp sh)) hx hb dX2_isNearerAbove_21 rfl ?_
        refine lv_lsub hx hb dX2_isNearerAbove_22 ?_
        exact J _ (by rw [if_pos c_2]; try rfl)
      · refine lv_lload_n hx hb dX2_isNearerAbove_14 rfl (lv_at hl 0 rfl) ?_
        refine lv_goto (tgt := 23) hx hb dX2_isNearerAbove_15 (by decide) ?_
        exact J _ (by rw [if_neg c_2]; try rfl)
    refine lv_lstore (lv' := [(5, .long (if sh ≤ 63 then (fr - (jlshl kp sh)) else fr)), (0, .long fr), (2, .int sh), (3, .long kp)]) hx hb dX2_isNearerAbove_23 hl (by decide) rfl (fun ls hl => ?_)
    refine lv_lconst (v := 1) hx hb dX2_isNearerAbove_25 (by decide) ?_
    refine lv_iload_n hx hb dX2_isNearerAbove_26 rfl (lv_at hl 2 rfl) ?_
    refine lv_iconst (v := 1) hx hb dX2_isNearerAbove_27 (by decide) ?_
    refine lv_isub hx hb dX2_isNearerAbove_28 ?_
    refine lv_lshl (v := (jlshl 1 (sh - 1))) hx hb dX2_isNearerAbove_29 rfl ?_
    refine lv_lstore (lv' := [(7, .long (jlshl 1 (sh - 1))), (5, .long (if sh ≤ 63 then (fr - (jlshl kp sh)) else fr)), (0, .long fr), (2, .int sh), (3, .long kp)]) hx hb dX2_isNearerAbove_30 hl (by decide) rfl (fun ls hl => ?_)
    refine lv_lload hx hb dX2_isNearerAbove_32 (lv_at hl 1 rfl) ?_
    refine lv_lload hx hb dX2_isNearerAbove_34 (lv_at hl 0 rfl) ?_
    refine q_cl_ne (tgt := 54) hx hb dX2_isNearerAbove_36 dX2_isNearerAbove_37 (by decide) (fun c_3 => ?_) (fun c_3 => ?_)
    · refine lv_lload hx hb dX2_isNearerAbove_54 (lv_at hl 1 rfl) ?_
      refine lv_lload hx hb dX2_isNearerAbove_56 (lv_at hl 0 rfl) ?_
      refine vp_callSi (va_cr (va_runS (As := [.long (if sh ≤ 63 then (fr - (jlshl kp sh)) else fr), .long (jlshl 1 (sh - 1))]) (rest := []) ⟨hx, hb, hml, hown, hts⟩ (c_J13_compareUnsigned_74951 l (if sh ≤ 63 then (fr - (jlshl kp sh)) else fr) (jlshl 1 (sh - 1))) (va_cwS 2 hts gX2_isNearerAbove_J13_compareUnsigned_74951 rfl rfl rfl kS_J13_compareUnsigned_74951 ⟨Nat.le_of_ble_eq_true rfl, Nat.le_of_ble_eq_true rfl⟩) ⟨TB.blind, TB.pre⟩ rfl rfl hl.1 rfl (lv_room (Nat.le_of_ble_eq_true rfl)) dX2_isNearerAbove_58 ⟨Nat.le_of_ble_eq_true rfl, Nat.le_of_ble_eq_true rfl⟩)) (fun r9 e9 => ?_)
      rw [e9]
      refine q_cut (v := bI (if (J_cmpU (if sh ≤ 63 then (fr - (jlshl kp sh)) else fr) (jlshl 1 (sh - 1))) ≤ 0 then false else true)) (pcJ := 69) (rest := []) (fun J => ?_) ?_
      · refine lv_if_le (tgt := 68) hx hb dX2_isNearerAbove_61 (by decide) (fun c_4 => ?_) (fun c_4 => ?_)
        · refine lv_iconst (v := 0) hx hb dX2_isNearerAbove_68 (by decide) ?_
          exact J _ (by rw [if_pos c_4]; try rfl)
        · refine lv_iconst (v := 1) hx hb dX2_isNearerAbove_64 (by decide) ?_
          refine lv_goto (tgt := 69) hx hb dX2_isNearerAbove_65 (by decide) ?_
          exact J _ (by rw [if_neg c_4]; try rfl)
      have hw : R_nearer fr sh kp = (if (J_cmpU (if sh ≤ 63 then (fr - (jlshl kp sh)) else fr) (jlshl 1 (sh - 1))) ≤ 0 then false else true) := by unfold R_nearer; rw [if_pos c_1, if_neg c_3]; try rfl
      exact W.zret hx hb hr (bI_nar _) (fun t9 ht hW => ⟨_, rfl, (congrArg bI hw).symm, ht⟩) t_nil dX2_isNearerAbove_69
    · refine lv_lload_n hx hb dX2_isNearerAbove_40 rfl (lv_at hl 4 rfl) ?_
      refine lv_lconst (v := 1) hx hb dX2_isNearerAbove_41 (by decide) ?_
      refine lv_land hx hb dX2_isNearerAbove_42 ?_
      refine lv_lconst (v := 0) hx hb dX2_isNearerAbove_43 (by decide) ?_
      refine q_cut (v := bI (if (kp &&& 1) = 0 then false else true)) (pcJ := 53) (rest := []) (fun J => ?_) ?_
      · refine q_cl_eq (tgt := 52) hx hb dX2_isNearerAbove_44 dX2_isNearerAbove_45 (by decide) (fun c_5 => ?_) (fun c_5 => ?_)
        · refine lv_iconst (v := 0) hx hb dX2_isNearerAbove_52 (by decide) ?_
          exact J _ (by rw [if_pos c_5]; try rfl)
        · refine lv_iconst (v := 1) hx hb dX2_isNearerAbove_48 (by decide) ?_
          refine lv_goto (tgt := 53) hx hb dX2_isNearerAbove_49 (by decide) ?_
          exact J _ (by rw [if_neg c_5]; try rfl)
      have hw : R_nearer fr sh kp = (if (kp &&& 1) = 0 then false else true) := by unfold R_nearer; rw [if_pos c_1, if_pos c_3]; try rfl
      exact W.zret hx hb hr (bI_nar _) (fun t9 ht hW => ⟨_, rfl, (congrArg bI hw).symm, ht⟩) t_nil dX2_isNearerAbove_53
  · refine lv_iconst (v := 0) hx hb dX2_isNearerAbove_6 (by decide) ?_
    have hw : R_nearer fr sh kp = false := by unfold R_nearer; rw [if_neg c_1]; try rfl
    exact W.zret hx hb hr rfl (fun t9 ht hW => ⟨_, rfl, (congrArg bI hw).symm, ht⟩) t_nil dX2_isNearerAbove_7
def R_beyond (ty : Int32) (fy : Int64) : Bool :=
  if bI (R_nought ty fy) = 0 then (if bI (R_isOf ty fy 4) = 0 then (if (R_exp ty fy) < 14 then false else true) else true)
  else false
theorem kS_X2_isBeyondScale : yX2_isBeyondScale.cls ≠ "java/lang/invoke/MethodHandle" ∧ yX2_isBeyondScale.cls ≠ "java/lang/invoke/VarHandle" ∧ (parseMethodDescriptor yX2_isBeyondScale.desc).map (fun d => d.parameters.length) = some 1 := by decide +kernel
set_option maxHeartbeats 4000000 in
set_option maxRecDepth 100000 in
theorem c_X2_isBeyondScale (l : Launch) (D : va_G) (ad : Nat → Nat) (y : Nat) (ty : Int32) (fy : Int64) : Met l yX2_isBeyondScale wsX2_isBeyondScale ({ frames := 3, cells := 0, slots := 0, locals := 63 } : Room) (va_Pc [.ref y] (EB D [] ad [cReal y ty fy])) (vp_Si (fun r => r = bI (R_beyond ty fy))) 0 0 (fun _ => False) := by
  refine Met.ofW (cc := cX2_isBeyondScale) (maxL := 1) (ret := (some .boolean)) (by decide) rfl ?_
  intro p e s m args below meth c s₁ B hml hv
  obtain ⟨rfl, hP, hK, hE⟩ := hv
  have hx := B.exec
  have hb := B.bytes
  have hr := B.returns
  have hts := atoms_spec (ws := wsX2_isBeyondScale) B.pre
  have hown : s.vm.findClass RX2 = some m.cls := findClass_of_methodNamed B.named
  have hlocks := B.notSynchronized
  have w_1 := hts (.initialized RX1) (by decide +kernel)
  have w_2 := hts (.instanceMethod yX1_isNought) (by decide +kernel)
  have w_3 := hts (.selects RX1 yX1_isNought yX1_isNought) (by decide +kernel)
  have w_4 := hts (.fieldLink RX2 106 "RealSteps$Kind" "INFINITE" "LRealSteps$Kind;") (by decide +kernel)
  have w_5 := hts (.instanceMethod yX1_isOf) (by decide +kernel)
  have w_6 := hts (.selects RX1 yX1_isOf yX1_isOf) (by decide +kernel)
  have w_7 := hts (.instanceMethod yX1_exponent) (by decide +kernel)
  have w_8 := hts (.selects RX1 yX1_exponent yX1_exponent) (by decide +kernel)
  have hS : va_S (fun _ : Nat => False) s.heap s.heap [] := va_S.rf
  have hl := lv_entry ([.ref y]) (n := 1) (Nat.le_of_ble_eq_true rfl)
  rw [lg_entry_eq]
  generalize (lg_sl ([.ref y]) ++ List.replicate (1 - (lg_sl ([.ref y])).length) Slot.unset).toArray = ls at hl ⊢
  have hl : lv_has ls 1 [(0, .ref y)] := hl
  refine lv_aload_n hx hb dX2_isBeyondScale_0 rfl (lv_at hl 0 rfl) ?_
  refine vp_callSi (va_cr (va_runVN (As := []) (rest := []) ⟨hx, hb, hml, hown, hts⟩ (c_X1_isNought l D ad y ty fy) ⟨va_cnB 0 hts gX2_isBeyondScale_X1_isNought_n96 rfl rfl rfl (hE.2.1 _ (List.mem_of_getElem? (i := 8) rfl)) w_1 kS_X1_isNought ⟨Nat.le_of_ble_eq_true rfl, Nat.le_of_ble_eq_true rfl⟩, w_2, w_3⟩ ⟨EB.blind, va_recv hK hP (ci := 0) (q0 := 0) rfl rfl, EB.pre (hK.sub [] rfl) (hP.sub [0] rfl) hE hS⟩ rfl rfl hl.1 rfl (lv_room (Nat.le_of_ble_eq_true rfl)) dX2_isBeyondScale_1 ⟨Nat.le_of_ble_eq_true rfl, Nat.le_of_ble_eq_true rfl⟩)) (fun r9 e9 => ?_)
  rw [e9]
  refine lv_if_eq (tgt := 9) hx hb dX2_isBeyondScale_4 (by decide) (fun c_1 => ?_) (fun c_1 => ?_)
  · refine lv_aload_n hx hb dX2_isBeyondScale_9 rfl (lv_at hl 0 rfl) ?_
    refine va_gets (v := .ref (ad 4)) hx hb (hE.1.1 4 (by decide)).1 hS hown w_4 (fun _ h9 => h9) dX2_isBeyondScale_10 ?_
    refine vp_callSi (va_cr (va_runVN (As := [.ref (ad 4)]) (rest := []) ⟨hx, hb, hml, hown, hts⟩ (c_X1_isOf l D ad y ty fy 4 (by decide)) ⟨va_cnB 1 hts gX2_isBeyondScale_X1_isOf_n112 rfl rfl rfl (hE.2.1 _ (List.mem_of_getElem? (i := 0) rfl)) w_1 kS_X1_isOf ⟨Nat.le_of_ble_eq_true rfl, Nat.le_of_ble_eq_true rfl⟩, w_5, w_6⟩ ⟨EB.blind, va_recv hK hP (ci := 0) (q0 := 0) rfl rfl, EB.pre (hK.sub [] rfl) (hP.sub [0] rfl) hE hS⟩ rfl rfl hl.1 rfl (lv_room (Nat.le_of_ble_eq_true rfl)) dX2_isBeyondScale_13 ⟨Nat.le_of_ble_eq_true rfl, Nat.le_of_ble_eq_true rfl⟩)) (fun r9 e9 => ?_)
    rw [e9]
    refine q_cut (v := bI (if bI (R_isOf ty fy 4) = 0 then (if (R_exp ty fy) < 14 then false else true) else true)) (pcJ := 33) (rest := []) (fun J => ?_) ?_
    · refine lv_if_ne (tgt := 28) hx hb dX2_isBeyondScale_16 (by decide) (fun c_2 => ?_) (fun c_2 => ?_)
      · refine lv_iconst (v := 1) hx hb dX2_isBeyondScale_28 (by decide) ?_
        refine lv_goto (tgt := 33) hx hb dX2_isBeyondScale_29 (by decide) ?_
        exact J _ (by rw [if_neg c_2]; try rfl)
      · refine lv_aload_n hx hb dX2_isBeyondScale_19 rfl (lv_at hl 0 rfl) ?_
        refine vp_callSi (va_cr (va_runVN (As := []) (rest := []) ⟨hx, hb, hml, hown, hts⟩ (c_X1_exponent l D ad y ty fy) ⟨va_cnB 0 hts gX2_isBeyondScale_X1_exponent_n223 rfl rfl rfl (hE.2.1 _ (List.mem_of_getElem? (i := 3) rfl)) w_1 kS_X1_exponent ⟨Nat.le_of_ble_eq_true rfl, Nat.le_of_ble_eq_true rfl⟩, w_7, w_8⟩ ⟨EB.blind, va_recv hK hP (ci := 0) (q0 := 0) rfl rfl, EB.pre (hK.sub [] rfl) (hP.sub [0] rfl) hE hS⟩ rfl rfl hl.1 rfl (lv_room (Nat.le_of_ble_eq_true rfl)) dX2_isBeyondScale_20 ⟨Nat.le_of_ble_eq_true rfl, Nat.le_of_ble_eq_true rfl⟩)) (fun r9 e9 => ?_)
        rw [e9]
        refine lv_bipush (v := 14) hx hb dX2_isBeyondScale_23 (by decide) ?_
        refine lv_icmp_lt (tgt := 32) hx hb dX2_isBeyondScale_25 (by decide) (fun c_3 => ?_) (fun c_3 => ?_)
        · refine lv_iconst (v := 0) hx hb dX2_isBeyondScale_32 (by decide) ?_
          exact J _ (by rw [if_pos c_2, if_pos c_3]; try rfl)
        · refine lv_iconst (v := 1) hx hb dX2_isBeyondScale_28 (by decide) ?_
          refine lv_goto (tgt := 33) hx hb dX2_isBeyondScale_29 (by decide) ?_
          exact J _ (by rw [if_pos c_2, if_neg c_3]; try rfl)
    have hw : R_beyond ty fy = (if bI (R_isOf ty fy 4) = 0 then (if (R_exp ty fy) < 14 then false else true) else true) := by unfold R_beyond; rw [if_pos c_1]; try rfl
    exact W.zret hx hb hr (bI_nar _) (fun t9 ht hW => ⟨_, rfl, (congrArg bI hw).symm, ht⟩) t_nil dX2_isBeyondScale_33
  · refine lv_iconst (v := 0) hx hb dX2_isBeyondScale_7 (by decide) ?_
    have hw : R_beyond ty fy = false := by unfold R_beyond; rw [if_neg c_1]; try rfl
    exact W.zret hx hb hr rfl (fun t9 ht hW => ⟨_, rfl, (congrArg bI hw).symm, ht⟩) t_nil dX2_isBeyondScale_8
def R_cutOff (ty : Int32) (fy : Int64) : Int32 :=
  if bI (R_nought ty fy) = 0 then (if 0 ≤ (R_exp ty fy) then (if bI (R_neg ty) = 0 then ((jlushr (R_norm fy) (63 - (R_exp ty fy)))).toInt32 else (-(((jlushr (R_norm fy) (63 - (R_exp ty fy)))).toInt32)))
    else 0)
  else 0
theorem kS_X2_cutOff : yX2_cutOff.cls ≠ "java/lang/invoke/MethodHandle" ∧ yX2_cutOff.cls ≠ "java/lang/invoke/VarHandle" ∧ (parseMethodDescriptor yX2_cutOff.desc).map (fun d => d.parameters.length) = some 1 := by decide +kernel
set_option maxHeartbeats 4000000 in
set_option maxRecDepth 100000 in
theorem c_X2_cutOff (l : Launch) (D : va_G) (ad : Nat → Nat) (y : Nat) (ty : Int32) (fy : Int64) : Met l yX2_cutOff wsX2_cutOff ({ frames := 3, cells := 0, slots := 0, locals := 63 } : Room) (va_Pc [.ref y] (EB D [] ad [cReal y ty fy])) (vp_Si (fun r => r = R_cutOff ty fy)) 0 0 (fun _ => False) := by
  refine Met.ofW (cc := cX2_cutOff) (maxL := 3) (ret := (some .int)) (by decide) rfl ?_
  intro p e s m args below meth c s₁ B hml hv
  obtain ⟨rfl, hP, hK, hE⟩ := hv
  have hx := B.exec
  have hb := B.bytes
  have hr := B.returns
  have hts := atoms_spec (ws := wsX2_cutOff) B.pre
  have hown : s.vm.findClass RX2 = some m.cls := findClass_of_methodNamed B.named
  have hlocks := B.notSynchronized
  have w_1 := hts (.initialized RX1) (by decide +kernel)
  have w_2 := hts (.instanceMethod yX1_exponent) (by decide +kernel)
  have w_3 := hts (.selects RX1 yX1_exponent yX1_exponent) (by decide +kernel)
  have w_4 := hts (.instanceMethod yX1_isNought) (by decide +kernel)
  have w_5 := hts (.selects RX1 yX1_isNought yX1_isNought) (by decide +kernel)
  have w_6 := hts (.instanceMethod yX1_normalised) (by decide +kernel)
  have w_7 := hts (.selects RX1 yX1_normalised yX1_normalised) (by decide +kernel)
  have w_8 := hts (.instanceMethod yX1_isNegative) (by decide +kernel)
  have w_9 := hts (.selects RX1 yX1_isNegative yX1_isNegative) (by decide +kernel)
  have hS : va_S (fun _ : Nat => False) s.heap s.heap [] := va_S.rf
  have hl := lv_entry ([.ref y]) (n := 3) (Nat.le_of_ble_eq_true rfl)
  rw [lg_entry_eq]
  generalize (lg_sl ([.ref y]) ++ List.replicate (3 - (lg_sl ([.ref y])).length) Slot.unset).toArray = ls at hl ⊢
  have hl : lv_has ls 3 [(0, .ref y)] := hl
  refine lv_aload_n hx hb dX2_cutOff_0 rfl (lv_at hl 0 rfl) ?_
  refine vp_callSi (va_cr (va_runVN (As := []) (rest := []) ⟨hx, hb, hml, hown, hts⟩ (c_X1_exponent l D ad y ty fy) ⟨va_cnB 0 hts gX2_cutOff_X1_exponent_n223 rfl rfl rfl (hE.2.1 _ (List.mem_of_getElem? (i := 3) rfl)) w_1 kS_X1_exponent ⟨Nat.le_of_ble_eq_true rfl, Nat.le_of_ble_eq_true rfl⟩, w_2, w_3⟩ ⟨EB.blind, va_recv hK hP (ci := 0) (q0 := 0) rfl rfl, EB.pre (hK.sub [] rfl) (hP.sub [0] rfl) hE hS⟩ rfl rfl hl.1 rfl (lv_room (Nat.le_of_ble_eq_true rfl)) dX2_cutOff_1 ⟨Nat.le_of_ble_eq_true rfl, Nat.le_of_ble_eq_true rfl⟩)) (fun r9 e9 => ?_)
  rw [e9]
  refine lv_istore_n (lv' := [(1, .int (R_exp ty fy)), (0, .ref y)]) hx hb dX2_cutOff_4 rfl hl (by decide) rfl (fun ls hl => ?_)
  refine lv_aload_n hx hb dX2_cutOff_5 rfl (lv_at hl 1 rfl) ?_
  refine vp_callSi (va_cr (va_runVN (As := []) (rest := []) ⟨hx, hb, hml, hown, hts⟩ (c_X1_isNought l D ad y ty fy) ⟨va_cnB 0 hts gX2_cutOff_X1_isNought_n96 rfl rfl rfl (hE.2.1 _ (List.mem_of_getElem? (i := 8) rfl)) w_1 kS_X1_isNought ⟨Nat.le_of_ble_eq_true rfl, Nat.le_of_ble_eq_true rfl⟩, w_4, w_5⟩ ⟨EB.blind, va_recv hK hP (ci := 0) (q0 := 0) rfl rfl, EB.pre (hK.sub [] rfl) (hP.sub [0] rfl) hE hS⟩ rfl rfl hl.1 rfl (lv_room (Nat.le_of_ble_eq_true rfl)) dX2_cutOff_6 ⟨Nat.le_of_ble_eq_true rfl, Nat.le_of_ble_eq_true rfl⟩)) (fun r9 e9 => ?_)
  rw [e9]
  refine lv_if_ne (tgt := 16) hx hb dX2_cutOff_9 (by decide) (fun c_1 => ?_) (fun c_1 => ?_)
  · refine lv_iconst (v := 0) hx hb dX2_cutOff_16 (by decide) ?_
    have hw : R_cutOff ty fy = 0 := by unfold R_cutOff; rw [if_neg c_1]; try rfl
    exact W.iret hx hb hr (fun t9 ht hW => ⟨_, rfl, hw.symm, ht⟩) t_nil dX2_cutOff_17
  · refine lv_iload_n hx hb dX2_cutOff_12 rfl (lv_at hl 0 rfl) ?_
    refine lv_if_ge (tgt := 18) hx hb dX2_cutOff_13 (by decide) (fun c_2 => ?_) (fun c_2 => ?_)
    · refine lv_aload_n hx hb dX2_cutOff_18 rfl (lv_at hl 1 rfl) ?_
      refine vp_callSl (va_cr (va_runVN (As := []) (rest := []) ⟨hx, hb, hml, hown, hts⟩ (c_X1_normalised l D ad y ty fy) ⟨va_cnB 0 hts gX2_cutOff_X1_normalised_n233 rfl rfl rfl (hE.2.1 _ (List.mem_of_getElem? (i := 5) rfl)) w_1 kS_X1_normalised ⟨Nat.le_of_ble_eq_true rfl, Nat.le_of_ble_eq_true rfl⟩, w_6, w_7⟩ ⟨EB.blind, va_recv hK hP (ci := 0) (q0 := 0) rfl rfl, EB.pre (hK.sub [] rfl) (hP.sub [0] rfl) hE hS⟩ rfl rfl hl.1 rfl (lv_room (Nat.le_of_ble_eq_true rfl)) dX2_cutOff_19 ⟨Nat.le_of_ble_eq_true rfl, Nat.le_of_ble_eq_true rfl⟩)) (fun r9 e9 => ?_)
      rw [e9]
      refine lv_bipush (v := 63) hx hb dX2_cutOff_22 (by decide) ?_
      refine lv_iload_n hx hb dX2_cutOff_24 rfl (lv_at hl 0 rfl) ?_
      refine lv_isub hx hb dX2_cutOff_25 ?_
      refine lv_lushr (v := (jlushr (R_norm fy) (63 - (R_exp ty fy)))) hx hb dX2_cutOff_26 rfl ?_
      refine lv_l2i (v := ((jlushr (R_norm fy) (63 - (R_exp ty fy)))).toInt32) hx hb dX2_cutOff_27 rfl ?_
      refine lv_istore_n (lv' := [(2, .int (((jlushr (R_norm fy) (63 - (R_exp ty fy)))).toInt32)), (1, .int (R_exp ty fy)), (0, .ref y)]) hx hb dX2_cutOff_28 rfl hl (by decide) rfl (fun ls hl => ?_)
      refine lv_aload_n hx hb dX2_cutOff_29 rfl (lv_at hl 2 rfl) ?_
      refine vp_callSi (va_cr (va_runVN (As := []) (rest := []) ⟨hx, hb, hml, hown, hts⟩ (c_X1_isNegative l D ad y ty fy) ⟨va_cnB 0 hts gX2_cutOff_X1_isNegative_n137 rfl rfl rfl (hE.2.1 _ (List.mem_of_getElem? (i := 2) rfl)) w_1 kS_X1_isNegative ⟨Nat.le_of_ble_eq_true rfl, Nat.le_of_ble_eq_true rfl⟩, w_8, w_9⟩ ⟨EB.blind, va_recv hK hP (ci := 0) (q0 := 0) rfl rfl, EB.pre (hK.sub [] rfl) (hP.sub [0] rfl) hE hS⟩ rfl rfl hl.1 rfl (lv_room (Nat.le_of_ble_eq_true rfl)) dX2_cutOff_30 ⟨Nat.le_of_ble_eq_true rfl, Nat.le_of_ble_eq_true rfl⟩)) (fun r9 e9 => ?_)
      rw [e9]
      refine q_cut (v := (if bI (R_neg ty) = 0 then ((jlushr (R_norm fy) (63 - (R_exp ty fy)))).toInt32 else (-(((jlushr (R_norm fy) (63 - (R_exp ty fy)))).toInt32)))) (pcJ := 42) (rest := []) (fun J => ?_) ?_
      · refine lv_if_eq (tgt := 41) hx hb dX2_cutOff_33 (by decide) (fun c_3 => ?_) (fun c_3 => ?_)
        · refine lv_iload_n hx hb dX2_cutOff_41 rfl (lv_at hl 0 rfl) ?_
          exact J _ (by rw [if_pos c_3]; try rfl)
        · refine lv_iload_n hx hb dX2_cutOff_36 rfl (lv_at hl 0 rfl) ?_
          refine lv_ineg hx hb dX2_cutOff_37 ?_
          refine lv_goto (tgt := 42) hx hb dX2_cutOff_38 (by decide) ?_
          exact J _ (by rw [if_neg c_3]; try rfl)
      have hw : R_cutOff ty fy = (if bI (R_neg ty) = 0 then ((jlushr (R_norm fy) (63 - (R_exp ty fy)))).toInt32 else (-(((jlushr (R_norm fy) (63 - (R_exp ty fy)))).toInt32))) := by unfold R_cutOff; rw [if_pos c_1, if_pos c_2]; try rfl
      exact W.iret hx hb hr (fun t9 ht hW => ⟨_, rfl, hw.symm, ht⟩) t_nil dX2_cutOff_42
    · refine lv_iconst (v := 0) hx hb dX2_cutOff_16 (by decide) ?_
      have hw : R_cutOff ty fy = 0 := by unfold R_cutOff; rw [if_pos c_1, if_neg c_2]; try rfl
      exact W.iret hx hb hr (fun t9 ht hW => ⟨_, rfl, hw.symm, ht⟩) t_nil dX2_cutOff_17
def R_sizes (tx : Int32) (fx : Int64) (ty : Int32) (fy : Int64) : Int32 :=
  if bI (R_isOf tx fx 4) = bI (R_isOf ty fy 4) then (if bI (R_isOf tx fx 4) = 0 then (if (R_exp tx fx) = (R_exp ty fy) then (if (R_norm fx) = (R_norm fy) then 0
        else (if 0 ≤ (J_cmpU (R_norm fx) (R_norm fy)) then 1 else (-1)))
      else (if (R_exp ty fy) ≤ (R_exp tx fx) then 1 else (-1)))
    else 0)
  else (if bI (R_isOf tx fx 4) = 0 then (-1) else 1)
theorem kS_X2_orderOfSizes : yX2_orderOfSizes.cls ≠ "java/lang/invoke/MethodHandle" ∧ yX2_orderOfSizes.cls ≠ "java/lang/invoke/VarHandle" ∧ (parseMethodDescriptor yX2_orderOfSizes.desc).map (fun d => d.parameters.length) = some 2 := by decide +kernel
set_option maxHeartbeats 4000000 in
set_option maxRecDepth 100000 in
theorem c_X2_orderOfSizes (l : Launch) (D : va_G) (ad : Nat → Nat) (x : Nat) (tx : Int32) (fx : Int64) (y : Nat) (ty : Int32) (fy : Int64) : Met l yX2_orderOfSizes wsX2_orderOfSizes ({ frames := 3, cells := 0, slots := 0, locals := 63 } : Room) (va_Pc [.ref x, .ref y] (EB D [] ad [cReal x tx fx, cReal y ty fy])) (vp_Si (fun r => r = R_sizes tx fx ty fy)) 0 0 (fun _ => False) := by
  refine Met.ofW (cc := cX2_orderOfSizes) (maxL := 3) (ret := (some .int)) (by decide) rfl ?_
  intro p e s m args below meth c s₁ B hml hv
  obtain ⟨rfl, hP, hK, hE⟩ := hv
  have hx := B.exec
  have hb := B.bytes
  have hr := B.returns
  have hts := atoms_spec (ws := wsX2_orderOfSizes) B.pre
  have hown : s.vm.findClass RX2 = some m.cls := findClass_of_methodNamed B.named
  have hlocks := B.notSynchronized
  have w_1 := hts (.fieldLink RX2 106 "RealSteps$Kind" "INFINITE" "LRealSteps$Kind;") (by decide +kernel)
  have w_2 := hts (.initialized RX1) (by decide +kernel)
  have w_3 := hts (.instanceMethod yX1_isOf) (by decide +kernel)
  have w_4 := hts (.selects RX1 yX1_isOf yX1_isOf) (by decide +kernel)
  have w_5 := hts (.instanceMethod yX1_exponent) (by decide +kernel)
  have w_6 := hts (.selects RX1 yX1_exponent yX1_exponent) (by decide +kernel)
  have w_7 := hts (.instanceMethod yX1_normalised) (by decide +kernel)
  have w_8 := hts (.selects RX1 yX1_normalised yX1_normalised) (by decide +kernel)
  have hS : va_S (fun _ : Nat => False) s.heap s.heap [] := va_S.rf
  have hl := lv_entry ([.ref x, .ref y]) (n := 3) (Nat.le_of_ble_eq_true rfl)
  rw [lg_entry_eq]
  generalize (lg_sl ([.ref x, .ref y]) ++ List.replicate (3 - (lg_sl ([.ref x, .ref y])).length) Slot.unset).toArray = ls at hl ⊢
  have hl : lv_has ls 3 [(0, .ref x), (1, .ref y)] := hl
  refine lv_aload_n hx hb dX2_orderOfSizes_0 rfl (lv_at hl 0 rfl) ?_
  refine va_gets (v := .ref (ad 4)) hx hb (hE.1.1 4 (by decide)).1 hS hown w_1 (fun _ h9 => h9) dX2_orderOfSizes_1 ?_
  refine vp_callSi (va_cr (va_runVN (As := [.ref (ad 4)]) (rest := []) ⟨hx, hb, hml, hown, hts⟩ (c_X1_isOf l D ad x tx fx 4 (by decide)) ⟨va_cnB 1 hts gX2_orderOfSizes_X1_isOf_n112 rfl rfl rfl (hE.2.1 _ (List.mem_of_getElem? (i := 0) rfl)) w_2 kS_X1_isOf ⟨Nat.le_of_ble_eq_true rfl, Nat.le_of_ble_eq_true rfl⟩, w_3, w_4⟩ ⟨EB.blind, va_recv hK hP (ci := 0) (q0 := 0) rfl rfl, EB.pre (hK.sub [] rfl) (hP.sub [0] rfl) hE hS⟩ rfl rfl hl.1 rfl (lv_room (Nat.le_of_ble_eq_true rfl)) dX2_orderOfSizes_4 ⟨Nat.le_of_ble_eq_true rfl, Nat.le_of_ble_eq_true rfl⟩)) (fun r9 e9 => ?_)
  rw [e9]
  refine lv_istore_n (lv' := [(2, .int (bI (R_isOf tx fx 4))), (0, .ref x), (1, .ref y)]) hx hb dX2_orderOfSizes_7 rfl hl (by decide) rfl (fun ls hl => ?_)
  refine lv_iload_n hx hb dX2_orderOfSizes_8 rfl (lv_at hl 0 rfl) ?_
  refine lv_aload_n hx hb dX2_orderOfSizes_9 rfl (lv_at hl 2 rfl) ?_
  refine va_gets (v := .ref (ad 4)) hx hb (hE.1.1 4 (by decide)).1 hS hown w_1 (fun _ h9 => h9) dX2_orderOfSizes_10 ?_
  refine vp_callSi (va_cr (va_runVN (As := [.ref (ad 4)]) (rest := [.int (bI (R_isOf tx fx 4))]) ⟨hx, hb, hml, hown, hts⟩ (c_X1_isOf l D ad y ty fy 4 (by decide)) ⟨va_cnB 1 hts gX2_orderOfSizes_X1_isOf_n112 rfl rfl rfl (hE.2.1 _ (List.mem_of_getElem? (i := 0) rfl)) w_2 kS_X1_isOf ⟨Nat.le_of_ble_eq_true rfl, Nat.le_of_ble_eq_true rfl⟩, w_3, w_4⟩ ⟨EB.blind, va_recv hK hP (ci := 0) (q0 := 1) rfl rfl, EB.pre (hK.sub [] rfl) (hP.sub [1] rfl) hE hS⟩ rfl rfl hl.1 rfl (lv_room (Nat.le_of_ble_eq_true rfl)) dX2_orderOfSizes_13 ⟨Nat.le_of_ble_eq_true rfl, Nat.le_of_ble_eq_true rfl⟩)) (fun r9 e9 => ?_)
  rw [e9]
  refine lv_icmp_eq (tgt := 29) hx hb dX2_orderOfSizes_16 (by decide) (fun c_1 => ?_) (fun c_1 => ?_)
  · refine lv_iload_n hx hb dX2_orderOfSizes_29 rfl (lv_at hl 0 rfl) ?_
    refine lv_if_eq (tgt := 35) hx hb dX2_orderOfSizes_30 (by decide) (fun c_2 => ?_) (fun c_2 => ?_)
    · refine lv_aload_n hx hb dX2_orderOfSizes_35 rfl (lv_at hl 1 rfl) ?_
      refine vp_callSi (va_cr (va_runVN (As := []) (rest := []) ⟨hx, hb, hml, hown, hts⟩ (c_X1_exponent l D ad x tx fx) ⟨va_cnB 0 hts gX2_orderOfSizes_X1_exponent_n223 rfl rfl rfl (hE.2.1 _ (List.mem_of_getElem? (i := 3) rfl)) w_2 kS_X1_exponent ⟨Nat.le_of_ble_eq_true rfl, Nat.le_of_ble_eq_true rfl⟩, w_5, w_6⟩ ⟨EB.blind, va_recv hK hP (ci := 0) (q0 := 0) rfl rfl, EB.pre (hK.sub [] rfl) (hP.sub [0] rfl) hE hS⟩ rfl rfl hl.1 rfl (lv_room (Nat.le_of_ble_eq_true rfl)) dX2_orderOfSizes_36 ⟨Nat.le_of_ble_eq_true rfl, Nat.le_of_ble_eq_true rfl⟩)) (fun r9 e9 => ?_)
      rw [e9]
      refine lv_aload_n hx hb dX2_orderOfSizes_39 rfl (lv_at hl 2 rfl) ?_
      refine vp_callSi (va_cr (va_runVN (As := []) (rest := [.int (R_exp tx fx)]) ⟨hx, hb, hml, hown, hts⟩ (c_X1_exponent l D ad y ty fy) ⟨va_cnB 0 hts gX2_orderOfSizes_X1_exponent_n223 rfl rfl rfl (hE.2.1 _ (List.mem_of_getElem? (i := 3) rfl)) w_2 kS_X1_exponent ⟨Nat.le_of_ble_eq_true rfl, Nat.le_of_ble_eq_true rfl⟩, w_5, w_6⟩ ⟨EB.blind, va_recv hK hP (ci := 0) (q0 := 1) rfl rfl, EB.pre (hK.sub [] rfl) (hP.sub [1] rfl) hE hS⟩ rfl rfl hl.1 rfl (lv_room (Nat.le_of_ble_eq_true rfl)) dX2_orderOfSizes_40 ⟨Nat.le_of_ble_eq_true rfl, Nat.le_of_ble_eq_true rfl⟩)) (fun r9 e9 => ?_)
      rw [e9]
      refine lv_icmp_eq (tgt := 63) hx hb dX2_orderOfSizes_43 (by decide) (fun c_3 => ?_) (fun c_3 => ?_)
      · refine lv_aload_n hx hb dX2_orderOfSizes_63 rfl (lv_at hl 1 rfl) ?_
        refine vp_callSl (va_cr (va_runVN (As := []) (rest := []) ⟨hx, hb, hml, hown, hts⟩ (c_X1_normalised l D ad x tx fx) ⟨va_cnB 0 hts gX2_orderOfSizes_X1_normalised_n233 rfl rfl rfl (hE.2.1 _ (List.mem_of_getElem? (i := 5) rfl)) w_2 kS_X1_normalised ⟨Nat.le_of_ble_eq_true rfl, Nat.le_of_ble_eq_true rfl⟩, w_7, w_8⟩ ⟨EB.blind, va_recv hK hP (ci := 0) (q0 := 0) rfl rfl, EB.pre (hK.sub [] rfl) (hP.sub [0] rfl) hE hS⟩ rfl rfl hl.1 rfl (lv_room (Nat.le_of_ble_eq_true rfl)) dX2_orderOfSizes_64 ⟨Nat.le_of_ble_eq_true rfl, Nat.le_of_ble_eq_true rfl⟩)) (fun r9 e9 => ?_)
        rw [e9]
        refine lv_aload_n hx hb dX2_orderOfSizes_67 rfl (lv_at hl 2 rfl) ?_
        refine vp_callSl (va_cr (va_runVN (As := []) (rest := [.long (R_norm fx)]) ⟨hx, hb, hml, hown, hts⟩ (c_X1_normalised l D ad y ty fy) ⟨va_cnB 0 hts gX2_orderOfSizes_X1_normalised_n233 rfl rfl rfl (hE.2.1 _ (List.mem_of_getElem? (i := 5) rfl)) w_2 kS_X1_normalised ⟨Nat.le_of_ble_eq_true rfl, Nat.le_of_ble_eq_true rfl⟩, w_7, w_8⟩ ⟨EB.blind, va_recv hK hP (ci := 0) (q0 := 1) rfl rfl, EB.pre (hK.sub [] rfl) (hP.sub [1] rfl) hE hS⟩ rfl rfl hl.1 rfl (lv_room (Nat.le_of_ble_eq_true rfl)) dX2_orderOfSizes_68 ⟨Nat.le_of_ble_eq_true rfl, Nat.le_of_ble_eq_true rfl⟩)) (fun r9 e9 => ?_)
        rw [e9]
        refine q_cl_ne (tgt := 77) hx hb dX2_orderOfSizes_71 dX2_orderOfSizes_72 (by decide) (fun c_4 => ?_) (fun c_4 => ?_)
        · refine lv_aload_n hx hb dX2_orderOfSizes_77 rfl (lv_at hl 1 rfl) ?_
          refine vp_callSl (va_cr (va_runVN (As := []) (rest := []) ⟨hx, hb, hml, hown, hts⟩ (c_X1_normalised l D ad x tx fx) ⟨va_cnB 0 hts gX2_orderOfSizes_X1_normalised_n233 rfl rfl rfl (hE.2.1 _ (List.mem_of_getElem? (i := 5) rfl)) w_2 kS_X1_normalised ⟨Nat.le_of_ble_eq_true rfl, Nat.le_of_ble_eq_true rfl⟩, w_7, w_8⟩ ⟨EB.blind, va_recv hK hP (ci := 0) (q0 := 0) rfl rfl, EB.pre (hK.sub [] rfl) (hP.sub [0] rfl) hE hS⟩ rfl rfl hl.1 rfl (lv_room (Nat.le_of_ble_eq_true rfl)) dX2_orderOfSizes_78 ⟨Nat.le_of_ble_eq_true rfl, Nat.le_of_ble_eq_true rfl⟩)) (fun r9 e9 => ?_)
          rw [e9]
          refine lv_aload_n hx hb dX2_orderOfSizes_81 rfl (lv_at hl 2 rfl) ?_
          refine vp_callSl (va_cr (va_runVN (As := []) (rest := [.long (R_norm fx)]) ⟨hx, hb, hml, hown, hts⟩ (c_X1_normalised l D ad y ty fy) ⟨va_cnB 0 hts gX2_orderOfSizes_X1_normalised_n233 rfl rfl rfl (hE.2.1 _ (List.mem_of_getElem? (i := 5) rfl)) w_2 kS_X1_normalised ⟨Nat.le_of_ble_eq_true rfl, Nat.le_of_ble_eq_true rfl⟩, w_7, w_8⟩ ⟨EB.blind, va_recv hK hP (ci := 0) (q0 := 1) rfl rfl, EB.pre (hK.sub [] rfl) (hP.sub [1] rfl) hE hS⟩ rfl rfl hl.1 rfl (lv_room (Nat.le_of_ble_eq_true rfl)) dX2_orderOfSizes_82 ⟨Nat.le_of_ble_eq_true rfl, Nat.le_of_ble_eq_true rfl⟩)) (fun r9 e9 => ?_)
          rw [e9]
          refine vp_callSi (va_cr (va_runS (As := [.long (R_norm fx), .long (R_norm fy)]) (rest := []) ⟨hx, hb, hml, hown, hts⟩ (c_J13_compareUnsigned_74951 l (R_norm fx) (R_norm fy)) (va_cwS 2 hts gX2_orderOfSizes_J13_compareUnsigned_74951 rfl rfl rfl kS_J13_compareUnsigned_74951 ⟨Nat.le_of_ble_eq_true rfl, Nat.le_of_ble_eq_true rfl⟩) ⟨TB.blind, TB.pre⟩ rfl rfl hl.1 rfl (lv_room (Nat.le_of_ble_eq_true rfl)) dX2_orderOfSizes_85 ⟨Nat.le_of_ble_eq_true rfl, Nat.le_of_ble_eq_true rfl⟩)) (fun r9 e9 => ?_)
          rw [e9]
          refine q_cut (v := (if 0 ≤ (J_cmpU (R_norm fx) (R_norm fy)) then 1 else (-1))) (pcJ := 96) (rest := []) (fun J => ?_) ?_
          · refine lv_if_ge (tgt := 95) hx hb dX2_orderOfSizes_88 (by decide) (fun c_5 => ?_) (fun c_5 => ?_)
            · refine lv_iconst (v := 1) hx hb dX2_orderOfSizes_95 (by decide) ?_
              exact J _ (by rw [if_pos c_5]; try rfl)
            · refine lv_iconst (v := (-1)) hx hb dX2_orderOfSizes_91 (by decide) ?_
              refine lv_goto (tgt := 96) hx hb dX2_orderOfSizes_92 (by decide) ?_
              exact J _ (by rw [if_neg c_5]; try rfl)
          have hw : R_sizes tx fx ty fy = (if 0 ≤ (J_cmpU (R_norm fx) (R_norm fy)) then 1 else (-1)) := by unfold R_sizes; rw [if_pos c_1, if_pos c_2, if_pos c_3, if_neg c_4]; try rfl
          exact W.iret hx hb hr (fun t9 ht hW => ⟨_, rfl, hw.symm, ht⟩) t_nil dX2_orderOfSizes_96
        · refine lv_iconst (v := 0) hx hb dX2_orderOfSizes_75 (by decide) ?_
          have hw : R_sizes tx fx ty fy = 0 := by unfold R_sizes; rw [if_pos c_1, if_pos c_2, if_pos c_3, if_pos c_4]; try rfl
          exact W.iret hx hb hr (fun t9 ht hW => ⟨_, rfl, hw.symm, ht⟩) t_nil dX2_orderOfSizes_76
      · refine lv_aload_n hx hb dX2_orderOfSizes_46 rfl (lv_at hl 1 rfl) ?_
        refine vp_callSi (va_cr (va_runVN (As := []) (rest := []) ⟨hx, hb, hml, hown, hts⟩ (c_X1_exponent l D ad x tx fx) ⟨va_cnB 0 hts gX2_orderOfSizes_X1_exponent_n223 rfl rfl rfl (hE.2.1 _ (List.mem_of_getElem? (i := 3) rfl)) w_2 kS_X1_exponent ⟨Nat.le_of_ble_eq_true rfl, Nat.le_of_ble_eq_true rfl⟩, w_5, w_6⟩ ⟨EB.blind, va_recv hK hP (ci := 0) (q0 := 0) rfl rfl, EB.pre (hK.sub [] rfl) (hP.sub [0] rfl) hE hS⟩ rfl rfl hl.1 rfl (lv_room (Nat.le_of_ble_eq_true rfl)) dX2_orderOfSizes_47 ⟨Nat.le_of_ble_eq_true rfl, Nat.le_of_ble_eq_true rfl⟩)) (fun r9 e9 => ?_)
        rw [e9]
        refine lv_aload_n hx hb dX2_orderOfSizes_50 rfl (lv_at hl 2 rfl) ?_
        refine vp_callSi (va_cr (va_runVN (As := []) (rest := [.int (R_exp tx fx)]) ⟨hx, hb, hml, hown, hts⟩ (c_X1_exponent l D ad y ty fy) ⟨va_cnB 0 hts gX2_orderOfSizes_X1_exponent_n223 rfl rfl rfl (hE.2.1 _ (List.mem_of_getElem? (i := 3) rfl)) w_2 kS_X1_exponent ⟨Nat.le_of_ble_eq_true rfl, Nat.le_of_ble_eq_true rfl⟩, w_5, w_6⟩ ⟨EB.blind, va_recv hK hP (ci := 0) (q0 := 1) rfl rfl, EB.pre (hK.sub [] rfl) (hP.sub [1] rfl) hE hS⟩ rfl rfl hl.1 rfl (lv_room (Nat.le_of_ble_eq_true rfl)) dX2_orderOfSizes_51 ⟨Nat.le_of_ble_eq_true rfl, Nat.le_of_ble_eq_true rfl⟩)) (fun r9 e9 => ?_)
        rw [e9]
        refine q_cut (v := (if (R_exp ty fy) ≤ (R_exp tx fx) then 1 else (-1))) (pcJ := 62) (rest := []) (fun J => ?_) ?_
        · refine lv_icmp_ge (tgt := 61) hx hb dX2_orderOfSizes_54 (by decide) (fun c_6 => ?_) (fun c_6 => ?_)
          · refine lv_iconst (v := 1) hx hb dX2_orderOfSizes_61 (by decide) ?_
            exact J _ (by rw [if_pos c_6]; try rfl)
          · refine lv_iconst (v := (-1)) hx hb dX2_orderOfSizes_57 (by decide) ?_
            refine lv_goto (tgt := 62) hx hb dX2_orderOfSizes_58 (by decide) ?_
            exact J _ (by rw [if_neg c_6]; try rfl)
        have hw : R_sizes tx fx ty fy = (if (R_exp ty fy) ≤ (R_exp tx fx) then 1 else (-1)) := by unfold R_sizes; rw [if_pos c_1, if_pos c_2, if_neg c_3]; try rfl
        exact W.iret hx hb hr (fun t9 ht hW => ⟨_, rfl, hw.symm, ht⟩) t_nil dX2_orderOfSizes_62
    · refine lv_iconst (v := 0) hx hb dX2_orderOfSizes_33 (by decide) ?_
      have hw : R_sizes tx fx ty fy = 0 := by unfold R_sizes; rw [if_pos c_1, if_neg c_2]; try rfl
      exact W.iret hx hb hr (fun t9 ht hW => ⟨_, rfl, hw.symm, ht⟩) t_nil dX2_orderOfSizes_34
  · refine lv_iload_n hx hb dX2_orderOfSizes_19 rfl (lv_at hl 0 rfl) ?_
    refine q_cut (v := (if bI (R_isOf tx fx 4) = 0 then (-1) else 1)) (pcJ := 28) (rest := []) (fun J => ?_) ?_
    · refine lv_if_eq (tgt := 27) hx hb dX2_orderOfSizes_20 (by decide) (fun c_7 => ?_) (fun c_7 => ?_)
      · refine lv_iconst (v := (-1)) hx hb dX2_orderOfSizes_27 (by decide) ?_
        exact J _ (by rw [if_pos c_7]; try rfl)
      · refine lv_iconst (v := 1) hx hb dX2_orderOfSizes_23 (by decide) ?_
        refine lv_goto (tgt := 28) hx hb dX2_orderOfSizes_24 (by decide) ?_
        exact J _ (by rw [if_neg c_7]; try rfl)
    have hw : R_sizes tx fx ty fy = (if bI (R_isOf tx fx 4) = 0 then (-1) else 1) := by unfold R_sizes; rw [if_neg c_1]; try rfl
    exact W.iret hx hb hr (fun t9 ht hW => ⟨_, rfl, hw.symm, ht⟩) t_nil dX2_orderOfSizes_28
def R_rounding (cw : Int32) : Int32 :=
  ((jiushr cw 10) &&& 3)
theorem kS_X2_rounding : yX2_rounding.cls ≠ "java/lang/invoke/MethodHandle" ∧ yX2_rounding.cls ≠ "java/lang/invoke/VarHandle" ∧ (parseMethodDescriptor yX2_rounding.desc).map (fun d => d.parameters.length) = some 0 := by decide +kernel
theorem kV_X2_rounding : yX2_rounding.cls = RX2 ∧ yX2_rounding.cls ≠ "java/lang/invoke/MethodHandle" ∧ yX2_rounding.cls ≠ "java/lang/invoke/VarHandle" ∧ (parseMethodDescriptor yX2_rounding.desc).map (fun d => d.parameters.length) = some 0 := ⟨rfl, kS_X2_rounding⟩
set_option maxHeartbeats 4000000 in
set_option maxRecDepth 100000 in
theorem c_X2_rounding (l : Launch) (D : va_G) (h : Nat) (q1 : Nat) (q2 : Nat) (cw : Int32) (td : Int32) (an : Bool) (qb : Int32) (pa : Bool) : Met l yX2_rounding wsX2_rounding ({ frames := 0, cells := 0, slots := 0, locals := 0 } : Room) (va_Pc [.ref h] (PB D [] [(h, .inr (1, [.ref q1, .ref q2, .int cw, .int td, .int (bI an), .int qb, .int (bI pa)]))])) (vp_Si (fun r => r = R_rounding cw)) 0 0 (fun _ => False) := by
  refine Met.ofW (cc := cX2_rounding) (maxL := 1) (ret := (some .int)) (by decide) rfl ?_
  intro p e s m args below meth c s₁ B hml hv
  obtain ⟨rfl, hP, hK⟩ := hv
  have hx := B.exec
  have hb := B.bytes
  have hr := B.returns
  have hts := atoms_spec (ws := wsX2_rounding) B.pre
  have hown : s.vm.findClass RX2 = some m.cls := findClass_of_methodNamed B.named
  have hlocks := B.notSynchronized
  have w_1 := hts (.fieldLink RX2 17 "RealSteps" "controlWord" "I") (by decide +kernel)
  have in_X2 : ∀ w ∈ wsX20, w ∈ wsX2_rounding := by decide +kernel
  have hl := lv_entry ([.ref h]) (n := 1) (Nat.le_of_ble_eq_true rfl)
  rw [lg_entry_eq]
  generalize (lg_sl ([.ref h]) ++ List.replicate (1 - (lg_sl ([.ref h])).length) Slot.unset).toArray = ls at hl ⊢
  have hl : lv_has ls 1 [(0, .ref h)] := hl
  refine lv_aload_n hx hb dX2_rounding_0 rfl (lv_at hl 0 rfl) ?_
  refine va_get (v := .int cw) (C := RX2) (T := TX2) (N := 7) hx hb hts in_X2 hown hK hP 0 rfl rfl 2 (by decide) w_1 (fun _ h9 => h9) rfl dX2_rounding_1 ?_
  refine lv_bipush (v := 10) hx hb dX2_rounding_4 (by decide) ?_
  refine lv_iushr (v := (jiushr cw 10)) hx hb dX2_rounding_6 rfl ?_
  refine lv_iconst (v := 3) hx hb dX2_rounding_7 (by decide) ?_
  refine lv_iand hx hb dX2_rounding_8 ?_
  have hw : R_rounding cw = ((jiushr cw 10) &&& 3) := rfl
  exact W.iret hx hb hr (fun t9 ht hW => ⟨_, rfl, hw.symm, ht⟩) t_nil dX2_rounding_9
def R_masked (cw : Int32) (bit : Int32) : Bool :=
  (if (cw &&& bit) = 0 then false else true)
theorem kS_X2_isMasked : yX2_isMasked.cls ≠ "java/lang/invoke/MethodHandle" ∧ yX2_isMasked.cls ≠ "java/lang/invoke/VarHandle" ∧ (parseMethodDescriptor yX2_isMasked.desc).map (fun d => d.parameters.length) = some 1 := by decide +kernel
theorem kV_X2_isMasked : yX2_isMasked.cls = RX2 ∧ yX2_isMasked.cls ≠ "java/lang/invoke/MethodHandle" ∧ yX2_isMasked.cls ≠ "java/lang/invoke/VarHandle" ∧ (parseMethodDescriptor yX2_isMasked.desc).map (fun d => d.parameters.length) = some 1 := ⟨rfl, kS_X2_isMasked⟩
set_option maxHeartbeats 4000000 in
set_option maxRecDepth 100000 in
theorem c_X2_isMasked (l : Launch) (D : va_G) (h : Nat) (q1 : Nat) (q2 : Nat) (cw : Int32) (td : Int32) (an : Bool) (qb : Int32) (pa : Bool) (bit : Int32) : Met l yX2_isMasked wsX2_isMasked ({ frames := 0, cells := 0, slots := 0, locals := 0 } : Room) (va_Pc [.ref h, .int bit] (PB D [] [(h, .inr (1, [.ref q1, .ref q2, .int cw, .int td, .int (bI an), .int qb, .int (bI pa)]))])) (vp_Si (fun r => r = bI (R_masked cw bit))) 0 0 (fun _ => False) := by
  refine Met.ofW (cc := cX2_isMasked) (maxL := 2) (ret := (some .boolean)) (by decide) rfl ?_
  intro p e s m args below meth c s₁ B hml hv
  obtain ⟨rfl, hP, hK⟩ := hv
  have hx := B.exec
  have hb := B.bytes
  have hr := B.returns
  have hts := atoms_spec (ws := wsX2_isMasked) B.pre
  have hown : s.vm.findClass RX2 = some m.cls := findClass_of_methodNamed B.named
  have hlocks := B.notSynchronized
  have w_1 := hts (.fieldLink RX2 17 "RealSteps" "controlWord" "I") (by decide +kernel)
  have in_X2 : ∀ w ∈ wsX20, w ∈ wsX2_isMasked := by decide +kernel
  have hl := lv_entry ([.ref h, .int bit]) (n := 2) (Nat.le_of_ble_eq_true rfl)
  rw [lg_entry_eq]
  generalize (lg_sl ([.ref h, .int bit]) ++ List.replicate (2 - (lg_sl ([.ref h, .int bit])).length) Slot.unset).toArray = ls at hl ⊢
  have hl : lv_has ls 2 [(0, .ref h), (1, .int bit)] := hl
  refine lv_aload_n hx hb dX2_isMasked_0 rfl (lv_at hl 0 rfl) ?_
  refine va_get (v := .int cw) (C := RX2) (T := TX2) (N := 7) hx hb hts in_X2 hown hK hP 0 rfl rfl 2 (by decide) w_1 (fun _ h9 => h9) rfl dX2_isMasked_1 ?_
  refine lv_iload_n hx hb dX2_isMasked_4 rfl (lv_at hl 1 rfl) ?_
  refine lv_iand hx hb dX2_isMasked_5 ?_
  refine q_cut (v := bI (if (cw &&& bit) = 0 then false else true)) (pcJ := 14) (rest := []) (fun J => ?_) ?_
  · refine lv_if_eq (tgt := 13) hx hb dX2_isMasked_6 (by decide) (fun c_1 => ?_) (fun c_1 => ?_)
    · refine lv_iconst (v := 0) hx hb dX2_isMasked_13 (by decide) ?_
      exact J _ (by rw [if_pos c_1]; try rfl)
    · refine lv_iconst (v := 1) hx hb dX2_isMasked_9 (by decide) ?_
      refine lv_goto (tgt := 14) hx hb dX2_isMasked_10 (by decide) ?_
      exact J _ (by rw [if_neg c_1]; try rfl)
  have hw : R_masked cw bit = (if (cw &&& bit) = 0 then false else true) := rfl
  exact W.zret hx hb hr (bI_nar _) (fun t9 ht hW => ⟨_, rfl, (congrArg bI hw).symm, ht⟩) t_nil dX2_isMasked_14
def R_away (cw : Int32) (ng : Bool) (fr : Int64) (sh : Int32) (kp : Int64) : Bool :=
  if (R_rounding cw) = 1 then ng
  else if (R_rounding cw) = 2 then (if bI ng = 0 then true else false)
  else if (R_rounding cw) = 3 then false
  else (R_nearer fr sh kp)
theorem kS_X2_isRoundedAway : yX2_isRoundedAway.cls ≠ "java/lang/invoke/MethodHandle" ∧ yX2_isRoundedAway.cls ≠ "java/lang/invoke/VarHandle" ∧ (parseMethodDescriptor yX2_isRoundedAway.desc).map (fun d => d.parameters.length) = some 4 := by decide +kernel
theorem kV_X2_isRoundedAway : yX2_isRoundedAway.cls = RX2 ∧ yX2_isRoundedAway.cls ≠ "java/lang/invoke/MethodHandle" ∧ yX2_isRoundedAway.cls ≠ "java/lang/invoke/VarHandle" ∧ (parseMethodDescriptor yX2_isRoundedAway.desc).map (fun d => d.parameters.length) = some 4 := ⟨rfl, kS_X2_isRoundedAway⟩
set_option maxHeartbeats 4000000 in
set_option maxRecDepth 100000 in
theorem c_X2_isRoundedAway (l : Launch) (D : va_G) (h : Nat) (q1 : Nat) (q2 : Nat) (cw : Int32) (td : Int32) (an : Bool) (qb : Int32) (pa : Bool) (ng : Bool) (fr : Int64) (sh : Int32) (kp : Int64) : Met l yX2_isRoundedAway wsX2_isRoundedAway ({ frames := 3, cells := 0, slots := 0, locals := 74 } : Room) (va_Pc [.ref h, .int (bI ng), .long fr, .int sh, .long kp] (PB D [] [(h, .inr (1, [.ref q1, .ref q2, .int cw, .int td, .int (bI an), .int qb, .int (bI pa)]))])) (vp_Si (fun r => r = bI (R_away cw ng fr sh kp))) 0 0 (fun _ => False) := by
  refine Met.ofW (cc := cX2_isRoundedAway) (maxL := 7) (ret := (some .boolean)) (by decide) rfl ?_
  intro p e s m args below meth c s₁ B hml hv
  obtain ⟨rfl, hP, hK⟩ := hv
  have hx := B.exec
  have hb := B.bytes
  have hr := B.returns
  have hts := atoms_spec (ws := wsX2_isRoundedAway) B.pre
  have hown : s.vm.findClass RX2 = some m.cls := findClass_of_methodNamed B.named
  have hlocks := B.notSynchronized
  have hl := lv_entry ([.ref h, .int (bI ng), .long fr, .int sh, .long kp]) (n := 7) (Nat.le_of_ble_eq_true rfl)
  rw [lg_entry_eq]
  generalize (lg_sl ([.ref h, .int (bI ng), .long fr, .int sh, .long kp]) ++ List.replicate (7 - (lg_sl ([.ref h, .int (bI ng), .long fr, .int sh, .long kp])).length) Slot.unset).toArray = ls at hl ⊢
  have hl : lv_has ls 7 [(0, .ref h), (1, .int (bI ng)), (2, .long fr), (4, .int sh), (5, .long kp)] := hl
  refine lv_aload_n hx hb dX2_isRoundedAway_0 rfl (lv_at hl 0 rfl) ?_
  refine vp_callSi (va_cr (va_runV (As := []) (rest := []) ⟨hx, hb, hml, hown, hts⟩ (c_X2_rounding l D h q1 q2 cw td an qb pa) (cwV 0 hts gX2_isRoundedAway_X2_rounding rfl rfl rfl kV_X2_rounding ⟨Nat.le_of_ble_eq_true rfl, Nat.le_of_ble_eq_true rfl⟩) ⟨PB.blind, va_recv hK hP (ci := 1) (q0 := 0) rfl rfl, PB.pre (hK.sub [] rfl) (hP.sub [0] rfl)⟩ rfl rfl hl.1 rfl (lv_room (Nat.le_of_ble_eq_true rfl)) dX2_isRoundedAway_1 ⟨Nat.le_of_ble_eq_true rfl, Nat.le_of_ble_eq_true rfl⟩)) (fun r9 e9 => ?_)
  rw [e9]
  refine (dite ((R_rounding cw) = 1) (fun c_1 => ?_) (fun c_1 => ?_))
  · refine lv_tableIn (tgt := 32) hx hb dX2_isRoundedAway_4 (by rw [c_1]; decide) (by rw [c_1]; decide) (by rw [c_1]; rfl) (by decide) ?_
    refine lv_iload_n hx hb dX2_isRoundedAway_32 rfl (lv_at hl 1 rfl) ?_
    have hw : R_away cw ng fr sh kp = ng := by unfold R_away; rw [if_pos c_1]; try rfl
    exact W.zret hx hb hr (bI_nar _) (fun t9 ht hW => ⟨_, rfl, (congrArg bI hw).symm, ht⟩) t_nil dX2_isRoundedAway_33
  · refine (dite ((R_rounding cw) = 2) (fun c_2 => ?_) (fun c_2 => ?_))
    · refine lv_tableIn (tgt := 34) hx hb dX2_isRoundedAway_4 (by rw [c_2]; decide) (by rw [c_2]; decide) (by rw [c_2]; rfl) (by decide) ?_
      refine lv_iload_n hx hb dX2_isRoundedAway_34 rfl (lv_at hl 1 rfl) ?_
      refine q_cut (v := bI (if bI ng = 0 then true else false)) (pcJ := 43) (rest := []) (fun J => ?_) ?_
      · refine lv_if_ne (tgt := 42) hx hb dX2_isRoundedAway_35 (by decide) (fun c_3 => ?_) (fun c_3 => ?_)
        · refine lv_iconst (v := 0) hx hb dX2_isRoundedAway_42 (by decide) ?_
          exact J _ (by rw [if_neg c_3]; try rfl)
        · refine lv_iconst (v := 1) hx hb dX2_isRoundedAway_38 (by decide) ?_
          refine lv_goto (tgt := 43) hx hb dX2_isRoundedAway_39 (by decide) ?_
          exact J _ (by rw [if_pos c_3]; try rfl)
      have hw : R_away cw ng fr sh kp = (if bI ng = 0 then true else false) := by unfold R_away; rw [if_neg c_1, if_pos c_2]; try rfl
      exact W.zret hx hb hr (bI_nar _) (fun t9 ht hW => ⟨_, rfl, (congrArg bI hw).symm, ht⟩) t_nil dX2_isRoundedAway_43
    · refine (dite ((R_rounding cw) = 3) (fun c_4 => ?_) (fun c_4 => ?_))
      · refine lv_tableIn (tgt := 44) hx hb dX2_isRoundedAway_4 (by rw [c_4]; decide) (by rw [c_4]; decide) (by rw [c_4]; rfl) (by decide) ?_
        refine lv_iconst (v := 0) hx hb dX2_isRoundedAway_44 (by decide) ?_
        have hw : R_away cw ng fr sh kp = false := by unfold R_away; rw [if_neg c_1, if_neg c_2, if_pos c_4]; try rfl
        exact W.zret hx hb hr rfl (fun t9 ht hW => ⟨_, rfl, (congrArg bI hw).symm, ht⟩) t_nil dX2_isRoundedAway_45
      · refine lv_tableOut (tgt := 46) hx hb dX2_isRoundedAway_4 (sw_out_1_3 c_1 c_2 c_4) (by decide) ?_
        refine lv_lload_n hx hb dX2_isRoundedAway_46 rfl (lv_at hl 2 rfl) ?_
        refine lv_iload hx hb dX2_isRoundedAway_47 (lv_at hl 3 rfl) ?_
        refine lv_lload hx hb dX2_isRoundedAway_49 (lv_at hl 4 rfl) ?_
        refine vp_callSi (va_cr (va_runS (As := [.long fr, .int sh, .long kp]) (rest := []) ⟨hx, hb, hml, hown, hts⟩ (c_X2_isNearerAbove l fr sh kp) (va_cwS 3 hts gX2_isRoundedAway_X2_isNearerAbove rfl rfl rfl kS_X2_isNearerAbove ⟨Nat.le_of_ble_eq_true rfl, Nat.le_of_ble_eq_true rfl⟩) ⟨TB.blind, TB.pre⟩ rfl rfl hl.1 rfl (lv_room (Nat.le_of_ble_eq_true rfl)) dX2_isRoundedAway_51 ⟨Nat.le_of_ble_eq_true rfl, Nat.le_of_ble_eq_true rfl⟩)) (fun r9 e9 => ?_)
        rw [e9]
        have hw : R_away cw ng fr sh kp = (R_nearer fr sh kp) := by unfold R_away; rw [if_neg c_1, if_neg c_2, if_neg c_4]; try rfl
        exact W.zret hx hb hr (bI_nar _) (fun t9 ht hW => ⟨_, rfl, (congrArg bI hw).symm, ht⟩) t_nil dX2_isRoundedAway_54
def R_rounded (cw : Int32) (ng : Bool) (fr : Int64) (sh : Int32) : Int64 :=
  if bI (R_isCut fr sh) = 0 then (if sh ≤ 63 then (jlushr fr sh) else 0)
  else if bI (R_away cw ng fr sh (if sh ≤ 63 then (jlushr fr sh) else 0)) = 0 then (if sh ≤ 63 then (jlushr fr sh) else 0)
  else ((if sh ≤ 63 then (jlushr fr sh) else 0) + 1)
theorem kS_X2_rounded : yX2_rounded.cls ≠ "java/lang/invoke/MethodHandle" ∧ yX2_rounded.cls ≠ "java/lang/invoke/VarHandle" ∧ (parseMethodDescriptor yX2_rounded.desc).map (fun d => d.parameters.length) = some 3 := by decide +kernel
theorem kV_X2_rounded : yX2_rounded.cls = RX2 ∧ yX2_rounded.cls ≠ "java/lang/invoke/MethodHandle" ∧ yX2_rounded.cls ≠ "java/lang/invoke/VarHandle" ∧ (parseMethodDescriptor yX2_rounded.desc).map (fun d => d.parameters.length) = some 3 := ⟨rfl, kS_X2_rounded⟩
set_option maxHeartbeats 4000000 in
set_option maxRecDepth 100000 in
theorem c_X2_rounded (l : Launch) (D : va_G) (h : Nat) (q1 : Nat) (q2 : Nat) (cw : Int32) (td : Int32) (an : Bool) (qb : Int32) (pa : Bool) (ng : Bool) (fr : Int64) (sh : Int32) : Met l yX2_rounded wsX2_rounded ({ frames := 4, cells := 0, slots := 0, locals := 100 } : Room) (va_Pc [.ref h, .int (bI ng), .long fr, .int sh] (PB D [] [(h, .inr (1, [.ref q1, .ref q2, .int cw, .int td, .int (bI an), .int qb, .int (bI pa)]))])) (vp_Sl (fun r => r = R_rounded cw ng fr sh)) 0 0 (fun _ => False) := by
  refine Met.ofW (cc := cX2_rounded) (maxL := 7) (ret := (some .long)) (by decide) rfl ?_
  intro p e s m args below meth c s₁ B hml hv
  obtain ⟨rfl, hP, hK⟩ := hv
  have hx := B.exec
  have hb := B.bytes
  have hr := B.returns
  have hts := atoms_spec (ws := wsX2_rounded) B.pre
  have hown : s.vm.findClass RX2 = some m.cls := findClass_of_methodNamed B.named
  have hlocks := B.notSynchronized
  have hl := lv_entry ([.ref h, .int (bI ng), .long fr, .int sh]) (n := 7) (Nat.le_of_ble_eq_true rfl)
  rw [lg_entry_eq]
  generalize (lg_sl ([.ref h, .int (bI ng), .long fr, .int sh]) ++ List.replicate (7 - (lg_sl ([.ref h, .int (bI ng), .long fr, .int sh])).length) Slot.unset).toArray = ls at hl ⊢
  have hl : lv_has ls 7 [(0, .ref h), (1, .int (bI ng)), (2, .long fr), (4, .int sh)] := hl
  refine lv_iload hx hb dX2_rounded_0 (lv_at hl 3 rfl) ?_
  refine lv_bipush (v := 63) hx hb dX2_rounded_2 (by decide) ?_
  refine q_cutL (v := (if sh ≤ 63 then (jlushr fr sh) else 0)) (pcJ := 15) (rest := []) (fun J => ?_) ?_
  · refine lv_icmp_le (tgt := 11) hx hb dX2_rounded_4 (by decide) (fun c_1 => ?_) (fun c_1 => ?_)
    · refine lv_lload_n hx hb dX2_rounded_11 rfl (lv_at hl 2 rfl) ?_
      refine lv_iload hx hb dX2_rounded_12 (lv_at hl 3 rfl) ?_
      refine lv_lushr (v := (jlushr fr sh)) hx hb dX2_rounded_14 rfl ?_
      exact J _ (by rw [if_pos c_1]; try rfl)
    · refine lv_lconst (v := 0) hx hb dX2_rounded_7 (by decide) ?_
      refine lv_goto (tgt := 15) hx hb dX2_rounded_8 (by decide) ?_
      exact J _ (by rw [if_neg c_1]; try rfl)
  refine lv_lstore (lv' := [(5, .long (if sh ≤ 63 then (jlushr fr sh) else 0)), (0, .ref h), (1, .int (bI ng)), (2, .long fr), (4, .int sh)]) hx hb dX2_rounded_15 hl (by decide) rfl (fun ls hl => ?_)
  refine lv_lload_n hx hb dX2_rounded_17 rfl (lv_at hl 3 rfl) ?_
  refine lv_iload hx hb dX2_rounded_18 (lv_at hl 4 rfl) ?_
  refine vp_callSi (va_cr (va_runS (As := [.long fr, .int sh]) (rest := []) ⟨hx, hb, hml, hown, hts⟩ (c_X2_isCut l fr sh) (va_cwS 2 hts gX2_rounded_X2_isCut rfl rfl rfl kS_X2_isCut ⟨Nat.le_of_ble_eq_true rfl, Nat.le_of_ble_eq_true rfl⟩) ⟨TB.blind, TB.pre⟩ rfl rfl hl.1 rfl (lv_room (Nat.le_of_ble_eq_true rfl)) dX2_rounded_20 ⟨Nat.le_of_ble_eq_true rfl, Nat.le_of_ble_eq_true rfl⟩)) (fun r9 e9 => ?_)
  rw [e9]
  refine lv_if_eq (tgt := 44) hx hb dX2_rounded_23 (by decide) (fun c_2 => ?_) (fun c_2 => ?_)
  · refine lv_lload hx hb dX2_rounded_44 (lv_at hl 0 rfl) ?_
    have hw : R_rounded cw ng fr sh = (if sh ≤ 63 then (jlushr fr sh) else 0) := by unfold R_rounded; rw [if_pos c_2]; try rfl
    exact W.lret hx hb hr (fun t9 ht hW => ⟨_, rfl, hw.symm, ht⟩) t_nil dX2_rounded_46
  · refine lv_aload_n hx hb dX2_rounded_26 rfl (lv_at hl 1 rfl) ?_
    refine lv_iload_n hx hb dX2_rounded_27 rfl (lv_at hl 2 rfl) ?_
    refine lv_lload_n hx hb dX2_rounded_28 rfl (lv_at hl 3 rfl) ?_
    refine lv_iload hx hb dX2_rounded_29 (lv_at hl 4 rfl) ?_
    refine lv_lload hx hb dX2_rounded_31 (lv_at hl 0 rfl) ?_
    refine vp_callSi (va_cr (va_runV (As := [.int (bI ng), .long fr, .int sh, .long (if sh ≤ 63 then (jlushr fr sh) else 0)]) (rest := []) ⟨hx, hb, hml, hown, hts⟩ (c_X2_isRoundedAway l D h q1 q2 cw td an qb pa ng fr sh (if sh ≤ 63 then (jlushr fr sh) else 0)) (cwV 4 hts gX2_rounded_X2_isRoundedAway rfl rfl rfl kV_X2_isRoundedAway ⟨Nat.le_of_ble_eq_true rfl, Nat.le_of_ble_eq_true rfl⟩) ⟨PB.blind, va_recv hK hP (ci := 1) (q0 := 0) rfl rfl, PB.pre (hK.sub [] rfl) (hP.sub [0] rfl)⟩ rfl rfl hl.1 rfl (lv_room (Nat.le_of_ble_eq_true rfl)) dX2_rounded_33 ⟨Nat.le_of_ble_eq_true rfl, Nat.le_of_ble_eq_true rfl⟩)) (fun r9 e9 => ?_)
    rw [e9]
    refine lv_if_eq (tgt := 44) hx hb dX2_rounded_36 (by decide) (fun c_3 => ?_) (fun c_3 => ?_)
    · refine lv_lload hx hb dX2_rounded_44 (lv_at hl 0 rfl) ?_
      have hw : R_rounded cw ng fr sh = (if sh ≤ 63 then (jlushr fr sh) else 0) := by unfold R_rounded; rw [if_neg c_2, if_pos c_3]; try rfl
      exact W.lret hx hb hr (fun t9 ht hW => ⟨_, rfl, hw.symm, ht⟩) t_nil dX2_rounded_46
    · refine lv_lload hx hb dX2_rounded_39 (lv_at hl 0 rfl) ?_
      refine lv_lconst (v := 1) hx hb dX2_rounded_41 (by decide) ?_
      refine lv_ladd hx hb dX2_rounded_42 ?_
      have hw : R_rounded cw ng fr sh = ((if sh ≤ 63 then (jlushr fr sh) else 0) + 1) := by unfold R_rounded; rw [if_neg c_2, if_neg c_3]; try rfl
      exact W.lret hx hb hr (fun t9 ht hW => ⟨_, rfl, hw.symm, ht⟩) t_nil dX2_rounded_43
def R_zero (ng : Bool) : Int32 × Int64 :=
  ((R_signOf ng), 0)
theorem kS_X2_zero : yX2_zero.cls ≠ "java/lang/invoke/MethodHandle" ∧ yX2_zero.cls ≠ "java/lang/invoke/VarHandle" ∧ (parseMethodDescriptor yX2_zero.desc).map (fun d => d.parameters.length) = some 1 := by decide +kernel
set_option maxHeartbeats 4000000 in
set_option maxRecDepth 100000 in
theorem c_X2_zero (l : Launch) (D : va_G) (ad : Nat → Nat) (ng : Bool) (sz : Nat) : Met l yX2_zero wsX2_zero ({ frames := 2, cells := 1, slots := 2, locals := 35 } : Room) (va_Pc [.int (bI ng)] (SCB D ad [] sz)) (va_Qr (fun (_ : Unit) => True) (fun _ a t => ∃ (w_t : Int32) (w_f : Int64), R_zero ng = (w_t, w_f) ∧ va_P D vwCl [cReal a w_t w_f] t.heap ∧ (sz ≤ a)) (va_A [] sz)) 1 2 (va_A [] sz) := by
  refine Met.ofW (cc := cX2_zero) (maxL := 1) (ret := (some (.object "RealSteps$Real"))) (by decide) rfl ?_
  intro p e s m args below meth c s₁ B hml hv
  obtain ⟨rfl, hsz, hK, hR0, hE⟩ := hv
  have hx := B.exec
  have hb := B.bytes
  have hr := B.returns
  have hts := atoms_spec (ws := wsX2_zero) B.pre
  have hown : s.vm.findClass RX2 = some m.cls := findClass_of_methodNamed B.named
  have hlocks := B.notSynchronized
  have w_1 := hts (.classLink RX2 48 RX1) (by decide +kernel)
  have w_2 := hts (.instantiable RX1 2) (by decide +kernel)
  have w_3 := hts (.initialized RX1) (by decide +kernel)
  have in_X1 : ∀ w ∈ wsX10, w ∈ wsX2_zero := by decide +kernel
  have w_5 := hts (.instanceMethod yX1_init) (by decide +kernel)
  subst hsz
  have hRA := rs_A0 hR0
  obtain ⟨A, hAe⟩ : ∃ A, va_A [] s.heap.size = A := ⟨_, rfl⟩
  have nzA : ∀ q : Nat, A q → s.heap.size ≤ q := fun q h => va_A_nil (by rw [hAe]; exact h)
  rw [hAe] at hE hRA ⊢
  have hA : ∀ q : Nat, s.heap.size ≤ q → A q := fun q h => by rw [← hAe]; exact Or.inr h
  have hS : va_S A s.heap s.heap [] := va_S.rf
  have hl := lv_entry ([.int (bI ng)]) (n := 1) (Nat.le_of_ble_eq_true rfl)
  rw [lg_entry_eq]
  generalize (lg_sl ([.int (bI ng)]) ++ List.replicate (1 - (lg_sl ([.int (bI ng)])).length) Slot.unset).toArray = ls at hl ⊢
  have hl : lv_has ls 1 [(0, .int (bI ng))] := hl
  refine va_new (ci := 0) (fs := [.int 0, .long 0]) (C := RX1) (T := TX1) (N := 2) hx hb hts in_X1 tyX1 tyX1_ok hown w_1 w_2 w_3 hK vP_nil (vD_nil (A := A)) hS hA rfl (fun j hj => by rcases (show j = 0 ∨ j = 1 by omega) with rfl | rfl <;> rfl) (Nat.le_of_ble_eq_true rfl) (Nat.le_of_ble_eq_true rfl) dX2_zero_0 (fun q_1 H hP4 hD4 hS => ?_)
  have nz_q_1 : s.heap.size ≤ q_1 := nzA _ (hD4.2 0 _ rfl)
  have hx_q_1 : va_P D vwCl [cReal q_1 0 0] H := hP4.sub [0] rfl
  have hd_q_1 : va_D A [cReal q_1 0 0] := hD4.sub [0] (by decide) rfl
  refine lv_dup hx hb dX2_zero_3 rfl ?_
  refine lv_iload_n hx hb dX2_zero_4 rfl (lv_at hl 0 rfl) ?_
  refine vp_callSi (va_cr (va_runS (As := [.int (bI ng)]) (rest := [.ref q_1, .ref q_1]) ⟨hx, hb, hml, hown, hts⟩ (c_X2_signOf l ng) (va_cwS 1 hts gX2_zero_X2_signOf rfl rfl rfl kS_X2_signOf ⟨Nat.le_of_ble_eq_true rfl, Nat.le_of_ble_eq_true rfl⟩) ⟨TB.blind, TB.pre⟩ rfl rfl hl.1 rfl (lv_room (Nat.le_of_ble_eq_true rfl)) dX2_zero_5 ⟨Nat.le_of_ble_eq_true rfl, Nat.le_of_ble_eq_true rfl⟩)) (fun r9 e9 => ?_)
  rw [e9]
  refine lv_lconst (v := 0) hx hb dX2_zero_8 (by decide) ?_
  have hFc := va_free (wc := [cReal q_1 0 0]) hd_q_1 hS hA [0] rfl
  refine va_callv (va_runIN (As := [.int (R_signOf ng), .long 0]) (rest := [.ref q_1]) ⟨hx, hb, hml, hown, hts⟩ (c_X1_init l D q_1 (R_signOf ng) 0 H.size) ⟨va_cnB 2 hts gX2_zero_X1_init_n52 rfl rfl rfl (hE.2.1 _ (List.mem_of_getElem? (i := 7) rfl)) w_3 kS_X1_init ⟨Nat.le_of_ble_eq_true rfl, Nat.le_of_ble_eq_true rfl⟩, rfl, w_5⟩ ⟨INB.blind, INB.pre (hK.sub [] rfl) hx_q_1 hd_q_1⟩ rfl rfl hl.1 rfl (lv_room (Nat.le_of_ble_eq_true rfl)) dX2_zero_9 ⟨Nat.le_of_ble_eq_true rfl, Nat.le_of_ble_eq_true rfl⟩) hS (fun q _ h9 => hFc q h9) hFc (fun u9 t9 H locs ht hvm hw hB hz1 hk1 hS => ?_)
  have hx_q_1 : va_P D vwCl [cReal q_1 (R_signOf ng) 0] H := by rw [← ht]; exact hB
  have hw : R_zero ng = ((R_signOf ng), 0) := rfl
  exact W.aret hx hb hr (Or.inl ⟨_, rfl⟩) (Or.inr ⟨_, rfl⟩) (fun t9 ht hW => ⟨⟨(), q_1, rfl, trivial, ⟨(R_signOf ng), 0, hw, by rw [ht]; exact hx_q_1, nz_q_1⟩⟩, hS.F ht⟩) hS.2.2 dX2_zero_12
def R_infinite (ng : Bool) : Int32 × Int64 :=
  (((R_signOf ng) ||| 32767), (-9223372036854775808))
theorem kS_X2_infinite : yX2_infinite.cls ≠ "java/lang/invoke/MethodHandle" ∧ yX2_infinite.cls ≠ "java/lang/invoke/VarHandle" ∧ (parseMethodDescriptor yX2_infinite.desc).map (fun d => d.parameters.length) = some 1 := by decide +kernel
set_option maxHeartbeats 4000000 in
set_option maxRecDepth 100000 in
theorem c_X2_infinite (l : Launch) (D : va_G) (ad : Nat → Nat) (ng : Bool) (sz : Nat) : Met l yX2_infinite wsX2_infinite ({ frames := 2, cells := 1, slots := 2, locals := 35 } : Room) (va_Pc [.int (bI ng)] (SCB D ad [] sz)) (va_Qr (fun (_ : Unit) => True) (fun _ a t => ∃ (w_t : Int32) (w_f : Int64), R_infinite ng = (w_t, w_f) ∧ va_P D vwCl [cReal a w_t w_f] t.heap ∧ (sz ≤ a)) (va_A [] sz)) 1 2 (va_A [] sz) := by
  refine Met.ofW (cc := cX2_infinite) (maxL := 1) (ret := (some (.object "RealSteps$Real"))) (by decide) rfl ?_
  intro p e s m args below meth c s₁ B hml hv
  obtain ⟨rfl, hsz, hK, hR0, hE⟩ := hv
  have hx := B.exec
  have hb := B.bytes
  have hr := B.returns
  have hts := atoms_spec (ws := wsX2_infinite) B.pre
  have hown : s.vm.findClass RX2 = some m.cls := findClass_of_methodNamed B.named
  have hlocks := B.notSynchronized
  have w_1 := hts (.classLink RX2 48 RX1) (by decide +kernel)
  have w_2 := hts (.instantiable RX1 2) (by decide +kernel)
  have w_3 := hts (.initialized RX1) (by decide +kernel)
  have in_X1 : ∀ w ∈ wsX10, w ∈ wsX2_infinite := by decide +kernel
  have w_5 := hts (.constantLong RX2 182 (-9223372036854775808)) (by decide +kernel)
  have w_6 := hts (.instanceMethod yX1_init) (by decide +kernel)
  subst hsz
  have hRA := rs_A0 hR0
  obtain ⟨A, hAe⟩ : ∃ A, va_A [] s.heap.size = A := ⟨_, rfl⟩
  have nzA : ∀ q : Nat, A q → s.heap.size ≤ q := fun q h => va_A_nil (by rw [hAe]; exact h)
  rw [hAe] at hE hRA ⊢
  have hA : ∀ q : Nat, s.heap.size ≤ q → A q := fun q h => by rw [← hAe]; exact Or.inr h
  have hS : va_S A s.heap s.heap [] := va_S.rf
  have hl := lv_entry ([.int (bI ng)]) (n := 1) (Nat.le_of_ble_eq_true rfl)
  rw [lg_entry_eq]
  generalize (lg_sl ([.int (bI ng)]) ++ List.replicate (1 - (lg_sl ([.int (bI ng)])).length) Slot.unset).toArray = ls at hl ⊢
  have hl : lv_has ls 1 [(0, .int (bI ng))] := hl
  refine va_new (ci := 0) (fs := [.int 0, .long 0]) (C := RX1) (T := TX1) (N := 2) hx hb hts in_X1 tyX1 tyX1_ok hown w_1 w_2 w_3 hK vP_nil (vD_nil (A := A)) hS hA rfl (fun j hj => by rcases (show j = 0 ∨ j = 1 by omega) with rfl | rfl <;> rfl) (Nat.le_of_ble_eq_true rfl) (Nat.le_of_ble_eq_true rfl) dX2_infinite_0 (fun q_1 H hP4 hD4 hS => ?_)
  have nz_q_1 : s.heap.size ≤ q_1 := nzA _ (hD4.2 0 _ rfl)
  have hx_q_1 : va_P D vwCl [cReal q_1 0 0] H := hP4.sub [0] rfl
  have hd_q_1 : va_D A [cReal q_1 0 0] := hD4.sub [0] (by decide) rfl
  refine lv_dup hx hb dX2_infinite_3 rfl ?_
  refine lv_iload_n hx hb dX2_infinite_4 rfl (lv_at hl 0 rfl) ?_
  refine vp_callSi (va_cr (va_runS (As := [.int (bI ng)]) (rest := [.ref q_1, .ref q_1]) ⟨hx, hb, hml, hown, hts⟩ (c_X2_signOf l ng) (va_cwS 1 hts gX2_infinite_X2_signOf rfl rfl rfl kS_X2_signOf ⟨Nat.le_of_ble_eq_true rfl, Nat.le_of_ble_eq_true rfl⟩) ⟨TB.blind, TB.pre⟩ rfl rfl hl.1 rfl (lv_room (Nat.le_of_ble_eq_true rfl)) dX2_infinite_5 ⟨Nat.le_of_ble_eq_true rfl, Nat.le_of_ble_eq_true rfl⟩)) (fun r9 e9 => ?_)
  rw [e9]
  refine lv_sipush (v := 32767) hx hb dX2_infinite_8 (by decide) ?_
  refine lv_ior hx hb dX2_infinite_11 ?_
  refine lv_ldc2 (v := (-9223372036854775808)) hx hb hown w_5 dX2_infinite_12 ?_
  have hFc := va_free (wc := [cReal q_1 0 0]) hd_q_1 hS hA [0] rfl
  refine va_callv (va_runIN (As := [.int ((R_signOf ng) ||| 32767), .long (-9223372036854775808)]) (rest := [.ref q_1]) ⟨hx, hb, hml, hown, hts⟩ (c_X1_init l D q_1 ((R_signOf ng) ||| 32767) (-9223372036854775808) H.size) ⟨va_cnB 2 hts gX2_infinite_X1_init_n52 rfl rfl rfl (hE.2.1 _ (List.mem_of_getElem? (i := 7) rfl)) w_3 kS_X1_init ⟨Nat.le_of_ble_eq_true rfl, Nat.le_of_ble_eq_true rfl⟩, rfl, w_6⟩ ⟨INB.blind, INB.pre (hK.sub [] rfl) hx_q_1 hd_q_1⟩ rfl rfl hl.1 rfl (lv_room (Nat.le_of_ble_eq_true rfl)) dX2_infinite_15 ⟨Nat.le_of_ble_eq_true rfl, Nat.le_of_ble_eq_true rfl⟩) hS (fun q _ h9 => hFc q h9) hFc (fun u9 t9 H locs ht hvm hw hB hz1 hk1 hS => ?_)
  have hx_q_1 : va_P D vwCl [cReal q_1 ((R_signOf ng) ||| 32767) (-9223372036854775808)] H := by rw [← ht]; exact hB
  have hw : R_infinite ng = (((R_signOf ng) ||| 32767), (-9223372036854775808)) := rfl
  exact W.aret hx hb hr (Or.inl ⟨_, rfl⟩) (Or.inr ⟨_, rfl⟩) (fun t9 ht hW => ⟨⟨(), q_1, rfl, trivial, ⟨((R_signOf ng) ||| 32767), (-9223372036854775808), hw, by rw [ht]; exact hx_q_1, nz_q_1⟩⟩, hS.F ht⟩) hS.2.2 dX2_infinite_18
def R_normal (ng : Bool) (ex : Int32) (nm : Int64) : Int32 × Int64 :=
  (((R_signOf ng) ||| (ex + 16383)), nm)
theorem kS_X2_normal : yX2_normal.cls ≠ "java/lang/invoke/MethodHandle" ∧ yX2_normal.cls ≠ "java/lang/invoke/VarHandle" ∧ (parseMethodDescriptor yX2_normal.desc).map (fun d => d.parameters.length) = some 3 := by decide +kernel
set_option maxHeartbeats 4000000 in
set_option maxRecDepth 100000 in
theorem c_X2_normal (l : Launch) (D : va_G) (ad : Nat → Nat) (ng : Bool) (ex : Int32) (nm : Int64) (sz : Nat) : Met l yX2_normal wsX2_normal ({ frames := 2, cells := 1, slots := 2, locals := 35 } : Room) (va_Pc [.int (bI ng), .int ex, .long nm] (SCB D ad [] sz)) (va_Qr (fun (_ : Unit) => True) (fun _ a t => ∃ (w_t : Int32) (w_f : Int64), R_normal ng ex nm = (w_t, w_f) ∧ va_P D vwCl [cReal a w_t w_f] t.heap ∧ (sz ≤ a)) (va_A [] sz)) 1 2 (va_A [] sz) := by
  refine Met.ofW (cc := cX2_normal) (maxL := 4) (ret := (some (.object "RealSteps$Real"))) (by decide) rfl ?_
  intro p e s m args below meth c s₁ B hml hv
  obtain ⟨rfl, hsz, hK, hR0, hE⟩ := hv
  have hx := B.exec
  have hb := B.bytes
  have hr := B.returns
  have hts := atoms_spec (ws := wsX2_normal) B.pre
  have hown : s.vm.findClass RX2 = some m.cls := findClass_of_methodNamed B.named
  have hlocks := B.notSynchronized
  have w_1 := hts (.classLink RX2 48 RX1) (by decide +kernel)
  have w_2 := hts (.instantiable RX1 2) (by decide +kernel)
  have w_3 := hts (.initialized RX1) (by decide +kernel)
  have in_X1 : ∀ w ∈ wsX10, w ∈ wsX2_normal := by decide +kernel
  have w_5 := hts (.instanceMethod yX1_init) (by decide +kernel)
  subst hsz
  have hRA := rs_A0 hR0
  obtain ⟨A, hAe⟩ : ∃ A, va_A [] s.heap.size = A := ⟨_, rfl⟩
  have nzA : ∀ q : Nat, A q → s.heap.size ≤ q := fun q h => va_A_nil (by rw [hAe]; exact h)
  rw [hAe] at hE hRA ⊢
  have hA : ∀ q : Nat, s.heap.size ≤ q → A q := fun q h => by rw [← hAe]; exact Or.inr h
  have hS : va_S A s.heap s.heap [] := va_S.rf
  have hl := lv_entry ([.int (bI ng), .int ex, .long nm]) (n := 4) (Nat.le_of_ble_eq_true rfl)
  rw [lg_entry_eq]
  generalize (lg_sl ([.int (bI ng), .int ex, .long nm]) ++ List.replicate (4 - (lg_sl ([.int (bI ng), .int ex, .long nm])).length) Slot.unset).toArray = ls at hl ⊢
  have hl : lv_has ls 4 [(0, .int (bI ng)), (1, .int ex), (2, .long nm)] := hl
  refine va_new (ci := 0) (fs := [.int 0, .long 0]) (C := RX1) (T := TX1) (N := 2) hx hb hts in_X1 tyX1 tyX1_ok hown w_1 w_2 w_3 hK vP_nil (vD_nil (A := A)) hS hA rfl (fun j hj => by rcases (show j = 0 ∨ j = 1 by omega) with rfl | rfl <;> rfl) (Nat.le_of_ble_eq_true rfl) (Nat.le_of_ble_eq_true rfl) dX2_normal_0 (fun q_1 H hP4 hD4 hS => ?_)
  have nz_q_1 : s.heap.size ≤ q_1 := nzA _ (hD4.2 0 _ rfl)
  have hx_q_1 : va_P D vwCl [cReal q_1 0 0] H := hP4.sub [0] rfl
  have hd_q_1 : va_D A [cReal q_1 0 0] := hD4.sub [0] (by decide) rfl
  refine lv_dup hx hb dX2_normal_3 rfl ?_
  refine lv_iload_n hx hb dX2_normal_4 rfl (lv_at hl 0 rfl) ?_
  refine vp_callSi (va_cr (va_runS (As := [.int (bI ng)]) (rest := [.ref q_1, .ref q_1]) ⟨hx, hb, hml, hown, hts⟩ (c_X2_signOf l ng) (va_cwS 1 hts gX2_normal_X2_signOf rfl rfl rfl kS_X2_signOf ⟨Nat.le_of_ble_eq_true rfl, Nat.le_of_ble_eq_true rfl⟩) ⟨TB.blind, TB.pre⟩ rfl rfl hl.1 rfl (lv_room (Nat.le_of_ble_eq_true rfl)) dX2_normal_5 ⟨Nat.le_of_ble_eq_true rfl, Nat.le_of_ble_eq_true rfl⟩)) (fun r9 e9 => ?_)
  rw [e9]
  refine lv_iload_n hx hb dX2_normal_8 rfl (lv_at hl 1 rfl) ?_
  refine lv_sipush (v := 16383) hx hb dX2_normal_9 (by decide) ?_
  refine lv_iadd hx hb dX2_normal_12 ?_
  refine lv_ior hx hb dX2_normal_13 ?_
  refine lv_lload_n hx hb dX2_normal_14 rfl (lv_at hl 2 rfl) ?_
  have hFc := va_free (wc := [cReal q_1 0 0]) hd_q_1 hS hA [0] rfl
  refine va_callv (va_runIN (As := [.int ((R_signOf ng) ||| (ex + 16383)), .long nm]) (rest := [.ref q_1]) ⟨hx, hb, hml, hown, hts⟩ (c_X1_init l D q_1 ((R_signOf ng) ||| (ex + 16383)) nm H.size) ⟨va_cnB 2 hts gX2_normal_X1_init_n52 rfl rfl rfl (hE.2.1 _ (List.mem_of_getElem? (i := 7) rfl)) w_3 kS_X1_init ⟨Nat.le_of_ble_eq_true rfl, Nat.le_of_ble_eq_true rfl⟩, rfl, w_5⟩ ⟨INB.blind, INB.pre (hK.sub [] rfl) hx_q_1 hd_q_1⟩ rfl rfl hl.1 rfl (lv_room (Nat.le_of_ble_eq_true rfl)) dX2_normal_15 ⟨Nat.le_of_ble_eq_true rfl, Nat.le_of_ble_eq_true rfl⟩) hS (fun q _ h9 => hFc q h9) hFc (fun u9 t9 H locs ht hvm hw hB hz1 hk1 hS => ?_)
  have hx_q_1 : va_P D vwCl [cReal q_1 ((R_signOf ng) ||| (ex + 16383)) nm] H := by rw [← ht]; exact hB
  have hw : R_normal ng ex nm = (((R_signOf ng) ||| (ex + 16383)), nm) := rfl
  exact W.aret hx hb hr (Or.inl ⟨_, rfl⟩) (Or.inr ⟨_, rfl⟩) (fun t9 ht hW => ⟨⟨(), q_1, rfl, trivial, ⟨((R_signOf ng) ||| (ex + 16383)), nm, hw, by rw [ht]; exact hx_q_1, nz_q_1⟩⟩, hS.F ht⟩) hS.2.2 dX2_normal_18
def R_greater (tx : Int32) (fx : Int64) (ty : Int32) (fy : Int64) : Int32 × Int64 :=
  if fx = fy then (if bI (R_neg tx) = 0 then (tx, fx)
    else (ty, fy))
  else if (J_cmpU fx fy) ≤ 0 then (ty, fy)
  else (tx, fx)
theorem kS_X2_greaterNoNumber : yX2_greaterNoNumber.cls ≠ "java/lang/invoke/MethodHandle" ∧ yX2_greaterNoNumber.cls ≠ "java/lang/invoke/VarHandle" ∧ (parseMethodDescriptor yX2_greaterNoNumber.desc).map (fun d => d.parameters.length) = some 2 := by decide +kernel
set_option maxHeartbeats 4000000 in
set_option maxRecDepth 100000 in
theorem c_X2_greaterNoNumber (l : Launch) (D : va_G) (ad : Nat → Nat) (x : Nat) (tx : Int32) (fx : Int64) (y : Nat) (ty : Int32) (fy : Int64) (sz : Nat) : Met l yX2_greaterNoNumber wsX2_greaterNoNumber ({ frames := 2, cells := 0, slots := 0, locals := 46 } : Room) (va_Pc [.ref x, .ref y] (SCB D ad [cReal x tx fx, cReal y ty fy] sz)) (va_Qr (fun (_ : Unit) => True) (fun _ a t => ∃ (w_t : Int32) (w_f : Int64), R_greater tx fx ty fy = (w_t, w_f) ∧ va_P D vwCl [cReal a w_t w_f] t.heap ∧ (a = x ∨ a = y ∨ sz ≤ a)) (va_A [] sz)) 0 0 (va_A [] sz) := by
  refine Met.ofW (cc := cX2_greaterNoNumber) (maxL := 2) (ret := (some (.object "RealSteps$Real"))) (by decide) rfl ?_
  intro p e s m args below meth c s₁ B hml hv
  obtain ⟨rfl, hsz, hK, hR0, hE⟩ := hv
  have hx := B.exec
  have hb := B.bytes
  have hr := B.returns
  have hts := atoms_spec (ws := wsX2_greaterNoNumber) B.pre
  have hown : s.vm.findClass RX2 = some m.cls := findClass_of_methodNamed B.named
  have hlocks := B.notSynchronized
  have in_X1 : ∀ w ∈ wsX10, w ∈ wsX2_greaterNoNumber := by decide +kernel
  have w_2 := hts (.initialized RX1) (by decide +kernel)
  have w_3 := hts (.instanceMethod yX1_isNegative) (by decide +kernel)
  have w_4 := hts (.selects RX1 yX1_isNegative yX1_isNegative) (by decide +kernel)
  subst hsz
  have hRA := rs_A0 hR0
  obtain ⟨A, hAe⟩ : ∃ A, va_A [] s.heap.size = A := ⟨_, rfl⟩
  have nzA : ∀ q : Nat, A q → s.heap.size ≤ q := fun q h => va_A_nil (by rw [hAe]; exact h)
  rw [hAe] at hE hRA ⊢
  have hA : ∀ q : Nat, s.heap.size ≤ q → A q := fun q h => by rw [← hAe]; exact Or.inr h
  have hS : va_S A s.heap s.heap [] := va_S.rf
  have hl := lv_entry ([.ref x, .ref y]) (n := 2) (Nat.le_of_ble_eq_true rfl)
  rw [lg_entry_eq]
  generalize (lg_sl ([.ref x, .ref y]) ++ List.replicate (2 - (lg_sl ([.ref x, .ref y])).length) Slot.unset).toArray = ls at hl ⊢
  have hl : lv_has ls 2 [(0, .ref x), (1, .ref y)] := hl
  refine lv_aload_n hx hb dX2_greaterNoNumber_0 rfl (lv_at hl 0 rfl) ?_
  refine va_getN (v := .long fx) (C := RX1) (T := TX1) (N := 2) hx hb hts in_X1 hown hK (ro_now hR0 hRA hS) 0 rfl rfl 1 (by decide) (va_Nw.use rfl (hE.2.1 (.fieldLinkNest RX2 150 "RealSteps$Real" "fraction" "J" RX2) (by decide))) (fun _ h9 => h9) rfl dX2_greaterNoNumber_1 ?_
  refine lv_aload_n hx hb dX2_greaterNoNumber_4 rfl (lv_at hl 1 rfl) ?_
  refine va_getN (v := .long fy) (C := RX1) (T := TX1) (N := 2) hx hb hts in_X1 hown hK (ro_now hR0 hRA hS) 1 rfl rfl 1 (by decide) (va_Nw.use rfl (hE.2.1 (.fieldLinkNest RX2 150 "RealSteps$Real" "fraction" "J" RX2) (by decide))) (fun _ h9 => h9) rfl dX2_greaterNoNumber_5 ?_
  refine q_cl_ne (tgt := 25) hx hb dX2_greaterNoNumber_8 dX2_greaterNoNumber_9 (by decide) (fun c_1 => ?_) (fun c_1 => ?_)
  · refine lv_aload_n hx hb dX2_greaterNoNumber_25 rfl (lv_at hl 0 rfl) ?_
    refine va_getN (v := .long fx) (C := RX1) (T := TX1) (N := 2) hx hb hts in_X1 hown hK (ro_now hR0 hRA hS) 0 rfl rfl 1 (by decide) (va_Nw.use rfl (hE.2.1 (.fieldLinkNest RX2 150 "RealSteps$Real" "fraction" "J" RX2) (by decide))) (fun _ h9 => h9) rfl dX2_greaterNoNumber_26 ?_
    refine lv_aload_n hx hb dX2_greaterNoNumber_29 rfl (lv_at hl 1 rfl) ?_
    refine va_getN (v := .long fy) (C := RX1) (T := TX1) (N := 2) hx hb hts in_X1 hown hK (ro_now hR0 hRA hS) 1 rfl rfl 1 (by decide) (va_Nw.use rfl (hE.2.1 (.fieldLinkNest RX2 150 "RealSteps$Real" "fraction" "J" RX2) (by decide))) (fun _ h9 => h9) rfl dX2_greaterNoNumber_30 ?_
    refine vp_callSi (va_cr (va_runS (As := [.long fx, .long fy]) (rest := []) ⟨hx, hb, hml, hown, hts⟩ (c_J13_compareUnsigned_74951 l fx fy) (va_cwS 2 hts gX2_greaterNoNumber_J13_compareUnsigned_74951 rfl rfl rfl kS_J13_compareUnsigned_74951 ⟨Nat.le_of_ble_eq_true rfl, Nat.le_of_ble_eq_true rfl⟩) ⟨TB.blind, TB.pre⟩ rfl rfl hl.1 rfl (lv_room (Nat.le_of_ble_eq_true rfl)) dX2_greaterNoNumber_33 ⟨Nat.le_of_ble_eq_true rfl, Nat.le_of_ble_eq_true rfl⟩)) (fun r9 e9 => ?_)
    rw [e9]
    refine lv_if_le (tgt := 43) hx hb dX2_greaterNoNumber_36 (by decide) (fun c_2 => ?_) (fun c_2 => ?_)
    · refine lv_aload_n hx hb dX2_greaterNoNumber_43 rfl (lv_at hl 1 rfl) ?_
      have hw : R_greater tx fx ty fy = (ty, fy) := by unfold R_greater; rw [if_neg c_1, if_pos c_2]; try rfl
      exact W.aret hx hb hr (Or.inl ⟨_, rfl⟩) (Or.inr ⟨_, rfl⟩) (fun t9 ht hW => ⟨⟨(), y, rfl, trivial, ⟨ty, fy, hw, by rw [ht]; exact ((ro_now hR0 hRA hS).sub [1] rfl), (Or.inr (Or.inl rfl))⟩⟩, hS.F ht⟩) hS.2.2 dX2_greaterNoNumber_44
    · refine lv_aload_n hx hb dX2_greaterNoNumber_39 rfl (lv_at hl 0 rfl) ?_
      refine lv_goto (tgt := 44) hx hb dX2_greaterNoNumber_40 (by decide) ?_
      have hw : R_greater tx fx ty fy = (tx, fx) := by unfold R_greater; rw [if_neg c_1, if_neg c_2]; try rfl
      exact W.aret hx hb hr (Or.inl ⟨_, rfl⟩) (Or.inr ⟨_, rfl⟩) (fun t9 ht hW => ⟨⟨(), x, rfl, trivial, ⟨tx, fx, hw, by rw [ht]; exact ((ro_now hR0 hRA hS).sub [0] rfl), (Or.inl rfl)⟩⟩, hS.F ht⟩) hS.2.2 dX2_greaterNoNumber_44
  · refine lv_aload_n hx hb dX2_greaterNoNumber_12 rfl (lv_at hl 0 rfl) ?_
    refine vp_callSi (va_cr (va_runVN (As := []) (rest := []) ⟨hx, hb, hml, hown, hts⟩ (c_X1_isNegative l D ad x tx fx) ⟨va_cnB 0 hts gX2_greaterNoNumber_X1_isNegative_n137 rfl rfl rfl (hE.2.1 _ (List.mem_of_getElem? (i := 2) rfl)) w_2 kS_X1_isNegative ⟨Nat.le_of_ble_eq_true rfl, Nat.le_of_ble_eq_true rfl⟩, w_3, w_4⟩ ⟨EB.blind, va_recv hK (ro_now hR0 hRA hS) (ci := 0) (q0 := 0) rfl rfl, EB.pre (hK.sub [] rfl) ((ro_now hR0 hRA hS).sub [0] rfl) hE hS⟩ rfl rfl hl.1 rfl (lv_room (Nat.le_of_ble_eq_true rfl)) dX2_greaterNoNumber_13 ⟨Nat.le_of_ble_eq_true rfl, Nat.le_of_ble_eq_true rfl⟩)) (fun r9 e9 => ?_)
    rw [e9]
    refine lv_if_eq (tgt := 23) hx hb dX2_greaterNoNumber_16 (by decide) (fun c_3 => ?_) (fun c_3 => ?_)
    · refine lv_aload_n hx hb dX2_greaterNoNumber_23 rfl (lv_at hl 0 rfl) ?_
      have hw : R_greater tx fx ty fy = (tx, fx) := by unfold R_greater; rw [if_pos c_1, if_pos c_3]; try rfl
      exact W.aret hx hb hr (Or.inl ⟨_, rfl⟩) (Or.inr ⟨_, rfl⟩) (fun t9 ht hW => ⟨⟨(), x, rfl, trivial, ⟨tx, fx, hw, by rw [ht]; exact ((ro_now hR0 hRA hS).sub [0] rfl), (Or.inl rfl)⟩⟩, hS.F ht⟩) hS.2.2 dX2_greaterNoNumber_24
    · refine lv_aload_n hx hb dX2_greaterNoNumber_19 rfl (lv_at hl 1 rfl) ?_
      refine lv_goto (tgt := 24) hx hb dX2_greaterNoNumber_20 (by decide) ?_
      have hw : R_greater tx fx ty fy = (ty, fy) := by unfold R_greater; rw [if_pos c_1, if_neg c_3]; try rfl
      exact W.aret hx hb hr (Or.inl ⟨_, rfl⟩) (Or.inr ⟨_, rfl⟩) (fun t9 ht hW => ⟨⟨(), y, rfl, trivial, ⟨ty, fy, hw, by rw [ht]; exact ((ro_now hR0 hRA hS).sub [1] rfl), (Or.inr (Or.inl rfl))⟩⟩, hS.F ht⟩) hS.2.2 dX2_greaterNoNumber_24
def R_subst (tx : Int32) (fx : Int64) (ty : Int32) (fy : Int64) : Int32 × Int64 :=
  if bI (R_isOf tx fx 5) = 0 then (if bI (R_isOf ty fy 5) = 0 then (65535, (-4611686018427387904))
    else (ty, fy))
  else if bI (R_isOf ty fy 5) = 0 then (tx, fx)
  else (match (R_greater tx fx ty fy) with
    | (vt_8, vf_9) => (vt_8, vf_9))
theorem kS_X2_substitute : yX2_substitute.cls ≠ "java/lang/invoke/MethodHandle" ∧ yX2_substitute.cls ≠ "java/lang/invoke/VarHandle" ∧ (parseMethodDescriptor yX2_substitute.desc).map (fun d => d.parameters.length) = some 2 := by decide +kernel
set_option maxHeartbeats 4000000 in
set_option maxRecDepth 100000 in
theorem c_X2_substitute (l : Launch) (D : va_G) (ad : Nat → Nat) (x : Nat) (tx : Int32) (fx : Int64) (y : Nat) (ty : Int32) (fy : Int64) (sz : Nat) : Met l yX2_substitute wsX2_substitute ({ frames := 3, cells := 1, slots := 2, locals := 67 } : Room) (va_Pc [.ref x, .ref y] (SCB D ad [cReal x tx fx, cReal y ty fy] sz)) (va_Qr (fun (_ : Unit) => True) (fun _ a t => ∃ (w_t : Int32) (w_f : Int64), R_subst tx fx ty fy = (w_t, w_f) ∧ va_P D vwCl [cReal a w_t w_f] t.heap ∧ (a = x ∨ a = y ∨ sz ≤ a)) (va_A [] sz)) 1 2 (va_A [] sz) := by
  refine Met.ofW (cc := cX2_substitute) (maxL := 4) (ret := (some (.object "RealSteps$Real"))) (by decide) rfl ?_
  intro p e s m args below meth c s₁ B hml hv
  obtain ⟨rfl, hsz, hK, hR0, hE⟩ := hv
  have hx := B.exec
  have hb := B.bytes
  have hr := B.returns
  have hts := atoms_spec (ws := wsX2_substitute) B.pre
  have hown : s.vm.findClass RX2 = some m.cls := findClass_of_methodNamed B.named
  have hlocks := B.notSynchronized
  have w_1 := hts (.fieldLink RX2 154 "RealSteps$Kind" "NO_NUMBER" "LRealSteps$Kind;") (by decide +kernel)
  have w_2 := hts (.initialized RX1) (by decide +kernel)
  have w_3 := hts (.instanceMethod yX1_isOf) (by decide +kernel)
  have w_4 := hts (.selects RX1 yX1_isOf yX1_isOf) (by decide +kernel)
  have w_5 := hts (.classLink RX2 48 RX1) (by decide +kernel)
  have w_6 := hts (.instantiable RX1 2) (by decide +kernel)
  have in_X1 : ∀ w ∈ wsX10, w ∈ wsX2_substitute := by decide +kernel
  have w_8 := hts (.constant RX2 34 (65535)) (by decide +kernel)
  have w_9 := hts (.constantLong RX2 170 (-4611686018427387904)) (by decide +kernel)
  have w_10 := hts (.instanceMethod yX1_init) (by decide +kernel)
  subst hsz
  have hRA := rs_A0 hR0
  obtain ⟨A, hAe⟩ : ∃ A, va_A [] s.heap.size = A := ⟨_, rfl⟩
  have nzA : ∀ q : Nat, A q → s.heap.size ≤ q := fun q h => va_A_nil (by rw [hAe]; exact h)
  rw [hAe] at hE hRA ⊢
  have hA : ∀ q : Nat, s.heap.size ≤ q → A q := fun q h => by rw [← hAe]; exact Or.inr h
  have hS : va_S A s.heap s.heap [] := va_S.rf
  have hl := lv_entry ([.ref x, .ref y]) (n := 4) (Nat.le_of_ble_eq_true rfl)
  rw [lg_entry_eq]
  generalize (lg_sl ([.ref x, .ref y]) ++ List.replicate (4 - (lg_sl ([.ref x, .ref y])).length) Slot.unset).toArray = ls at hl ⊢
  have hl : lv_has ls 4 [(0, .ref x), (1, .ref y)] := hl
  refine lv_aload_n hx hb dX2_substitute_0 rfl (lv_at hl 0 rfl) ?_
  refine va_gets (v := .ref (ad 5)) hx hb (hE.1.1 5 (by decide)).1 hS hown w_1 (fun _ h9 => h9) dX2_substitute_1 ?_
  refine vp_callSi (va_cr (va_runVN (As := [.ref (ad 5)]) (rest := []) ⟨hx, hb, hml, hown, hts⟩ (c_X1_isOf l D ad x tx fx 5 (by decide)) ⟨va_cnB 1 hts gX2_substitute_X1_isOf_n112 rfl rfl rfl (hE.2.1 _ (List.mem_of_getElem? (i := 0) rfl)) w_2 kS_X1_isOf ⟨Nat.le_of_ble_eq_true rfl, Nat.le_of_ble_eq_true rfl⟩, w_3, w_4⟩ ⟨EB.blind, va_recv hK (ro_now hR0 hRA hS) (ci := 0) (q0 := 0) rfl rfl, EB.pre (hK.sub [] rfl) ((ro_now hR0 hRA hS).sub [0] rfl) hE hS⟩ rfl rfl hl.1 rfl (lv_room (Nat.le_of_ble_eq_true rfl)) dX2_substitute_4 ⟨Nat.le_of_ble_eq_true rfl, Nat.le_of_ble_eq_true rfl⟩)) (fun r9 e9 => ?_)
  rw [e9]
  refine lv_istore_n (lv' := [(2, .int (bI (R_isOf tx fx 5))), (0, .ref x), (1, .ref y)]) hx hb dX2_substitute_7 rfl hl (by decide) rfl (fun ls hl => ?_)
  refine lv_aload_n hx hb dX2_substitute_8 rfl (lv_at hl 2 rfl) ?_
  refine va_gets (v := .ref (ad 5)) hx hb (hE.1.1 5 (by decide)).1 hS hown w_1 (fun _ h9 => h9) dX2_substitute_9 ?_
  refine vp_callSi (va_cr (va_runVN (As := [.ref (ad 5)]) (rest := []) ⟨hx, hb, hml, hown, hts⟩ (c_X1_isOf l D ad y ty fy 5 (by decide)) ⟨va_cnB 1 hts gX2_substitute_X1_isOf_n112 rfl rfl rfl (hE.2.1 _ (List.mem_of_getElem? (i := 0) rfl)) w_2 kS_X1_isOf ⟨Nat.le_of_ble_eq_true rfl, Nat.le_of_ble_eq_true rfl⟩, w_3, w_4⟩ ⟨EB.blind, va_recv hK (ro_now hR0 hRA hS) (ci := 0) (q0 := 1) rfl rfl, EB.pre (hK.sub [] rfl) ((ro_now hR0 hRA hS).sub [1] rfl) hE hS⟩ rfl rfl hl.1 rfl (lv_room (Nat.le_of_ble_eq_true rfl)) dX2_substitute_12 ⟨Nat.le_of_ble_eq_true rfl, Nat.le_of_ble_eq_true rfl⟩)) (fun r9 e9 => ?_)
  rw [e9]
  refine lv_istore_n (lv' := [(3, .int (bI (R_isOf ty fy 5))), (2, .int (bI (R_isOf tx fx 5))), (0, .ref x), (1, .ref y)]) hx hb dX2_substitute_15 rfl hl (by decide) rfl (fun ls hl => ?_)
  refine lv_iload_n hx hb dX2_substitute_16 rfl (lv_at hl 1 rfl) ?_
  refine lv_if_eq (tgt := 30) hx hb dX2_substitute_17 (by decide) (fun c_1 => ?_) (fun c_1 => ?_)
  · refine lv_iload_n hx hb dX2_substitute_30 rfl (lv_at hl 1 rfl) ?_
    refine lv_if_eq (tgt := 36) hx hb dX2_substitute_31 (by decide) (fun c_2 => ?_) (fun c_2 => ?_)
    · refine lv_iload_n hx hb dX2_substitute_36 rfl (lv_at hl 0 rfl) ?_
      refine lv_if_eq (tgt := 44) hx hb dX2_substitute_37 (by decide) (fun c_3 => ?_) (fun c_3 => ?_)
      · refine va_new (ci := 0) (fs := [.int 0, .long 0]) (C := RX1) (T := TX1) (N := 2) hx hb hts in_X1 tyX1 tyX1_ok hown w_5 w_6 w_2 hK vP_nil (vD_nil (A := A)) hS hA rfl (fun j hj => by rcases (show j = 0 ∨ j = 1 by omega) with rfl | rfl <;> rfl) (Nat.le_of_ble_eq_true rfl) (Nat.le_of_ble_eq_true rfl) dX2_substitute_44 (fun q_4 H hP4 hD4 hS => ?_)
        have nz_q_4 : s.heap.size ≤ q_4 := nzA _ (hD4.2 0 _ rfl)
        have hx_q_4 : va_P D vwCl [cReal q_4 0 0] H := hP4.sub [0] rfl
        have hd_q_4 : va_D A [cReal q_4 0 0] := hD4.sub [0] (by decide) rfl
        refine lv_dup hx hb dX2_substitute_47 rfl ?_
        refine lv_ldc (v := 65535) hx hb hown w_8 dX2_substitute_48 ?_
        refine lv_ldc2 (v := (-4611686018427387904)) hx hb hown w_9 dX2_substitute_50 ?_
        have hFc := va_free (wc := [cReal q_4 0 0]) hd_q_4 hS hA [0] rfl
        refine va_callv (va_runIN (As := [.int 65535, .long (-4611686018427387904)]) (rest := [.ref q_4]) ⟨hx, hb, hml, hown, hts⟩ (c_X1_init l D q_4 65535 (-4611686018427387904) H.size) ⟨va_cnB 2 hts gX2_substitute_X1_init_n52 rfl rfl rfl (hE.2.1 _ (List.mem_of_getElem? (i := 7) rfl)) w_2 kS_X1_init ⟨Nat.le_of_ble_eq_true rfl, Nat.le_of_ble_eq_true rfl⟩, rfl, w_10⟩ ⟨INB.blind, INB.pre (hK.sub [] rfl) hx_q_4 hd_q_4⟩ rfl rfl hl.1 rfl (lv_room (Nat.le_of_ble_eq_true rfl)) dX2_substitute_53 ⟨Nat.le_of_ble_eq_true rfl, Nat.le_of_ble_eq_true rfl⟩) hS (fun q _ h9 => hFc q h9) hFc (fun u9 t9 H locs ht hvm hw hB hz1 hk1 hS => ?_)
        have hx_q_4 : va_P D vwCl [cReal q_4 65535 (-4611686018427387904)] H := by rw [← ht]; exact hB
        have hw : R_subst tx fx ty fy = (65535, (-4611686018427387904)) := by unfold R_subst; rw [if_pos c_1, if_pos c_3]; try rfl
        exact W.aret hx hb hr (Or.inl ⟨_, rfl⟩) (Or.inr ⟨_, rfl⟩) (fun t9 ht hW => ⟨⟨(), q_4, rfl, trivial, ⟨65535, (-4611686018427387904), hw, by rw [ht]; exact hx_q_4, (Or.inr (Or.inr (nz_q_4)))⟩⟩, hS.F ht⟩) hS.2.2 dX2_substitute_56
      · refine lv_aload_n hx hb dX2_substitute_40 rfl (lv_at hl 3 rfl) ?_
        refine lv_goto (tgt := 56) hx hb dX2_substitute_41 (by decide) ?_
        refine W.widen (k := 1) (n := 2) (Nat.le_of_ble_eq_true rfl) (Nat.le_of_ble_eq_true rfl) ?_
        have hw : R_subst tx fx ty fy = (ty, fy) := by unfold R_subst; rw [if_pos c_1, if_neg c_3]; try rfl
        exact W.aret hx hb hr (Or.inl ⟨_, rfl⟩) (Or.inr ⟨_, rfl⟩) (fun t9 ht hW => ⟨⟨(), y, rfl, trivial, ⟨ty, fy, hw, by rw [ht]; exact ((ro_now hR0 hRA hS).sub [1] rfl), (Or.inr (Or.inl rfl))⟩⟩, hS.F ht⟩) hS.2.2 dX2_substitute_56
    · exact absurd c_1 c_2
  · refine lv_iload_n hx hb dX2_substitute_20 rfl (lv_at hl 0 rfl) ?_
    refine lv_if_eq (tgt := 30) hx hb dX2_substitute_21 (by decide) (fun c_5 => ?_) (fun c_5 => ?_)
    · refine lv_iload_n hx hb dX2_substitute_30 rfl (lv_at hl 1 rfl) ?_
      refine lv_if_eq (tgt := 36) hx hb dX2_substitute_31 (by decide) (fun c_6 => ?_) (fun c_6 => ?_)
      · exact absurd c_6 c_1
      · refine lv_aload_n hx hb dX2_substitute_34 rfl (lv_at hl 2 rfl) ?_
        refine W.widen (k := 1) (n := 2) (Nat.le_of_ble_eq_true rfl) (Nat.le_of_ble_eq_true rfl) ?_
        have hw : R_subst tx fx ty fy = (tx, fx) := by unfold R_subst; rw [if_neg c_1, if_pos c_5]; try rfl
        exact W.aret hx hb hr (Or.inl ⟨_, rfl⟩) (Or.inr ⟨_, rfl⟩) (fun t9 ht hW => ⟨⟨(), x, rfl, trivial, ⟨tx, fx, hw, by rw [ht]; exact ((ro_now hR0 hRA hS).sub [0] rfl), (Or.inl rfl)⟩⟩, hS.F ht⟩) hS.2.2 dX2_substitute_35
    · refine lv_aload_n hx hb dX2_substitute_24 rfl (lv_at hl 2 rfl) ?_
      refine lv_aload_n hx hb dX2_substitute_25 rfl (lv_at hl 3 rfl) ?_
      have hFc : ∀ q, va_A [] s.heap.size q → A q := va_free (wc := []) (vD_nil (A := A)) hS hA [] rfl
      refine va_callr (va_runS (As := [.ref x, .ref y]) (rest := []) ⟨hx, hb, hml, hown, hts⟩ (c_X2_greaterNoNumber l D ad x tx fx y ty fy s.heap.size) (va_cwS 2 hts gX2_substitute_X2_greaterNoNumber rfl rfl rfl kS_X2_greaterNoNumber ⟨Nat.le_of_ble_eq_true rfl, Nat.le_of_ble_eq_true rfl⟩) ⟨SCB.blind, SCB.pre hK (vP_one ((ro_now hR0 hRA hS).sub [0] rfl) (vP_one ((ro_now hR0 hRA hS).sub [1] rfl) vP_nil)) hE hS hFc⟩ rfl rfl hl.1 rfl (lv_room (Nat.le_of_ble_eq_true rfl)) dX2_substitute_26 ⟨Nat.le_of_ble_eq_true rfl, Nat.le_of_ble_eq_true rfl⟩) hS (fun q _ h9 => hFc q h9) hFc (fun u9 y_7 t9 H locs ht hvm hw hB hz1 hk1 hS => ?_)
      obtain ⟨vt_8, vf_9, e_10, hx_y_7, nz_y_7⟩ := hB
      rw [ht] at hx_y_7
      refine W.widen (k := 1) (n := 2) (Nat.le_of_ble_eq_true rfl) (Nat.le_of_ble_eq_true rfl) ?_
      have hw : R_subst tx fx ty fy = (vt_8, vf_9) := by unfold R_subst; rw [if_neg c_1, if_neg c_5, e_10]; try dsimp only; try rfl
      exact W.aret hx hb hr (Or.inl ⟨_, rfl⟩) (Or.inr ⟨_, rfl⟩) (fun t9 ht hW => ⟨⟨(), y_7, rfl, trivial, ⟨vt_8, vf_9, hw, by rw [ht]; exact hx_y_7, nz_y_7⟩⟩, hS.F ht⟩) hS.2.2 dX2_substitute_29
end
section
def R_read (t : Int32) (f : Int64) : Int32 × Int64 :=
  (t, f)
theorem kS_X2_read : yX2_read.cls ≠ "java/lang/invoke/MethodHandle" ∧ yX2_read.cls ≠ "java/lang/invoke/VarHandle" ∧ (parseMethodDescriptor yX2_read.desc).map (fun d => d.parameters.length) = some 1 := by decide +kernel
theorem kV_X2_read : yX2_read.cls = RX2 ∧ yX2_read.cls ≠ "java/lang/invoke/MethodHandle" ∧ yX2_read.cls ≠ "java/lang/invoke/VarHandle" ∧ (parseMethodDescriptor yX2_read.desc).map (fun d => d.parameters.length) = some 1 := ⟨rfl, kS_X2_read⟩
set_option maxHeartbeats 4000000 in
set_option maxRecDepth 100000 in
theorem c_X2_read (l : Launch) (D : va_G) (ad : Nat → Nat) (h : Nat) (q1 : Nat) (q2 : Nat) (cA : ClassId) (cB : ClassId) (tf : Nat → Int32) (ff : Nat → Int64) (cw : Int32) (td : Int32) (an : Bool) (qb : Int32) (pa : Bool) (rg : Int32) (sz : Nat) (hrg : vp_in rg 8) : Met l yX2_read wsX2_read ({ frames := 2, cells := 1, slots := 2, locals := 35 } : Room) (va_Pc [.ref h, .int rg] (MRB D ad h q1 q2 (tRS cA cB) (cRS h q1 q2 cA cB tf ff cw td an qb pa) [] sz)) (va_Qr (fun (_ : Unit) => True) (fun _ a t => ∃ (w_t : Int32) (w_f : Int64), R_read (tf rg.toNatClampNeg) (ff rg.toNatClampNeg) = (w_t, w_f) ∧ va_P D vwCl (cRS h q1 q2 cA cB tf ff cw td an qb pa) t.heap ∧ va_D (va_A (cRS h q1 q2 cA cB tf ff cw td an qb pa) sz) (cRS h q1 q2 cA cB tf ff cw td an qb pa) ∧ va_P D vwCl [cReal a w_t w_f] t.heap ∧ ap3 a h q1 q2) (va_A (cRS h q1 q2 cA cB tf ff cw td an qb pa) sz)) 1 2 (va_A (cRS h q1 q2 cA cB tf ff cw td an qb pa) sz) := by
  refine Met.ofW (cc := cX2_read) (maxL := 2) (ret := (some (.object "RealSteps$Real"))) (by decide) rfl ?_
  intro p e s m args below meth c s₁ B hml hv
  obtain ⟨rfl, hsz, hP, hK, hD0, hR0, hRp, hE⟩ := hv
  have hx := B.exec
  have hb := B.bytes
  have hr := B.returns
  have hts := atoms_spec (ws := wsX2_read) B.pre
  have hown : s.vm.findClass RX2 = some m.cls := findClass_of_methodNamed B.named
  have hlocks := B.notSynchronized
  have w_1 := hts (.classLink RX2 48 RX1) (by decide +kernel)
  have w_2 := hts (.instantiable RX1 2) (by decide +kernel)
  have w_3 := hts (.initialized RX1) (by decide +kernel)
  have in_X1 : ∀ w ∈ wsX10, w ∈ wsX2_read := by decide +kernel
  have w_5 := hts (.fieldLink RX2 9 "RealSteps" "tops" "[I") (by decide +kernel)
  have in_X2 : ∀ w ∈ wsX20, w ∈ wsX2_read := by decide +kernel
  have w_7 := hts (.fieldLink RX2 13 "RealSteps" "fractions" "[J") (by decide +kernel)
  have w_8 := hts (.instanceMethod yX1_init) (by decide +kernel)
  subst hsz
  have hD := hD0.self (sz := s.heap.size)
  have hRA := rs_A hR0 hRp (e1 := .inr (1, [.ref q1, .ref q2, .int cw, .int td, .int (bI an), .int qb, .int (bI pa)])) (e2 := .inl (cA, 8, .inl tf)) (e3 := .inl (cB, 8, .inr (.inl ff)))
  generalize hAe : va_A (cRS h q1 q2 cA cB tf ff cw td an qb pa) s.heap.size = A at hD hE hRA ⊢
  have hA : ∀ q : Nat, s.heap.size ≤ q → A q := fun q h => by rw [← hAe]; exact Or.inr h
  have hS : va_S A s.heap s.heap [] := va_S.rf
  have hP : va_P D vwCl (cRS h q1 q2 cA cB tf ff cw td an qb pa) s.heap := hP
  have hl := lv_entry ([.ref h, .int rg]) (n := 2) (Nat.le_of_ble_eq_true rfl)
  rw [lg_entry_eq]
  generalize (lg_sl ([.ref h, .int rg]) ++ List.replicate (2 - (lg_sl ([.ref h, .int rg])).length) Slot.unset).toArray = ls at hl ⊢
  have hl : lv_has ls 2 [(0, .ref h), (1, .int rg)] := hl
  refine va_new (ci := 0) (fs := [.int 0, .long 0]) (C := RX1) (T := TX1) (N := 2) hx hb hts in_X1 tyX1 tyX1_ok hown w_1 w_2 w_3 hK hP hD hS hA rfl (fun j hj => by rcases (show j = 0 ∨ j = 1 by omega) with rfl | rfl <;> rfl) (Nat.le_of_ble_eq_true rfl) (Nat.le_of_ble_eq_true rfl) dX2_read_0 (fun q_1 H hP4 hD4 hS => ?_)
  have hP : va_P D vwCl (cRS h q1 q2 cA cB tf ff cw td an qb pa) H := hP4.sub [0, 1, 2] rfl
  have hD : va_D A (cRS h q1 q2 cA cB tf ff cw td an qb pa) := hD4.sub [0, 1, 2] (by decide) rfl
  have nx_q_1 : ap3 q_1 h q1 q2 := ap_D hD4
  have hx_q_1 : va_P D vwCl [cReal q_1 0 0] H := hP4.sub [3] rfl
  have hd_q_1 : va_D A [cReal q_1 0 0] := hD4.sub [3] (by decide) rfl
  refine lv_dup hx hb dX2_read_3 rfl ?_
  refine lv_aload_n hx hb dX2_read_4 rfl (lv_at hl 0 rfl) ?_
  refine va_get (v := .ref q1) (C := RX2) (T := TX2) (N := 7) hx hb hts in_X2 hown hK hP 0 rfl rfl 0 (by decide) w_5 (fun _ h9 => h9) rfl dX2_read_5 ?_
  refine lv_iload_n hx hb dX2_read_8 rfl (lv_at hl 1 rfl) ?_
  refine va_iald hx hb hK hP 1 0 rfl rfl hrg dX2_read_9 ?_
  refine lv_aload_n hx hb dX2_read_10 rfl (lv_at hl 0 rfl) ?_
  refine va_get (v := .ref q2) (C := RX2) (T := TX2) (N := 7) hx hb hts in_X2 hown hK hP 0 rfl rfl 1 (by decide) w_7 (fun _ h9 => h9) rfl dX2_read_11 ?_
  refine lv_iload_n hx hb dX2_read_14 rfl (lv_at hl 1 rfl) ?_
  refine va_lald hx hb hK hP 2 1 rfl rfl hrg dX2_read_15 ?_
  have hFc := va_free (wc := [cReal q_1 0 0]) hd_q_1 hS hA [0] rfl
  refine va_callv (va_runIN (As := [.int (tf rg.toNatClampNeg), .long (ff rg.toNatClampNeg)]) (rest := [.ref q_1]) ⟨hx, hb, hml, hown, hts⟩ (c_X1_init l D q_1 (tf rg.toNatClampNeg) (ff rg.toNatClampNeg) H.size) ⟨va_cnB 2 hts gX2_read_X1_init_n52 rfl rfl rfl (hE.2.1 _ (List.mem_of_getElem? (i := 7) rfl)) w_3 kS_X1_init ⟨Nat.le_of_ble_eq_true rfl, Nat.le_of_ble_eq_true rfl⟩, rfl, w_8⟩ ⟨INB.blind, INB.pre (hK.sub [] rfl) hx_q_1 hd_q_1⟩ rfl rfl hl.1 rfl (lv_room (Nat.le_of_ble_eq_true rfl)) dX2_read_16 ⟨Nat.le_of_ble_eq_true rfl, Nat.le_of_ble_eq_true rfl⟩) hS (fun q _ h9 => hFc q h9) hFc (fun u9 t9 H locs ht hvm hw hB hz1 hk1 hS => ?_)
  have hx_q_1 : va_P D vwCl [cReal q_1 (tf rg.toNatClampNeg) (ff rg.toNatClampNeg)] H := by rw [← ht]; exact hB
  have hP : va_P D vwCl (cRS h q1 q2 cA cB tf ff cw td an qb pa) H := ro_init hP nx_q_1 hk1
  have hw : R_read (tf rg.toNatClampNeg) (ff rg.toNatClampNeg) = ((tf rg.toNatClampNeg), (ff rg.toNatClampNeg)) := rfl
  exact W.aret hx hb hr (Or.inl ⟨_, rfl⟩) (Or.inr ⟨_, rfl⟩) (fun t9 ht hW => ⟨⟨(), q_1, rfl, trivial, ⟨(tf rg.toNatClampNeg), (ff rg.toNatClampNeg), hw, by rw [ht]; exact hP, hD, by rw [ht]; exact hx_q_1, nx_q_1⟩⟩, hS.F ht⟩) hS.2.2 dX2_read_19
def R_write (tf : Nat → Int32) (ff : Nat → Int64) (rg : Int32) (ty : Int32) (fy : Int64) : (Nat → Int32) × (Nat → Int64) :=
  ((upd tf rg.toNatClampNeg ty), (vp_updL ff rg.toNatClampNeg fy))
theorem kS_X2_write : yX2_write.cls ≠ "java/lang/invoke/MethodHandle" ∧ yX2_write.cls ≠ "java/lang/invoke/VarHandle" ∧ (parseMethodDescriptor yX2_write.desc).map (fun d => d.parameters.length) = some 2 := by decide +kernel
theorem kV_X2_write : yX2_write.cls = RX2 ∧ yX2_write.cls ≠ "java/lang/invoke/MethodHandle" ∧ yX2_write.cls ≠ "java/lang/invoke/VarHandle" ∧ (parseMethodDescriptor yX2_write.desc).map (fun d => d.parameters.length) = some 2 := ⟨rfl, kS_X2_write⟩
set_option maxHeartbeats 4000000 in
set_option maxRecDepth 100000 in
theorem c_X2_write (l : Launch) (D : va_G) (ad : Nat → Nat) (h : Nat) (q1 : Nat) (q2 : Nat) (cA : ClassId) (cB : ClassId) (tf : Nat → Int32) (ff : Nat → Int64) (cw : Int32) (td : Int32) (an : Bool) (qb : Int32) (pa : Bool) (y : Nat) (ty : Int32) (fy : Int64) (rg : Int32) (sz : Nat) (hrg : vp_in rg 8) : Met l yX2_write wsX2_write ({ frames := 0, cells := 0, slots := 0, locals := 0 } : Room) (va_Pc [.ref h, .int rg, .ref y] (MRB D ad h q1 q2 (tRS cA cB) (cRS h q1 q2 cA cB tf ff cw td an qb pa) [cReal y ty fy] sz)) (va_Qv (fun (_ : Unit) => True) (fun _ t => ∃ (w_tf : Nat → Int32) (w_ff : Nat → Int64), R_write tf ff rg ty fy = (w_tf, w_ff) ∧ va_P D vwCl (cRS h q1 q2 cA cB w_tf w_ff cw td an qb pa) t.heap ∧ va_D (va_A (cRS h q1 q2 cA cB tf ff cw td an qb pa) sz) (cRS h q1 q2 cA cB w_tf w_ff cw td an qb pa)) (va_A (cRS h q1 q2 cA cB tf ff cw td an qb pa) sz)) 0 0 (va_A (cRS h q1 q2 cA cB tf ff cw td an qb pa) sz) := by
  refine Met.ofW (cc := cX2_write) (maxL := 3) (ret := none) (by decide) rfl ?_
  intro p e s m args below meth c s₁ B hml hv
  obtain ⟨rfl, hsz, hP, hK, hD0, hR0, hRp, hE⟩ := hv
  have hx := B.exec
  have hb := B.bytes
  have hr := B.returns
  have hts := atoms_spec (ws := wsX2_write) B.pre
  have hown : s.vm.findClass RX2 = some m.cls := findClass_of_methodNamed B.named
  have hlocks := B.notSynchronized
  have w_1 := hts (.fieldLink RX2 9 "RealSteps" "tops" "[I") (by decide +kernel)
  have in_X2 : ∀ w ∈ wsX20, w ∈ wsX2_write := by decide +kernel
  have in_X1 : ∀ w ∈ wsX10, w ∈ wsX2_write := by decide +kernel
  have w_4 := hts (.fieldLink RX2 13 "RealSteps" "fractions" "[J") (by decide +kernel)
  subst hsz
  have hD := hD0.self (sz := s.heap.size)
  have hRA := rs_A hR0 hRp (e1 := .inr (1, [.ref q1, .ref q2, .int cw, .int td, .int (bI an), .int qb, .int (bI pa)])) (e2 := .inl (cA, 8, .inl tf)) (e3 := .inl (cB, 8, .inr (.inl ff)))
  generalize hAe : va_A (cRS h q1 q2 cA cB tf ff cw td an qb pa) s.heap.size = A at hD hE hRA ⊢
  have hA : ∀ q : Nat, s.heap.size ≤ q → A q := fun q h => by rw [← hAe]; exact Or.inr h
  have hS : va_S A s.heap s.heap [] := va_S.rf
  have hP : va_P D vwCl (cRS h q1 q2 cA cB tf ff cw td an qb pa) s.heap := hP
  have hl := lv_entry ([.ref h, .int rg, .ref y]) (n := 3) (Nat.le_of_ble_eq_true rfl)
  rw [lg_entry_eq]
  generalize (lg_sl ([.ref h, .int rg, .ref y]) ++ List.replicate (3 - (lg_sl ([.ref h, .int rg, .ref y])).length) Slot.unset).toArray = ls at hl ⊢
  have hl : lv_has ls 3 [(0, .ref h), (1, .int rg), (2, .ref y)] := hl
  refine lv_aload_n hx hb dX2_write_0 rfl (lv_at hl 0 rfl) ?_
  refine va_get (v := .ref q1) (C := RX2) (T := TX2) (N := 7) hx hb hts in_X2 hown hK hP 0 rfl rfl 0 (by decide) w_1 (fun _ h9 => h9) rfl dX2_write_1 ?_
  refine lv_iload_n hx hb dX2_write_4 rfl (lv_at hl 1 rfl) ?_
  refine lv_aload_n hx hb dX2_write_5 rfl (lv_at hl 2 rfl) ?_
  refine va_getN (v := .int ty) (C := RX1) (T := TX1) (N := 2) hx hb hts in_X1 hown hK (ro_now hR0 hRA hS) 0 rfl rfl 0 (by decide) (va_Nw.use rfl (hE.2.1 (.fieldLinkNest RX2 147 "RealSteps$Real" "top" "I" RX2) (by decide))) (fun _ h9 => h9) rfl dX2_write_6 ?_
  refine va_iast hx hb hK hP hD hS 1 0 rfl rfl hrg dX2_write_9 (fun H locs hP hD hS => ?_)
  have hP : va_P D vwCl (cRS h q1 q2 cA cB (upd tf rg.toNatClampNeg ty) ff cw td an qb pa) H := hP
  have hD : va_D A (cRS h q1 q2 cA cB (upd tf rg.toNatClampNeg ty) ff cw td an qb pa) := hD
  refine lv_aload_n hx hb dX2_write_10 rfl (lv_at hl 0 rfl) ?_
  refine va_get (v := .ref q2) (C := RX2) (T := TX2) (N := 7) hx hb hts in_X2 hown hK hP 0 rfl rfl 1 (by decide) w_4 (fun _ h9 => h9) rfl dX2_write_11 ?_
  refine lv_iload_n hx hb dX2_write_14 rfl (lv_at hl 1 rfl) ?_
  refine lv_aload_n hx hb dX2_write_15 rfl (lv_at hl 2 rfl) ?_
  refine va_getN (v := .long fy) (C := RX1) (T := TX1) (N := 2) hx hb hts in_X1 hown hK (ro_now hR0 hRA hS) 0 rfl rfl 1 (by decide) (va_Nw.use rfl (hE.2.1 (.fieldLinkNest RX2 150 "RealSteps$Real" "fraction" "J" RX2) (by decide))) (fun _ h9 => h9) rfl dX2_write_16 ?_
  refine va_last hx hb hK hP hD hS 2 1 rfl rfl hrg dX2_write_19 (fun H locs hP hD hS => ?_)
  have hP : va_P D vwCl (cRS h q1 q2 cA cB (upd tf rg.toNatClampNeg ty) (vp_updL ff rg.toNatClampNeg fy) cw td an qb pa) H := hP
  have hD : va_D A (cRS h q1 q2 cA cB (upd tf rg.toNatClampNeg ty) (vp_updL ff rg.toNatClampNeg fy) cw td an qb pa) := hD
  have hw : R_write tf ff rg ty fy = ((upd tf rg.toNatClampNeg ty), (vp_updL ff rg.toNatClampNeg fy)) := rfl
  exact W.vret hx hb hr (fun t9 ht hW => ⟨⟨(), rfl, trivial, ⟨(upd tf rg.toNatClampNeg ty), (vp_updL ff rg.toNatClampNeg fy), hw, by rw [ht]; exact hP, hD⟩⟩, hS.F ht⟩) hS.2.2 dX2_write_20
def R_tell (cw : Int32) (td : Int32) (bit : Int32) : Int32 × Bool :=
  ((td ||| bit), (R_masked cw bit))
theorem kS_X2_tellAtFirst : yX2_tellAtFirst.cls ≠ "java/lang/invoke/MethodHandle" ∧ yX2_tellAtFirst.cls ≠ "java/lang/invoke/VarHandle" ∧ (parseMethodDescriptor yX2_tellAtFirst.desc).map (fun d => d.parameters.length) = some 1 := by decide +kernel
theorem kV_X2_tellAtFirst : yX2_tellAtFirst.cls = RX2 ∧ yX2_tellAtFirst.cls ≠ "java/lang/invoke/MethodHandle" ∧ yX2_tellAtFirst.cls ≠ "java/lang/invoke/VarHandle" ∧ (parseMethodDescriptor yX2_tellAtFirst.desc).map (fun d => d.parameters.length) = some 1 := ⟨rfl, kS_X2_tellAtFirst⟩
set_option maxHeartbeats 4000000 in
set_option maxRecDepth 100000 in
theorem c_X2_tellAtFirst (l : Launch) (D : va_G) (ad : Nat → Nat) (h : Nat) (q1 : Nat) (q2 : Nat) (cA : ClassId) (cB : ClassId) (tf : Nat → Int32) (ff : Nat → Int64) (cw : Int32) (td : Int32) (an : Bool) (qb : Int32) (pa : Bool) (bit : Int32) (sz : Nat) : Met l yX2_tellAtFirst wsX2_tellAtFirst ({ frames := 1, cells := 0, slots := 0, locals := 21 } : Room) (va_Pc [.ref h, .int bit] (MRB D ad h q1 q2 (tRS cA cB) (cRS h q1 q2 cA cB tf ff cw td an qb pa) [] sz)) (va_Qv (fun (_ : Unit) => True) (fun _ t => ∃ (w_td : Int32) (w_an : Bool), R_tell cw td bit = (w_td, w_an) ∧ va_P D vwCl (cRS h q1 q2 cA cB tf ff cw w_td w_an qb pa) t.heap ∧ va_D (va_A (cRS h q1 q2 cA cB tf ff cw td an qb pa) sz) (cRS h q1 q2 cA cB tf ff cw w_td w_an qb pa)) (va_A (cRS h q1 q2 cA cB tf ff cw td an qb pa) sz)) 0 0 (va_A (cRS h q1 q2 cA cB tf ff cw td an qb pa) sz) := by
  refine Met.ofW (cc := cX2_tellAtFirst) (maxL := 2) (ret := none) (by decide) rfl ?_
  intro p e s m args below meth c s₁ B hml hv
  obtain ⟨rfl, hsz, hP, hK, hD0, hR0, hRp, hE⟩ := hv
  have hx := B.exec
  have hb := B.bytes
  have hr := B.returns
  have hts := atoms_spec (ws := wsX2_tellAtFirst) B.pre
  have hown : s.vm.findClass RX2 = some m.cls := findClass_of_methodNamed B.named
  have hlocks := B.notSynchronized
  have w_1 := hts (.fieldLink RX2 21 "RealSteps" "toldBits" "I") (by decide +kernel)
  have in_X2 : ∀ w ∈ wsX20, w ∈ wsX2_tellAtFirst := by decide +kernel
  have w_3 := hts (.fieldLink RX2 24 "RealSteps" "answered" "Z") (by decide +kernel)
  subst hsz
  have hD := hD0.self (sz := s.heap.size)
  have hRA := rs_A hR0 hRp (e1 := .inr (1, [.ref q1, .ref q2, .int cw, .int td, .int (bI an), .int qb, .int (bI pa)])) (e2 := .inl (cA, 8, .inl tf)) (e3 := .inl (cB, 8, .inr (.inl ff)))
  generalize hAe : va_A (cRS h q1 q2 cA cB tf ff cw td an qb pa) s.heap.size = A at hD hE hRA ⊢
  have hA : ∀ q : Nat, s.heap.size ≤ q → A q := fun q h => by rw [← hAe]; exact Or.inr h
  have hS : va_S A s.heap s.heap [] := va_S.rf
  have hP : va_P D vwCl (cRS h q1 q2 cA cB tf ff cw td an qb pa) s.heap := hP
  have hl := lv_entry ([.ref h, .int bit]) (n := 2) (Nat.le_of_ble_eq_true rfl)
  rw [lg_entry_eq]
  generalize (lg_sl ([.ref h, .int bit]) ++ List.replicate (2 - (lg_sl ([.ref h, .int bit])).length) Slot.unset).toArray = ls at hl ⊢
  have hl : lv_has ls 2 [(0, .ref h), (1, .int bit)] := hl
  refine lv_aload_n hx hb dX2_tellAtFirst_0 rfl (lv_at hl 0 rfl) ?_
  refine lv_dup hx hb dX2_tellAtFirst_1 rfl ?_
  refine va_get (v := .int td) (C := RX2) (T := TX2) (N := 7) hx hb hts in_X2 hown hK hP 0 rfl rfl 3 (by decide) w_1 (fun _ h9 => h9) rfl dX2_tellAtFirst_2 ?_
  refine lv_iload_n hx hb dX2_tellAtFirst_5 rfl (lv_at hl 1 rfl) ?_
  refine lv_ior hx hb dX2_tellAtFirst_6 ?_
  refine va_put (v := .int (td ||| bit)) (ty := .int) (C := RX2) (T := TX2) (N := 7) hx hb hts in_X2 tyX2 tyX2_ok nmX2 hown hK hP hD hS 0 rfl rfl 3 (by decide) w_1 (fun _ h9 => h9) rfl (tyX2_ok 3 (by decide)) rfl rfl (Nat.le_of_ble_eq_true rfl) dX2_tellAtFirst_7 (fun H locs hP hD hS => ?_)
  have hP : va_P D vwCl (cRS h q1 q2 cA cB tf ff cw (td ||| bit) an qb pa) H := hP
  have hD : va_D A (cRS h q1 q2 cA cB tf ff cw (td ||| bit) an qb pa) := hD
  refine lv_aload_n hx hb dX2_tellAtFirst_10 rfl (lv_at hl 0 rfl) ?_
  refine lv_aload_n hx hb dX2_tellAtFirst_11 rfl (lv_at hl 0 rfl) ?_
  refine lv_iload_n hx hb dX2_tellAtFirst_12 rfl (lv_at hl 1 rfl) ?_
  refine vp_callSi (va_cr (va_runV (As := [.int bit]) (rest := [.ref h]) ⟨hx, hb, hml, hown, hts⟩ (c_X2_isMasked l D h q1 q2 cw (td ||| bit) an qb pa bit) (cwV 1 hts gX2_tellAtFirst_X2_isMasked rfl rfl rfl kV_X2_isMasked ⟨Nat.le_of_ble_eq_true rfl, Nat.le_of_ble_eq_true rfl⟩) ⟨PB.blind, va_recv hK hP (ci := 1) (q0 := 0) rfl rfl, PB.pre (hK.sub [] rfl) (hP.sub [0] rfl)⟩ rfl rfl hl.1 rfl (lv_room (Nat.le_of_ble_eq_true rfl)) dX2_tellAtFirst_13 ⟨Nat.le_of_ble_eq_true rfl, Nat.le_of_ble_eq_true rfl⟩)) (fun r9 e9 => ?_)
  rw [e9]
  refine va_put (v := .int (bI (R_masked cw bit))) (ty := .boolean) (C := RX2) (T := TX2) (N := 7) hx hb hts in_X2 tyX2 tyX2_ok nmX2 hown hK hP hD hS 0 rfl rfl 4 (by decide) w_3 (fun _ h9 => h9) rfl (tyX2_ok 4 (by decide)) (bI_nar _) (bI_fit _) (Nat.le_of_ble_eq_true rfl) dX2_tellAtFirst_16 (fun H locs hP hD hS => ?_)
  have hP : va_P D vwCl (cRS h q1 q2 cA cB tf ff cw (td ||| bit) (R_masked cw bit) qb pa) H := hP
  have hD : va_D A (cRS h q1 q2 cA cB tf ff cw (td ||| bit) (R_masked cw bit) qb pa) := hD
  have hw : R_tell cw td bit = ((td ||| bit), (R_masked cw bit)) := rfl
  exact W.vret hx hb hr (fun t9 ht hW => ⟨⟨(), rfl, trivial, ⟨(td ||| bit), (R_masked cw bit), hw, by rw [ht]; exact hP, hD⟩⟩, hS.F ht⟩) hS.2.2 dX2_tellAtFirst_19
def R_goesOn (cw : Int32) (tx : Int32) (fx : Int64) (ty : Int32) (fy : Int64) (im : Bool) (dv : Bool) : Bool × Int32 × Bool :=
  if bI (R_isOf tx fx 5) = 0 then (if bI (R_isOf ty fy 5) = 0 then (if bI im = 0 then (if bI (R_isOf tx fx 1) = 0 then (if bI (R_isOf ty fy 1) = 0 then (if bI dv = 0 then (true, 0, true)
            else (match (R_tell cw 0 4) with
              | (otd_22, oan_23) => (oan_23, otd_22, oan_23)))
          else (match (R_tell cw 0 2) with
            | (otd_25, oan_26) => if bI oan_26 = 0 then (oan_26, otd_25, oan_26)
            else if bI dv = 0 then (oan_26, otd_25, oan_26)
            else (match (R_tell cw otd_25 4) with
              | (otd_30, oan_31) => (oan_31, otd_30, oan_31))))
        else (match (R_tell cw 0 2) with
          | (otd_11, oan_12) => if bI oan_12 = 0 then (oan_12, otd_11, oan_12)
          else if bI dv = 0 then (oan_12, otd_11, oan_12)
          else (match (R_tell cw otd_11 4) with
            | (otd_16, oan_17) => (oan_17, otd_16, oan_17))))
      else (match (R_tell cw 0 1) with
        | (otd_33, oan_34) => (false, otd_33, oan_34)))
    else (match (R_tell cw 0 1) with
      | (otd_6, oan_7) => (false, otd_6, oan_7)))
  else (match (R_tell cw 0 1) with
    | (otd_2, oan_3) => (false, otd_2, oan_3))
theorem kS_X2_goesOn : yX2_goesOn.cls ≠ "java/lang/invoke/MethodHandle" ∧ yX2_goesOn.cls ≠ "java/lang/invoke/VarHandle" ∧ (parseMethodDescriptor yX2_goesOn.desc).map (fun d => d.parameters.length) = some 4 := by decide +kernel
theorem kV_X2_goesOn : yX2_goesOn.cls = RX2 ∧ yX2_goesOn.cls ≠ "java/lang/invoke/MethodHandle" ∧ yX2_goesOn.cls ≠ "java/lang/invoke/VarHandle" ∧ (parseMethodDescriptor yX2_goesOn.desc).map (fun d => d.parameters.length) = some 4 := ⟨rfl, kS_X2_goesOn⟩
set_option maxHeartbeats 4000000 in
set_option maxRecDepth 100000 in
theorem c_X2_goesOn (l : Launch) (D : va_G) (ad : Nat → Nat) (h : Nat) (q1 : Nat) (q2 : Nat) (cA : ClassId) (cB : ClassId) (tf : Nat → Int32) (ff : Nat → Int64) (cw : Int32) (td : Int32) (an : Bool) (qb : Int32) (pa : Bool) (x : Nat) (tx : Int32) (fx : Int64) (y : Nat) (ty : Int32) (fy : Int64) (im : Bool) (dv : Bool) (sz : Nat) : Met l yX2_goesOn wsX2_goesOn ({ frames := 3, cells := 0, slots := 0, locals := 62 } : Room) (va_Pc [.ref h, .ref x, .ref y, .int (bI im), .int (bI dv)] (MRB D ad h q1 q2 (tRS cA cB) (cRS h q1 q2 cA cB tf ff cw td an qb pa) [cReal x tx fx, cReal y ty fy] sz)) (va_Qi (fun (r : Int32) (u : Bool) => r = bI u) (fun u t => ∃ (w_td : Int32) (w_an : Bool), R_goesOn cw tx fx ty fy im dv = (u, w_td, w_an) ∧ va_P D vwCl (cRS h q1 q2 cA cB tf ff cw w_td w_an qb pa) t.heap ∧ va_D (va_A (cRS h q1 q2 cA cB tf ff cw td an qb pa) sz) (cRS h q1 q2 cA cB tf ff cw w_td w_an qb pa)) (va_A (cRS h q1 q2 cA cB tf ff cw td an qb pa) sz)) 0 0 (va_A (cRS h q1 q2 cA cB tf ff cw td an qb pa) sz) := by
  refine Met.ofW (cc := cX2_goesOn) (maxL := 5) (ret := (some .boolean)) (by decide) rfl ?_
  intro p e s m args below meth c s₁ B hml hv
  obtain ⟨rfl, hsz, hP, hK, hD0, hR0, hRp, hE⟩ := hv
  have hx := B.exec
  have hb := B.bytes
  have hr := B.returns
  have hts := atoms_spec (ws := wsX2_goesOn) B.pre
  have hown : s.vm.findClass RX2 = some m.cls := findClass_of_methodNamed B.named
  have hlocks := B.notSynchronized
  have w_1 := hts (.fieldLink RX2 21 "RealSteps" "toldBits" "I") (by decide +kernel)
  have in_X2 : ∀ w ∈ wsX20, w ∈ wsX2_goesOn := by decide +kernel
  have w_3 := hts (.fieldLink RX2 24 "RealSteps" "answered" "Z") (by decide +kernel)
  have w_4 := hts (.fieldLink RX2 154 "RealSteps$Kind" "NO_NUMBER" "LRealSteps$Kind;") (by decide +kernel)
  have w_5 := hts (.initialized RX1) (by decide +kernel)
  have w_6 := hts (.instanceMethod yX1_isOf) (by decide +kernel)
  have w_7 := hts (.selects RX1 yX1_isOf yX1_isOf) (by decide +kernel)
  have w_8 := hts (.fieldLink RX2 160 "RealSteps$Kind" "DENORMAL" "LRealSteps$Kind;") (by decide +kernel)
  subst hsz
  have hD := hD0.self (sz := s.heap.size)
  have hRA := rs_A hR0 hRp (e1 := .inr (1, [.ref q1, .ref q2, .int cw, .int td, .int (bI an), .int qb, .int (bI pa)])) (e2 := .inl (cA, 8, .inl tf)) (e3 := .inl (cB, 8, .inr (.inl ff)))
  generalize hAe : va_A (cRS h q1 q2 cA cB tf ff cw td an qb pa) s.heap.size = A at hD hE hRA ⊢
  have hA : ∀ q : Nat, s.heap.size ≤ q → A q := fun q h => by rw [← hAe]; exact Or.inr h
  have hS : va_S A s.heap s.heap [] := va_S.rf
  have hP : va_P D vwCl (cRS h q1 q2 cA cB tf ff cw td an qb pa) s.heap := hP
  have hl := lv_entry ([.ref h, .ref x, .ref y, .int (bI im), .int (bI dv)]) (n := 5) (Nat.le_of_ble_eq_true rfl)
  rw [lg_entry_eq]
  generalize (lg_sl ([.ref h, .ref x, .ref y, .int (bI im), .int (bI dv)]) ++ List.replicate (5 - (lg_sl ([.ref h, .ref x, .ref y, .int (bI im), .int (bI dv)])).length) Slot.unset).toArray = ls at hl ⊢
  have hl : lv_has ls 5 [(0, .ref h), (1, .ref x), (2, .ref y), (3, .int (bI im)), (4, .int (bI dv))] := hl
  refine lv_aload_n hx hb dX2_goesOn_0 rfl (lv_at hl 0 rfl) ?_
  refine lv_iconst (v := 0) hx hb dX2_goesOn_1 (by decide) ?_
  refine va_put (v := .int 0) (ty := .int) (C := RX2) (T := TX2) (N := 7) hx hb hts in_X2 tyX2 tyX2_ok nmX2 hown hK hP hD hS 0 rfl rfl 3 (by decide) w_1 (fun _ h9 => h9) rfl (tyX2_ok 3 (by decide)) rfl rfl (Nat.le_of_ble_eq_true rfl) dX2_goesOn_2 (fun H locs hP hD hS => ?_)
  have hP : va_P D vwCl (cRS h q1 q2 cA cB tf ff cw 0 an qb pa) H := hP
  have hD : va_D A (cRS h q1 q2 cA cB tf ff cw 0 an qb pa) := hD
  refine lv_aload_n hx hb dX2_goesOn_5 rfl (lv_at hl 0 rfl) ?_
  refine lv_iconst (v := 1) hx hb dX2_goesOn_6 (by decide) ?_
  refine va_put (v := .int 1) (ty := .boolean) (C := RX2) (T := TX2) (N := 7) hx hb hts in_X2 tyX2 tyX2_ok nmX2 hown hK hP hD hS 0 rfl rfl 4 (by decide) w_3 (fun _ h9 => h9) rfl (tyX2_ok 4 (by decide)) rfl rfl (Nat.le_of_ble_eq_true rfl) dX2_goesOn_7 (fun H locs hP hD hS => ?_)
  have hP : va_P D vwCl (cRS h q1 q2 cA cB tf ff cw 0 true qb pa) H := hP
  have hD : va_D A (cRS h q1 q2 cA cB tf ff cw 0 true qb pa) := hD
  refine lv_aload_n hx hb dX2_goesOn_10 rfl (lv_at hl 1 rfl) ?_
  refine va_gets (v := .ref (ad 5)) hx hb (hE.1.1 5 (by decide)).1 hS hown w_4 (fun _ h9 => h9) dX2_goesOn_11 ?_
  refine vp_callSi (va_cr (va_runVN (As := [.ref (ad 5)]) (rest := []) ⟨hx, hb, hml, hown, hts⟩ (c_X1_isOf l D ad x tx fx 5 (by decide)) ⟨va_cnB 1 hts gX2_goesOn_X1_isOf_n112 rfl rfl rfl (hE.2.1 _ (List.mem_of_getElem? (i := 0) rfl)) w_5 kS_X1_isOf ⟨Nat.le_of_ble_eq_true rfl, Nat.le_of_ble_eq_true rfl⟩, w_6, w_7⟩ ⟨EB.blind, va_recv hK (ro_now hR0 hRA hS) (ci := 0) (q0 := 0) rfl rfl, EB.pre (hK.sub [] rfl) ((ro_now hR0 hRA hS).sub [0] rfl) hE hS⟩ rfl rfl hl.1 rfl (lv_room (Nat.le_of_ble_eq_true rfl)) dX2_goesOn_14 ⟨Nat.le_of_ble_eq_true rfl, Nat.le_of_ble_eq_true rfl⟩)) (fun r9 e9 => ?_)
  rw [e9]
  refine lv_if_ne (tgt := 34) hx hb dX2_goesOn_17 (by decide) (fun c_1 => ?_) (fun c_1 => ?_)
  · refine lv_aload_n hx hb dX2_goesOn_34 rfl (lv_at hl 0 rfl) ?_
    refine lv_iconst (v := 1) hx hb dX2_goesOn_35 (by decide) ?_
    have hFc := va_free (wc := cRS h q1 q2 cA cB tf ff cw 0 true qb pa) hD hS hA [0, 1, 2] rfl
    refine va_callv (va_runV (As := [.int 1]) (rest := []) ⟨hx, hb, hml, hown, hts⟩ (c_X2_tellAtFirst l D ad h q1 q2 cA cB tf ff cw 0 true qb pa 1 H.size) (cwV 1 hts gX2_goesOn_X2_tellAtFirst rfl rfl rfl kV_X2_tellAtFirst ⟨Nat.le_of_ble_eq_true rfl, Nat.le_of_ble_eq_true rfl⟩) ⟨MRB.blind, va_recv hK hP (ci := 1) (q0 := 0) rfl rfl, MRB.pre hK hP hD vP_nil ap_nil hE hS hFc⟩ rfl rfl hl.1 rfl (lv_room (Nat.le_of_ble_eq_true rfl)) dX2_goesOn_36 ⟨Nat.le_of_ble_eq_true rfl, Nat.le_of_ble_eq_true rfl⟩) hS (fun q _ h9 => hFc q h9) hFc (fun u9 t9 H locs ht hvm hw hB hz1 hk1 hS => ?_)
    obtain ⟨otd_2, oan_3, e_4, hP, hD9⟩ := hB
    rw [ht] at hP
    have hD : va_D A (cRS h q1 q2 cA cB tf ff cw otd_2 oan_3 qb pa) := hD9.weaken (fun _ _ _ h => hFc _ h)
    refine lv_iconst (v := 0) hx hb dX2_goesOn_39 (by decide) ?_
    have hw : R_goesOn cw tx fx ty fy im dv = (false, otd_2, oan_3) := by unfold R_goesOn; rw [if_neg c_1, e_4]; try dsimp only; try rfl
    exact W.zret hx hb hr rfl (fun t9 ht hW => ⟨⟨_, false, rfl, rfl, ⟨otd_2, oan_3, hw, by rw [ht]; exact hP, hD⟩⟩, hS.F ht⟩) hS.2.2 dX2_goesOn_40
  · refine lv_aload_n hx hb dX2_goesOn_20 rfl (lv_at hl 2 rfl) ?_
    refine va_gets (v := .ref (ad 5)) hx hb (hE.1.1 5 (by decide)).1 hS hown w_4 (fun _ h9 => h9) dX2_goesOn_21 ?_
    refine vp_callSi (va_cr (va_runVN (As := [.ref (ad 5)]) (rest := []) ⟨hx, hb, hml, hown, hts⟩ (c_X1_isOf l D ad y ty fy 5 (by decide)) ⟨va_cnB 1 hts gX2_goesOn_X1_isOf_n112 rfl rfl rfl (hE.2.1 _ (List.mem_of_getElem? (i := 0) rfl)) w_5 kS_X1_isOf ⟨Nat.le_of_ble_eq_true rfl, Nat.le_of_ble_eq_true rfl⟩, w_6, w_7⟩ ⟨EB.blind, va_recv hK (ro_now hR0 hRA hS) (ci := 0) (q0 := 1) rfl rfl, EB.pre (hK.sub [] rfl) ((ro_now hR0 hRA hS).sub [1] rfl) hE hS⟩ rfl rfl hl.1 rfl (lv_room (Nat.le_of_ble_eq_true rfl)) dX2_goesOn_24 ⟨Nat.le_of_ble_eq_true rfl, Nat.le_of_ble_eq_true rfl⟩)) (fun r9 e9 => ?_)
    rw [e9]
    refine lv_if_ne (tgt := 34) hx hb dX2_goesOn_27 (by decide) (fun c_5 => ?_) (fun c_5 => ?_)
    · refine lv_aload_n hx hb dX2_goesOn_34 rfl (lv_at hl 0 rfl) ?_
      refine lv_iconst (v := 1) hx hb dX2_goesOn_35 (by decide) ?_
      have hFc := va_free (wc := cRS h q1 q2 cA cB tf ff cw 0 true qb pa) hD hS hA [0, 1, 2] rfl
      refine va_callv (va_runV (As := [.int 1]) (rest := []) ⟨hx, hb, hml, hown, hts⟩ (c_X2_tellAtFirst l D ad h q1 q2 cA cB tf ff cw 0 true qb pa 1 H.size) (cwV 1 hts gX2_goesOn_X2_tellAtFirst rfl rfl rfl kV_X2_tellAtFirst ⟨Nat.le_of_ble_eq_true rfl, Nat.le_of_ble_eq_true rfl⟩) ⟨MRB.blind, va_recv hK hP (ci := 1) (q0 := 0) rfl rfl, MRB.pre hK hP hD vP_nil ap_nil hE hS hFc⟩ rfl rfl hl.1 rfl (lv_room (Nat.le_of_ble_eq_true rfl)) dX2_goesOn_36 ⟨Nat.le_of_ble_eq_true rfl, Nat.le_of_ble_eq_true rfl⟩) hS (fun q _ h9 => hFc q h9) hFc (fun u9 t9 H locs ht hvm hw hB hz1 hk1 hS => ?_)
      obtain ⟨otd_6, oan_7, e_8, hP, hD9⟩ := hB
      rw [ht] at hP
      have hD : va_D A (cRS h q1 q2 cA cB tf ff cw otd_6 oan_7 qb pa) := hD9.weaken (fun _ _ _ h => hFc _ h)
      refine lv_iconst (v := 0) hx hb dX2_goesOn_39 (by decide) ?_
      have hw : R_goesOn cw tx fx ty fy im dv = (false, otd_6, oan_7) := by unfold R_goesOn; rw [if_pos c_1, if_neg c_5, e_8]; try dsimp only; try rfl
      exact W.zret hx hb hr rfl (fun t9 ht hW => ⟨⟨_, false, rfl, rfl, ⟨otd_6, oan_7, hw, by rw [ht]; exact hP, hD⟩⟩, hS.F ht⟩) hS.2.2 dX2_goesOn_40
    · refine lv_iload_n hx hb dX2_goesOn_30 rfl (lv_at hl 3 rfl) ?_
      refine lv_if_eq (tgt := 41) hx hb dX2_goesOn_31 (by decide) (fun c_9 => ?_) (fun c_9 => ?_)
      · refine lv_aload_n hx hb dX2_goesOn_41 rfl (lv_at hl 1 rfl) ?_
        refine va_gets (v := .ref (ad 1)) hx hb (hE.1.1 1 (by decide)).1 hS hown w_8 (fun _ h9 => h9) dX2_goesOn_42 ?_
        refine vp_callSi (va_cr (va_runVN (As := [.ref (ad 1)]) (rest := []) ⟨hx, hb, hml, hown, hts⟩ (c_X1_isOf l D ad x tx fx 1 (by decide)) ⟨va_cnB 1 hts gX2_goesOn_X1_isOf_n112 rfl rfl rfl (hE.2.1 _ (List.mem_of_getElem? (i := 0) rfl)) w_5 kS_X1_isOf ⟨Nat.le_of_ble_eq_true rfl, Nat.le_of_ble_eq_true rfl⟩, w_6, w_7⟩ ⟨EB.blind, va_recv hK (ro_now hR0 hRA hS) (ci := 0) (q0 := 0) rfl rfl, EB.pre (hK.sub [] rfl) ((ro_now hR0 hRA hS).sub [0] rfl) hE hS⟩ rfl rfl hl.1 rfl (lv_room (Nat.le_of_ble_eq_true rfl)) dX2_goesOn_45 ⟨Nat.le_of_ble_eq_true rfl, Nat.le_of_ble_eq_true rfl⟩)) (fun r9 e9 => ?_)
        rw [e9]
        refine lv_if_ne (tgt := 61) hx hb dX2_goesOn_48 (by decide) (fun c_10 => ?_) (fun c_10 => ?_)
        · refine lv_aload_n hx hb dX2_goesOn_61 rfl (lv_at hl 0 rfl) ?_
          refine lv_iconst (v := 2) hx hb dX2_goesOn_62 (by decide) ?_
          have hFc := va_free (wc := cRS h q1 q2 cA cB tf ff cw 0 true qb pa) hD hS hA [0, 1, 2] rfl
          refine va_callv (va_runV (As := [.int 2]) (rest := []) ⟨hx, hb, hml, hown, hts⟩ (c_X2_tellAtFirst l D ad h q1 q2 cA cB tf ff cw 0 true qb pa 2 H.size) (cwV 1 hts gX2_goesOn_X2_tellAtFirst rfl rfl rfl kV_X2_tellAtFirst ⟨Nat.le_of_ble_eq_true rfl, Nat.le_of_ble_eq_true rfl⟩) ⟨MRB.blind, va_recv hK hP (ci := 1) (q0 := 0) rfl rfl, MRB.pre hK hP hD vP_nil ap_nil hE hS hFc⟩ rfl rfl hl.1 rfl (lv_room (Nat.le_of_ble_eq_true rfl)) dX2_goesOn_63 ⟨Nat.le_of_ble_eq_true rfl, Nat.le_of_ble_eq_true rfl⟩) hS (fun q _ h9 => hFc q h9) hFc (fun u9 t9 H locs ht hvm hw hB hz1 hk1 hS => ?_)
          obtain ⟨otd_11, oan_12, e_13, hP, hD9⟩ := hB
          rw [ht] at hP
          have hD : va_D A (cRS h q1 q2 cA cB tf ff cw otd_11 oan_12 qb pa) := hD9.weaken (fun _ _ _ h => hFc _ h)
          refine lv_aload_n hx hb dX2_goesOn_66 rfl (lv_at hl 0 rfl) ?_
          refine va_get (v := .int (bI oan_12)) (C := RX2) (T := TX2) (N := 7) hx hb hts in_X2 hown hK hP 0 rfl rfl 4 (by decide) w_3 (fun _ h9 => h9) rfl dX2_goesOn_67 ?_
          refine lv_if_eq (tgt := 83) hx hb dX2_goesOn_70 (by decide) (fun c_14 => ?_) (fun c_14 => ?_)
          · refine lv_aload_n hx hb dX2_goesOn_83 rfl (lv_at hl 0 rfl) ?_
            refine va_get (v := .int (bI oan_12)) (C := RX2) (T := TX2) (N := 7) hx hb hts in_X2 hown hK hP 0 rfl rfl 4 (by decide) w_3 (fun _ h9 => h9) rfl dX2_goesOn_84 ?_
            have hw : R_goesOn cw tx fx ty fy im dv = (oan_12, otd_11, oan_12) := by unfold R_goesOn; rw [if_pos c_1, if_pos c_5, if_pos c_9, if_neg c_10, e_13]; try dsimp only; rw [if_pos c_14]; try rfl
            exact W.zret hx hb hr (bI_nar _) (fun t9 ht hW => ⟨⟨_, oan_12, rfl, rfl, ⟨otd_11, oan_12, hw, by rw [ht]; exact hP, hD⟩⟩, hS.F ht⟩) hS.2.2 dX2_goesOn_87
          · refine lv_iload hx hb dX2_goesOn_73 (lv_at hl 4 rfl) ?_
            refine lv_if_eq (tgt := 83) hx hb dX2_goesOn_75 (by decide) (fun c_15 => ?_) (fun c_15 => ?_)
            · refine lv_aload_n hx hb dX2_goesOn_83 rfl (lv_at hl 0 rfl) ?_
              refine va_get (v := .int (bI oan_12)) (C := RX2) (T := TX2) (N := 7) hx hb hts in_X2 hown hK hP 0 rfl rfl 4 (by decide) w_3 (fun _ h9 => h9) rfl dX2_goesOn_84 ?_
              have hw : R_goesOn cw tx fx ty fy im dv = (oan_12, otd_11, oan_12) := by unfold R_goesOn; rw [if_pos c_1, if_pos c_5, if_pos c_9, if_neg c_10, e_13]; try dsimp only; rw [if_neg c_14, if_pos c_15]; try rfl
              exact W.zret hx hb hr (bI_nar _) (fun t9 ht hW => ⟨⟨_, oan_12, rfl, rfl, ⟨otd_11, oan_12, hw, by rw [ht]; exact hP, hD⟩⟩, hS.F ht⟩) hS.2.2 dX2_goesOn_87
            · refine lv_aload_n hx hb dX2_goesOn_78 rfl (lv_at hl 0 rfl) ?_
              refine lv_iconst (v := 4) hx hb dX2_goesOn_79 (by decide) ?_
              have hFc := va_free (wc := cRS h q1 q2 cA cB tf ff cw otd_11 oan_12 qb pa) hD hS hA [0, 1, 2] rfl
              refine va_callv (va_runV (As := [.int 4]) (rest := []) ⟨hx, hb, hml, hown, hts⟩ (c_X2_tellAtFirst l D ad h q1 q2 cA cB tf ff cw otd_11 oan_12 qb pa 4 H.size) (cwV 1 hts gX2_goesOn_X2_tellAtFirst rfl rfl rfl kV_X2_tellAtFirst ⟨Nat.le_of_ble_eq_true rfl, Nat.le_of_ble_eq_true rfl⟩) ⟨MRB.blind, va_recv hK hP (ci := 1) (q0 := 0) rfl rfl, MRB.pre hK hP hD vP_nil ap_nil hE hS hFc⟩ rfl rfl hl.1 rfl (lv_room (Nat.le_of_ble_eq_true rfl)) dX2_goesOn_80 ⟨Nat.le_of_ble_eq_true rfl, Nat.le_of_ble_eq_true rfl⟩) hS (fun q _ h9 => hFc q h9) hFc (fun u9 t9 H locs ht hvm hw hB hz1 hk1 hS => ?_)
              obtain ⟨otd_16, oan_17, e_18, hP, hD9⟩ := hB
              rw [ht] at hP
              have hD : va_D A (cRS h q1 q2 cA cB tf ff cw otd_16 oan_17 qb pa) := hD9.weaken (fun _ _ _ h => hFc _ h)
              refine lv_aload_n hx hb dX2_goesOn_83 rfl (lv_at hl 0 rfl) ?_
              refine va_get (v := .int (bI oan_17)) (C := RX2) (T := TX2) (N := 7) hx hb hts in_X2 hown hK hP 0 rfl rfl 4 (by decide) w_3 (fun _ h9 => h9) rfl dX2_goesOn_84 ?_
              have hw : R_goesOn cw tx fx ty fy im dv = (oan_17, otd_16, oan_17) := by unfold R_goesOn; rw [if_pos c_1, if_pos c_5, if_pos c_9, if_neg c_10, e_13]; try dsimp only; rw [if_neg c_14, if_neg c_15, e_18]; try dsimp only; try rfl
              exact W.zret hx hb hr (bI_nar _) (fun t9 ht hW => ⟨⟨_, oan_17, rfl, rfl, ⟨otd_16, oan_17, hw, by rw [ht]; exact hP, hD⟩⟩, hS.F ht⟩) hS.2.2 dX2_goesOn_87
        · refine lv_aload_n hx hb dX2_goesOn_51 rfl (lv_at hl 2 rfl) ?_
          refine va_gets (v := .ref (ad 1)) hx hb (hE.1.1 1 (by decide)).1 hS hown w_8 (fun _ h9 => h9) dX2_goesOn_52 ?_
          refine vp_callSi (va_cr (va_runVN (As := [.ref (ad 1)]) (rest := []) ⟨hx, hb, hml, hown, hts⟩ (c_X1_isOf l D ad y ty fy 1 (by decide)) ⟨va_cnB 1 hts gX2_goesOn_X1_isOf_n112 rfl rfl rfl (hE.2.1 _ (List.mem_of_getElem? (i := 0) rfl)) w_5 kS_X1_isOf ⟨Nat.le_of_ble_eq_true rfl, Nat.le_of_ble_eq_true rfl⟩, w_6, w_7⟩ ⟨EB.blind, va_recv hK (ro_now hR0 hRA hS) (ci := 0) (q0 := 1) rfl rfl, EB.pre (hK.sub [] rfl) ((ro_now hR0 hRA hS).sub [1] rfl) hE hS⟩ rfl rfl hl.1 rfl (lv_room (Nat.le_of_ble_eq_true rfl)) dX2_goesOn_55 ⟨Nat.le_of_ble_eq_true rfl, Nat.le_of_ble_eq_true rfl⟩)) (fun r9 e9 => ?_)
          rw [e9]
          refine lv_if_eq (tgt := 66) hx hb dX2_goesOn_58 (by decide) (fun c_19 => ?_) (fun c_19 => ?_)
          · refine lv_aload_n hx hb dX2_goesOn_66 rfl (lv_at hl 0 rfl) ?_
            refine va_get (v := .int (bI true)) (C := RX2) (T := TX2) (N := 7) hx hb hts in_X2 hown hK hP 0 rfl rfl 4 (by decide) w_3 (fun _ h9 => h9) rfl dX2_goesOn_67 ?_
            refine lv_if_eq (tgt := 83) hx hb dX2_goesOn_70 (by decide) (fun c_20 => ?_) (fun c_20 => ?_)
            · exact absurd c_20 (by decide)
            · refine lv_iload hx hb dX2_goesOn_73 (lv_at hl 4 rfl) ?_
              refine lv_if_eq (tgt := 83) hx hb dX2_goesOn_75 (by decide) (fun c_21 => ?_) (fun c_21 => ?_)
              · refine lv_aload_n hx hb dX2_goesOn_83 rfl (lv_at hl 0 rfl) ?_
                refine va_get (v := .int (bI true)) (C := RX2) (T := TX2) (N := 7) hx hb hts in_X2 hown hK hP 0 rfl rfl 4 (by decide) w_3 (fun _ h9 => h9) rfl dX2_goesOn_84 ?_
                have hw : R_goesOn cw tx fx ty fy im dv = (true, 0, true) := by unfold R_goesOn; rw [if_pos c_1, if_pos c_5, if_pos c_9, if_pos c_10, if_pos c_19, if_pos c_21]; try rfl
                exact W.zret hx hb hr (bI_nar _) (fun t9 ht hW => ⟨⟨_, true, rfl, rfl, ⟨0, true, hw, by rw [ht]; exact hP, hD⟩⟩, hS.F ht⟩) hS.2.2 dX2_goesOn_87
              · refine lv_aload_n hx hb dX2_goesOn_78 rfl (lv_at hl 0 rfl) ?_
                refine lv_iconst (v := 4) hx hb dX2_goesOn_79 (by decide) ?_
                have hFc := va_free (wc := cRS h q1 q2 cA cB tf ff cw 0 true qb pa) hD hS hA [0, 1, 2] rfl
                refine va_callv (va_runV (As := [.int 4]) (rest := []) ⟨hx, hb, hml, hown, hts⟩ (c_X2_tellAtFirst l D ad h q1 q2 cA cB tf ff cw 0 true qb pa 4 H.size) (cwV 1 hts gX2_goesOn_X2_tellAtFirst rfl rfl rfl kV_X2_tellAtFirst ⟨Nat.le_of_ble_eq_true rfl, Nat.le_of_ble_eq_true rfl⟩) ⟨MRB.blind, va_recv hK hP (ci := 1) (q0 := 0) rfl rfl, MRB.pre hK hP hD vP_nil ap_nil hE hS hFc⟩ rfl rfl hl.1 rfl (lv_room (Nat.le_of_ble_eq_true rfl)) dX2_goesOn_80 ⟨Nat.le_of_ble_eq_true rfl, Nat.le_of_ble_eq_true rfl⟩) hS (fun q _ h9 => hFc q h9) hFc (fun u9 t9 H locs ht hvm hw hB hz1 hk1 hS => ?_)
                obtain ⟨otd_22, oan_23, e_24, hP, hD9⟩ := hB
                rw [ht] at hP
                have hD : va_D A (cRS h q1 q2 cA cB tf ff cw otd_22 oan_23 qb pa) := hD9.weaken (fun _ _ _ h => hFc _ h)
                refine lv_aload_n hx hb dX2_goesOn_83 rfl (lv_at hl 0 rfl) ?_
                refine va_get (v := .int (bI oan_23)) (C := RX2) (T := TX2) (N := 7) hx hb hts in_X2 hown hK hP 0 rfl rfl 4 (by decide) w_3 (fun _ h9 => h9) rfl dX2_goesOn_84 ?_
                have hw : R_goesOn cw tx fx ty fy im dv = (oan_23, otd_22, oan_23) := by unfold R_goesOn; rw [if_pos c_1, if_pos c_5, if_pos c_9, if_pos c_10, if_pos c_19, if_neg c_21, e_24]; try dsimp only; try rfl
                exact W.zret hx hb hr (bI_nar _) (fun t9 ht hW => ⟨⟨_, oan_23, rfl, rfl, ⟨otd_22, oan_23, hw, by rw [ht]; exact hP, hD⟩⟩, hS.F ht⟩) hS.2.2 dX2_goesOn_87
          · refine lv_aload_n hx hb dX2_goesOn_61 rfl (lv_at hl 0 rfl) ?_
            refine lv_iconst (v := 2) hx hb dX2_goesOn_62 (by decide) ?_
            have hFc := va_free (wc := cRS h q1 q2 cA cB tf ff cw 0 true qb pa) hD hS hA [0, 1, 2] rfl
            refine va_callv (va_runV (As := [.int 2]) (rest := []) ⟨hx, hb, hml, hown, hts⟩ (c_X2_tellAtFirst l D ad h q1 q2 cA cB tf ff cw 0 true qb pa 2 H.size) (cwV 1 hts gX2_goesOn_X2_tellAtFirst rfl rfl rfl kV_X2_tellAtFirst ⟨Nat.le_of_ble_eq_true rfl, Nat.le_of_ble_eq_true rfl⟩) ⟨MRB.blind, va_recv hK hP (ci := 1) (q0 := 0) rfl rfl, MRB.pre hK hP hD vP_nil ap_nil hE hS hFc⟩ rfl rfl hl.1 rfl (lv_room (Nat.le_of_ble_eq_true rfl)) dX2_goesOn_63 ⟨Nat.le_of_ble_eq_true rfl, Nat.le_of_ble_eq_true rfl⟩) hS (fun q _ h9 => hFc q h9) hFc (fun u9 t9 H locs ht hvm hw hB hz1 hk1 hS => ?_)
            obtain ⟨otd_25, oan_26, e_27, hP, hD9⟩ := hB
            rw [ht] at hP
            have hD : va_D A (cRS h q1 q2 cA cB tf ff cw otd_25 oan_26 qb pa) := hD9.weaken (fun _ _ _ h => hFc _ h)
            refine lv_aload_n hx hb dX2_goesOn_66 rfl (lv_at hl 0 rfl) ?_
            refine va_get (v := .int (bI oan_26)) (C := RX2) (T := TX2) (N := 7) hx hb hts in_X2 hown hK hP 0 rfl rfl 4 (by decide) w_3 (fun _ h9 => h9) rfl dX2_goesOn_67 ?_
            refine lv_if_eq (tgt := 83) hx hb dX2_goesOn_70 (by decide) (fun c_28 => ?_) (fun c_28 => ?_)
            · refine lv_aload_n hx hb dX2_goesOn_83 rfl (lv_at hl 0 rfl) ?_
              refine va_get (v := .int (bI oan_26)) (C := RX2) (T := TX2) (N := 7) hx hb hts in_X2 hown hK hP 0 rfl rfl 4 (by decide) w_3 (fun _ h9 => h9) rfl dX2_goesOn_84 ?_
              have hw : R_goesOn cw tx fx ty fy im dv = (oan_26, otd_25, oan_26) := by unfold R_goesOn; rw [if_pos c_1, if_pos c_5, if_pos c_9, if_pos c_10, if_neg c_19, e_27]; try dsimp only; rw [if_pos c_28]; try rfl
              exact W.zret hx hb hr (bI_nar _) (fun t9 ht hW => ⟨⟨_, oan_26, rfl, rfl, ⟨otd_25, oan_26, hw, by rw [ht]; exact hP, hD⟩⟩, hS.F ht⟩) hS.2.2 dX2_goesOn_87
            · refine lv_iload hx hb dX2_goesOn_73 (lv_at hl 4 rfl) ?_
              refine lv_if_eq (tgt := 83) hx hb dX2_goesOn_75 (by decide) (fun c_29 => ?_) (fun c_29 => ?_)
              · refine lv_aload_n hx hb dX2_goesOn_83 rfl (lv_at hl 0 rfl) ?_
                refine va_get (v := .int (bI oan_26)) (C := RX2) (T := TX2) (N := 7) hx hb hts in_X2 hown hK hP 0 rfl rfl 4 (by decide) w_3 (fun _ h9 => h9) rfl dX2_goesOn_84 ?_
                have hw : R_goesOn cw tx fx ty fy im dv = (oan_26, otd_25, oan_26) := by unfold R_goesOn; rw [if_pos c_1, if_pos c_5, if_pos c_9, if_pos c_10, if_neg c_19, e_27]; try dsimp only; rw [if_neg c_28, if_pos c_29]; try rfl
                exact W.zret hx hb hr (bI_nar _) (fun t9 ht hW => ⟨⟨_, oan_26, rfl, rfl, ⟨otd_25, oan_26, hw, by rw [ht]; exact hP, hD⟩⟩, hS.F ht⟩) hS.2.2 dX2_goesOn_87
              · refine lv_aload_n hx hb dX2_goesOn_78 rfl (lv_at hl 0 rfl) ?_
                refine lv_iconst (v := 4) hx hb dX2_goesOn_79 (by decide) ?_
                have hFc := va_free (wc := cRS h q1 q2 cA cB tf ff cw otd_25 oan_26 qb pa) hD hS hA [0, 1, 2] rfl
                refine va_callv (va_runV (As := [.int 4]) (rest := []) ⟨hx, hb, hml, hown, hts⟩ (c_X2_tellAtFirst l D ad h q1 q2 cA cB tf ff cw otd_25 oan_26 qb pa 4 H.size) (cwV 1 hts gX2_goesOn_X2_tellAtFirst rfl rfl rfl kV_X2_tellAtFirst ⟨Nat.le_of_ble_eq_true rfl, Nat.le_of_ble_eq_true rfl⟩) ⟨MRB.blind, va_recv hK hP (ci := 1) (q0 := 0) rfl rfl, MRB.pre hK hP hD vP_nil ap_nil hE hS hFc⟩ rfl rfl hl.1 rfl (lv_room (Nat.le_of_ble_eq_true rfl)) dX2_goesOn_80 ⟨Nat.le_of_ble_eq_true rfl, Nat.le_of_ble_eq_true rfl⟩) hS (fun q _ h9 => hFc q h9) hFc (fun u9 t9 H locs ht hvm hw hB hz1 hk1 hS => ?_)
                obtain ⟨otd_30, oan_31, e_32, hP, hD9⟩ := hB
                rw [ht] at hP
                have hD : va_D A (cRS h q1 q2 cA cB tf ff cw otd_30 oan_31 qb pa) := hD9.weaken (fun _ _ _ h => hFc _ h)
                refine lv_aload_n hx hb dX2_goesOn_83 rfl (lv_at hl 0 rfl) ?_
                refine va_get (v := .int (bI oan_31)) (C := RX2) (T := TX2) (N := 7) hx hb hts in_X2 hown hK hP 0 rfl rfl 4 (by decide) w_3 (fun _ h9 => h9) rfl dX2_goesOn_84 ?_
                have hw : R_goesOn cw tx fx ty fy im dv = (oan_31, otd_30, oan_31) := by unfold R_goesOn; rw [if_pos c_1, if_pos c_5, if_pos c_9, if_pos c_10, if_neg c_19, e_27]; try dsimp only; rw [if_neg c_28, if_neg c_29, e_32]; try dsimp only; try rfl
                exact W.zret hx hb hr (bI_nar _) (fun t9 ht hW => ⟨⟨_, oan_31, rfl, rfl, ⟨otd_30, oan_31, hw, by rw [ht]; exact hP, hD⟩⟩, hS.F ht⟩) hS.2.2 dX2_goesOn_87
      · refine lv_aload_n hx hb dX2_goesOn_34 rfl (lv_at hl 0 rfl) ?_
        refine lv_iconst (v := 1) hx hb dX2_goesOn_35 (by decide) ?_
        have hFc := va_free (wc := cRS h q1 q2 cA cB tf ff cw 0 true qb pa) hD hS hA [0, 1, 2] rfl
        refine va_callv (va_runV (As := [.int 1]) (rest := []) ⟨hx, hb, hml, hown, hts⟩ (c_X2_tellAtFirst l D ad h q1 q2 cA cB tf ff cw 0 true qb pa 1 H.size) (cwV 1 hts gX2_goesOn_X2_tellAtFirst rfl rfl rfl kV_X2_tellAtFirst ⟨Nat.le_of_ble_eq_true rfl, Nat.le_of_ble_eq_true rfl⟩) ⟨MRB.blind, va_recv hK hP (ci := 1) (q0 := 0) rfl rfl, MRB.pre hK hP hD vP_nil ap_nil hE hS hFc⟩ rfl rfl hl.1 rfl (lv_room (Nat.le_of_ble_eq_true rfl)) dX2_goesOn_36 ⟨Nat.le_of_ble_eq_true rfl, Nat.le_of_ble_eq_true rfl⟩) hS (fun q _ h9 => hFc q h9) hFc (fun u9 t9 H locs ht hvm hw hB hz1 hk1 hS => ?_)
        obtain ⟨otd_33, oan_34, e_35, hP, hD9⟩ := hB
        rw [ht] at hP
        have hD : va_D A (cRS h q1 q2 cA cB tf ff cw otd_33 oan_34 qb pa) := hD9.weaken (fun _ _ _ h => hFc _ h)
        refine lv_iconst (v := 0) hx hb dX2_goesOn_39 (by decide) ?_
        have hw : R_goesOn cw tx fx ty fy im dv = (false, otd_33, oan_34) := by unfold R_goesOn; rw [if_pos c_1, if_pos c_5, if_neg c_9, e_35]; try dsimp only; try rfl
        exact W.zret hx hb hr rfl (fun t9 ht hW => ⟨⟨_, false, rfl, rfl, ⟨otd_33, oan_34, hw, by rw [ht]; exact hP, hD⟩⟩, hS.F ht⟩) hS.2.2 dX2_goesOn_40
def R_makeUnder (cw : Int32) (td : Int32) (ng : Bool) (ex : Int32) (nm : Int64) : Int32 × Int64 × Int32 :=
  if bI (R_masked cw 16) = 0 then (match (R_normal ng (ex + 24576) nm) with
    | (vt_8, vf_9) => (vt_8, vf_9, (td ||| 16)))
  else if bI (R_isCut nm ((-16382) - ex)) = 0 then (((R_signOf ng) ||| (bI (if (R_rounded cw ng nm ((-16382) - ex)) < 0 then true else false))), (R_rounded cw ng nm ((-16382) - ex)), td)
  else (((R_signOf ng) ||| (bI (if (R_rounded cw ng nm ((-16382) - ex)) < 0 then true else false))), (R_rounded cw ng nm ((-16382) - ex)), (td ||| 48))
theorem kS_X2_makeUnder : yX2_makeUnder.cls ≠ "java/lang/invoke/MethodHandle" ∧ yX2_makeUnder.cls ≠ "java/lang/invoke/VarHandle" ∧ (parseMethodDescriptor yX2_makeUnder.desc).map (fun d => d.parameters.length) = some 3 := by decide +kernel
theorem kV_X2_makeUnder : yX2_makeUnder.cls = RX2 ∧ yX2_makeUnder.cls ≠ "java/lang/invoke/MethodHandle" ∧ yX2_makeUnder.cls ≠ "java/lang/invoke/VarHandle" ∧ (parseMethodDescriptor yX2_makeUnder.desc).map (fun d => d.parameters.length) = some 3 := ⟨rfl, kS_X2_makeUnder⟩
set_option maxHeartbeats 4000000 in
set_option maxRecDepth 100000 in
theorem c_X2_makeUnder (l : Launch) (D : va_G) (ad : Nat → Nat) (h : Nat) (q1 : Nat) (q2 : Nat) (cA : ClassId) (cB : ClassId) (tf : Nat → Int32) (ff : Nat → Int64) (cw : Int32) (td : Int32) (an : Bool) (qb : Int32) (pa : Bool) (ng : Bool) (ex : Int32) (nm : Int64) (sz : Nat) : Met l yX2_makeUnder wsX2_makeUnder ({ frames := 5, cells := 1, slots := 2, locals := 126 } : Room) (va_Pc [.ref h, .int (bI ng), .int ex, .long nm] (MRB D ad h q1 q2 (tRS cA cB) (cRS h q1 q2 cA cB tf ff cw td an qb pa) [] sz)) (va_Qr (fun (_ : Unit) => True) (fun _ a t => ∃ (w_t : Int32) (w_f : Int64) (w_td : Int32), R_makeUnder cw td ng ex nm = (w_t, w_f, w_td) ∧ va_P D vwCl (cRS h q1 q2 cA cB tf ff cw w_td an qb pa) t.heap ∧ va_D (va_A (cRS h q1 q2 cA cB tf ff cw td an qb pa) sz) (cRS h q1 q2 cA cB tf ff cw w_td an qb pa) ∧ va_P D vwCl [cReal a w_t w_f] t.heap ∧ ap3 a h q1 q2) (va_A (cRS h q1 q2 cA cB tf ff cw td an qb pa) sz)) 1 2 (va_A (cRS h q1 q2 cA cB tf ff cw td an qb pa) sz) := by
  refine Met.ofW (cc := cX2_makeUnder) (maxL := 8) (ret := (some (.object "RealSteps$Real"))) (by decide) rfl ?_
  intro p e s m args below meth c s₁ B hml hv
  obtain ⟨rfl, hsz, hP, hK, hD0, hR0, hRp, hE⟩ := hv
  have hx := B.exec
  have hb := B.bytes
  have hr := B.returns
  have hts := atoms_spec (ws := wsX2_makeUnder) B.pre
  have hown : s.vm.findClass RX2 = some m.cls := findClass_of_methodNamed B.named
  have hlocks := B.notSynchronized
  have w_1 := hts (.classLink RX2 48 RX1) (by decide +kernel)
  have w_2 := hts (.instantiable RX1 2) (by decide +kernel)
  have w_3 := hts (.initialized RX1) (by decide +kernel)
  have in_X1 : ∀ w ∈ wsX10, w ∈ wsX2_makeUnder := by decide +kernel
  have w_5 := hts (.instanceMethod yX1_init) (by decide +kernel)
  have w_6 := hts (.fieldLink RX2 21 "RealSteps" "toldBits" "I") (by decide +kernel)
  have in_X2 : ∀ w ∈ wsX20, w ∈ wsX2_makeUnder := by decide +kernel
  subst hsz
  have hD := hD0.self (sz := s.heap.size)
  have hRA := rs_A hR0 hRp (e1 := .inr (1, [.ref q1, .ref q2, .int cw, .int td, .int (bI an), .int qb, .int (bI pa)])) (e2 := .inl (cA, 8, .inl tf)) (e3 := .inl (cB, 8, .inr (.inl ff)))
  generalize hAe : va_A (cRS h q1 q2 cA cB tf ff cw td an qb pa) s.heap.size = A at hD hE hRA ⊢
  have hA : ∀ q : Nat, s.heap.size ≤ q → A q := fun q h => by rw [← hAe]; exact Or.inr h
  have hS : va_S A s.heap s.heap [] := va_S.rf
  have hP : va_P D vwCl (cRS h q1 q2 cA cB tf ff cw td an qb pa) s.heap := hP
  have hl := lv_entry ([.ref h, .int (bI ng), .int ex, .long nm]) (n := 8) (Nat.le_of_ble_eq_true rfl)
  rw [lg_entry_eq]
  generalize (lg_sl ([.ref h, .int (bI ng), .int ex, .long nm]) ++ List.replicate (8 - (lg_sl ([.ref h, .int (bI ng), .int ex, .long nm])).length) Slot.unset).toArray = ls at hl ⊢
  have hl : lv_has ls 8 [(0, .ref h), (1, .int (bI ng)), (2, .int ex), (3, .long nm)] := hl
  refine lv_aload_n hx hb dX2_makeUnder_0 rfl (lv_at hl 0 rfl) ?_
  refine lv_bipush (v := 16) hx hb dX2_makeUnder_1 (by decide) ?_
  refine vp_callSi (va_cr (va_runV (As := [.int 16]) (rest := []) ⟨hx, hb, hml, hown, hts⟩ (c_X2_isMasked l D h q1 q2 cw td an qb pa 16) (cwV 1 hts gX2_makeUnder_X2_isMasked rfl rfl rfl kV_X2_isMasked ⟨Nat.le_of_ble_eq_true rfl, Nat.le_of_ble_eq_true rfl⟩) ⟨PB.blind, va_recv hK hP (ci := 1) (q0 := 0) rfl rfl, PB.pre (hK.sub [] rfl) (hP.sub [0] rfl)⟩ rfl rfl hl.1 rfl (lv_room (Nat.le_of_ble_eq_true rfl)) dX2_makeUnder_3 ⟨Nat.le_of_ble_eq_true rfl, Nat.le_of_ble_eq_true rfl⟩)) (fun r9 e9 => ?_)
  rw [e9]
  refine lv_if_ne (tgt := 31) hx hb dX2_makeUnder_6 (by decide) (fun c_1 => ?_) (fun c_1 => ?_)
  · refine lv_sipush (v := (-16382)) hx hb dX2_makeUnder_31 (by decide) ?_
    refine lv_iload_n hx hb dX2_makeUnder_34 rfl (lv_at hl 2 rfl) ?_
    refine lv_isub hx hb dX2_makeUnder_35 ?_
    refine lv_istore (lv' := [(5, .int ((-16382) - ex)), (0, .ref h), (1, .int (bI ng)), (2, .int ex), (3, .long nm)]) hx hb dX2_makeUnder_36 hl (by decide) rfl (fun ls hl => ?_)
    refine lv_lload_n hx hb dX2_makeUnder_38 rfl (lv_at hl 4 rfl) ?_
    refine lv_iload hx hb dX2_makeUnder_39 (lv_at hl 0 rfl) ?_
    refine vp_callSi (va_cr (va_runS (As := [.long nm, .int ((-16382) - ex)]) (rest := []) ⟨hx, hb, hml, hown, hts⟩ (c_X2_isCut l nm ((-16382) - ex)) (va_cwS 2 hts gX2_makeUnder_X2_isCut rfl rfl rfl kS_X2_isCut ⟨Nat.le_of_ble_eq_true rfl, Nat.le_of_ble_eq_true rfl⟩) ⟨TB.blind, TB.pre⟩ rfl rfl hl.1 rfl (lv_room (Nat.le_of_ble_eq_true rfl)) dX2_makeUnder_41 ⟨Nat.le_of_ble_eq_true rfl, Nat.le_of_ble_eq_true rfl⟩)) (fun r9 e9 => ?_)
    rw [e9]
    refine lv_if_eq (tgt := 58) hx hb dX2_makeUnder_44 (by decide) (fun c_2 => ?_) (fun c_2 => ?_)
    · refine lv_aload_n hx hb dX2_makeUnder_58 rfl (lv_at hl 1 rfl) ?_
      refine lv_iload_n hx hb dX2_makeUnder_59 rfl (lv_at hl 2 rfl) ?_
      refine lv_lload_n hx hb dX2_makeUnder_60 rfl (lv_at hl 4 rfl) ?_
      refine lv_iload hx hb dX2_makeUnder_61 (lv_at hl 0 rfl) ?_
      refine vp_callSl (va_cr (va_runV (As := [.int (bI ng), .long nm, .int ((-16382) - ex)]) (rest := []) ⟨hx, hb, hml, hown, hts⟩ (c_X2_rounded l D h q1 q2 cw td an qb pa ng nm ((-16382) - ex)) (cwV 3 hts gX2_makeUnder_X2_rounded rfl rfl rfl kV_X2_rounded ⟨Nat.le_of_ble_eq_true rfl, Nat.le_of_ble_eq_true rfl⟩) ⟨PB.blind, va_recv hK hP (ci := 1) (q0 := 0) rfl rfl, PB.pre (hK.sub [] rfl) (hP.sub [0] rfl)⟩ rfl rfl hl.1 rfl (lv_room (Nat.le_of_ble_eq_true rfl)) dX2_makeUnder_63 ⟨Nat.le_of_ble_eq_true rfl, Nat.le_of_ble_eq_true rfl⟩)) (fun r9 e9 => ?_)
      rw [e9]
      refine lv_lstore (lv' := [(6, .long (R_rounded cw ng nm ((-16382) - ex))), (5, .int ((-16382) - ex)), (0, .ref h), (1, .int (bI ng)), (2, .int ex), (3, .long nm)]) hx hb dX2_makeUnder_66 hl (by decide) rfl (fun ls hl => ?_)
      refine va_new (ci := 0) (fs := [.int 0, .long 0]) (C := RX1) (T := TX1) (N := 2) hx hb hts in_X1 tyX1 tyX1_ok hown w_1 w_2 w_3 hK hP hD hS hA rfl (fun j hj => by rcases (show j = 0 ∨ j = 1 by omega) with rfl | rfl <;> rfl) (Nat.le_of_ble_eq_true rfl) (Nat.le_of_ble_eq_true rfl) dX2_makeUnder_68 (fun q_3 H hP4 hD4 hS => ?_)
      have hP : va_P D vwCl (cRS h q1 q2 cA cB tf ff cw td an qb pa) H := hP4.sub [0, 1, 2] rfl
      have hD : va_D A (cRS h q1 q2 cA cB tf ff cw td an qb pa) := hD4.sub [0, 1, 2] (by decide) rfl
      have nx_q_3 : ap3 q_3 h q1 q2 := ap_D hD4
      have hx_q_3 : va_P D vwCl [cReal q_3 0 0] H := hP4.sub [3] rfl
      have hd_q_3 : va_D A [cReal q_3 0 0] := hD4.sub [3] (by decide) rfl
      refine lv_dup hx hb dX2_makeUnder_71 rfl ?_
      refine lv_iload_n hx hb dX2_makeUnder_72 rfl (lv_at hl 3 rfl) ?_
      refine vp_callSi (va_cr (va_runS (As := [.int (bI ng)]) (rest := [.ref q_3, .ref q_3]) ⟨hx, hb, hml, hown, hts⟩ (c_X2_signOf l ng) (va_cwS 1 hts gX2_makeUnder_X2_signOf rfl rfl rfl kS_X2_signOf ⟨Nat.le_of_ble_eq_true rfl, Nat.le_of_ble_eq_true rfl⟩) ⟨TB.blind, TB.pre⟩ rfl rfl hl.1 rfl (lv_room (Nat.le_of_ble_eq_true rfl)) dX2_makeUnder_73 ⟨Nat.le_of_ble_eq_true rfl, Nat.le_of_ble_eq_true rfl⟩)) (fun r9 e9 => ?_)
      rw [e9]
      refine lv_lload hx hb dX2_makeUnder_76 (lv_at hl 0 rfl) ?_
      refine lv_lconst (v := 0) hx hb dX2_makeUnder_78 (by decide) ?_
      refine q_cut (v := bI (if (R_rounded cw ng nm ((-16382) - ex)) < 0 then true else false)) (pcJ := 88) (rest := [.int (R_signOf ng), .ref q_3, .ref q_3]) (fun J => ?_) ?_
      · refine q_cl_ge (tgt := 87) hx hb dX2_makeUnder_79 dX2_makeUnder_80 (by decide) (fun c_4 => ?_) (fun c_4 => ?_)
        · refine lv_iconst (v := 0) hx hb dX2_makeUnder_87 (by decide) ?_
          exact J _ (by rw [if_neg c_4]; try rfl)
        · refine lv_iconst (v := 1) hx hb dX2_makeUnder_83 (by decide) ?_
          refine lv_goto (tgt := 88) hx hb dX2_makeUnder_84 (by decide) ?_
          exact J _ (by rw [if_pos c_4]; try rfl)
      refine lv_ior hx hb dX2_makeUnder_88 ?_
      refine lv_lload hx hb dX2_makeUnder_89 (lv_at hl 0 rfl) ?_
      have hFc := va_free (wc := [cReal q_3 0 0]) hd_q_3 hS hA [0] rfl
      refine va_callv (va_runIN (As := [.int ((R_signOf ng) ||| (bI (if (R_rounded cw ng nm ((-16382) - ex)) < 0 then true else false))), .long (R_rounded cw ng nm ((-16382) - ex))]) (rest := [.ref q_3]) ⟨hx, hb, hml, hown, hts⟩ (c_X1_init l D q_3 ((R_signOf ng) ||| (bI (if (R_rounded cw ng nm ((-16382) - ex)) < 0 then true else false))) (R_rounded cw ng nm ((-16382) - ex)) H.size) ⟨va_cnB 2 hts gX2_makeUnder_X1_init_n52 rfl rfl rfl (hE.2.1 _ (List.mem_of_getElem? (i := 7) rfl)) w_3 kS_X1_init ⟨Nat.le_of_ble_eq_true rfl, Nat.le_of_ble_eq_true rfl⟩, rfl, w_5⟩ ⟨INB.blind, INB.pre (hK.sub [] rfl) hx_q_3 hd_q_3⟩ rfl rfl hl.1 rfl (lv_room (Nat.le_of_ble_eq_true rfl)) dX2_makeUnder_91 ⟨Nat.le_of_ble_eq_true rfl, Nat.le_of_ble_eq_true rfl⟩) hS (fun q _ h9 => hFc q h9) hFc (fun u9 t9 H locs ht hvm hw hB hz1 hk1 hS => ?_)
      have hx_q_3 : va_P D vwCl [cReal q_3 ((R_signOf ng) ||| (bI (if (R_rounded cw ng nm ((-16382) - ex)) < 0 then true else false))) (R_rounded cw ng nm ((-16382) - ex))] H := by rw [← ht]; exact hB
      have hP : va_P D vwCl (cRS h q1 q2 cA cB tf ff cw td an qb pa) H := ro_init hP nx_q_3 hk1
      have hw : R_makeUnder cw td ng ex nm = (((R_signOf ng) ||| (bI (if (R_rounded cw ng nm ((-16382) - ex)) < 0 then true else false))), (R_rounded cw ng nm ((-16382) - ex)), td) := by unfold R_makeUnder; rw [if_neg c_1, if_pos c_2]; try rfl
      exact W.aret hx hb hr (Or.inl ⟨_, rfl⟩) (Or.inr ⟨_, rfl⟩) (fun t9 ht hW => ⟨⟨(), q_3, rfl, trivial, ⟨((R_signOf ng) ||| (bI (if (R_rounded cw ng nm ((-16382) - ex)) < 0 then true else false))), (R_rounded cw ng nm ((-16382) - ex)), td, hw, by rw [ht]; exact hP, hD, by rw [ht]; exact hx_q_3, nx_q_3⟩⟩, hS.F ht⟩) hS.2.2 dX2_makeUnder_94
    · refine lv_aload_n hx hb dX2_makeUnder_47 rfl (lv_at hl 1 rfl) ?_
      refine lv_dup hx hb dX2_makeUnder_48 rfl ?_
      refine va_get (v := .int td) (C := RX2) (T := TX2) (N := 7) hx hb hts in_X2 hown hK hP 0 rfl rfl 3 (by decide) w_6 (fun _ h9 => h9) rfl dX2_makeUnder_49 ?_
      refine lv_bipush (v := 48) hx hb dX2_makeUnder_52 (by decide) ?_
      refine lv_ior hx hb dX2_makeUnder_54 ?_
      refine va_put (v := .int (td ||| 48)) (ty := .int) (C := RX2) (T := TX2) (N := 7) hx hb hts in_X2 tyX2 tyX2_ok nmX2 hown hK hP hD hS 0 rfl rfl 3 (by decide) w_6 (fun _ h9 => h9) rfl (tyX2_ok 3 (by decide)) rfl rfl (Nat.le_of_ble_eq_true rfl) dX2_makeUnder_55 (fun H locs hP hD hS => ?_)
      have hP : va_P D vwCl (cRS h q1 q2 cA cB tf ff cw (td ||| 48) an qb pa) H := hP
      have hD : va_D A (cRS h q1 q2 cA cB tf ff cw (td ||| 48) an qb pa) := hD
      refine lv_aload_n hx hb dX2_makeUnder_58 rfl (lv_at hl 1 rfl) ?_
      refine lv_iload_n hx hb dX2_makeUnder_59 rfl (lv_at hl 2 rfl) ?_
      refine lv_lload_n hx hb dX2_makeUnder_60 rfl (lv_at hl 4 rfl) ?_
      refine lv_iload hx hb dX2_makeUnder_61 (lv_at hl 0 rfl) ?_
      refine vp_callSl (va_cr (va_runV (As := [.int (bI ng), .long nm, .int ((-16382) - ex)]) (rest := []) ⟨hx, hb, hml, hown, hts⟩ (c_X2_rounded l D h q1 q2 cw (td ||| 48) an qb pa ng nm ((-16382) - ex)) (cwV 3 hts gX2_makeUnder_X2_rounded rfl rfl rfl kV_X2_rounded ⟨Nat.le_of_ble_eq_true rfl, Nat.le_of_ble_eq_true rfl⟩) ⟨PB.blind, va_recv hK hP (ci := 1) (q0 := 0) rfl rfl, PB.pre (hK.sub [] rfl) (hP.sub [0] rfl)⟩ rfl rfl hl.1 rfl (lv_room (Nat.le_of_ble_eq_true rfl)) dX2_makeUnder_63 ⟨Nat.le_of_ble_eq_true rfl, Nat.le_of_ble_eq_true rfl⟩)) (fun r9 e9 => ?_)
      rw [e9]
      refine lv_lstore (lv' := [(6, .long (R_rounded cw ng nm ((-16382) - ex))), (5, .int ((-16382) - ex)), (0, .ref h), (1, .int (bI ng)), (2, .int ex), (3, .long nm)]) hx hb dX2_makeUnder_66 hl (by decide) rfl (fun ls hl => ?_)
      refine va_new (ci := 0) (fs := [.int 0, .long 0]) (C := RX1) (T := TX1) (N := 2) hx hb hts in_X1 tyX1 tyX1_ok hown w_1 w_2 w_3 hK hP hD hS hA rfl (fun j hj => by rcases (show j = 0 ∨ j = 1 by omega) with rfl | rfl <;> rfl) (Nat.le_of_ble_eq_true rfl) (Nat.le_of_ble_eq_true rfl) dX2_makeUnder_68 (fun q_5 H hP4 hD4 hS => ?_)
      have hP : va_P D vwCl (cRS h q1 q2 cA cB tf ff cw (td ||| 48) an qb pa) H := hP4.sub [0, 1, 2] rfl
      have hD : va_D A (cRS h q1 q2 cA cB tf ff cw (td ||| 48) an qb pa) := hD4.sub [0, 1, 2] (by decide) rfl
      have nx_q_5 : ap3 q_5 h q1 q2 := ap_D hD4
      have hx_q_5 : va_P D vwCl [cReal q_5 0 0] H := hP4.sub [3] rfl
      have hd_q_5 : va_D A [cReal q_5 0 0] := hD4.sub [3] (by decide) rfl
      refine lv_dup hx hb dX2_makeUnder_71 rfl ?_
      refine lv_iload_n hx hb dX2_makeUnder_72 rfl (lv_at hl 3 rfl) ?_
      refine vp_callSi (va_cr (va_runS (As := [.int (bI ng)]) (rest := [.ref q_5, .ref q_5]) ⟨hx, hb, hml, hown, hts⟩ (c_X2_signOf l ng) (va_cwS 1 hts gX2_makeUnder_X2_signOf rfl rfl rfl kS_X2_signOf ⟨Nat.le_of_ble_eq_true rfl, Nat.le_of_ble_eq_true rfl⟩) ⟨TB.blind, TB.pre⟩ rfl rfl hl.1 rfl (lv_room (Nat.le_of_ble_eq_true rfl)) dX2_makeUnder_73 ⟨Nat.le_of_ble_eq_true rfl, Nat.le_of_ble_eq_true rfl⟩)) (fun r9 e9 => ?_)
      rw [e9]
      refine lv_lload hx hb dX2_makeUnder_76 (lv_at hl 0 rfl) ?_
      refine lv_lconst (v := 0) hx hb dX2_makeUnder_78 (by decide) ?_
      refine q_cut (v := bI (if (R_rounded cw ng nm ((-16382) - ex)) < 0 then true else false)) (pcJ := 88) (rest := [.int (R_signOf ng), .ref q_5, .ref q_5]) (fun J => ?_) ?_
      · refine q_cl_ge (tgt := 87) hx hb dX2_makeUnder_79 dX2_makeUnder_80 (by decide) (fun c_6 => ?_) (fun c_6 => ?_)
        · refine lv_iconst (v := 0) hx hb dX2_makeUnder_87 (by decide) ?_
          exact J _ (by rw [if_neg c_6]; try rfl)
        · refine lv_iconst (v := 1) hx hb dX2_makeUnder_83 (by decide) ?_
          refine lv_goto (tgt := 88) hx hb dX2_makeUnder_84 (by decide) ?_
          exact J _ (by rw [if_pos c_6]; try rfl)
      refine lv_ior hx hb dX2_makeUnder_88 ?_
      refine lv_lload hx hb dX2_makeUnder_89 (lv_at hl 0 rfl) ?_
      have hFc := va_free (wc := [cReal q_5 0 0]) hd_q_5 hS hA [0] rfl
      refine va_callv (va_runIN (As := [.int ((R_signOf ng) ||| (bI (if (R_rounded cw ng nm ((-16382) - ex)) < 0 then true else false))), .long (R_rounded cw ng nm ((-16382) - ex))]) (rest := [.ref q_5]) ⟨hx, hb, hml, hown, hts⟩ (c_X1_init l D q_5 ((R_signOf ng) ||| (bI (if (R_rounded cw ng nm ((-16382) - ex)) < 0 then true else false))) (R_rounded cw ng nm ((-16382) - ex)) H.size) ⟨va_cnB 2 hts gX2_makeUnder_X1_init_n52 rfl rfl rfl (hE.2.1 _ (List.mem_of_getElem? (i := 7) rfl)) w_3 kS_X1_init ⟨Nat.le_of_ble_eq_true rfl, Nat.le_of_ble_eq_true rfl⟩, rfl, w_5⟩ ⟨INB.blind, INB.pre (hK.sub [] rfl) hx_q_5 hd_q_5⟩ rfl rfl hl.1 rfl (lv_room (Nat.le_of_ble_eq_true rfl)) dX2_makeUnder_91 ⟨Nat.le_of_ble_eq_true rfl, Nat.le_of_ble_eq_true rfl⟩) hS (fun q _ h9 => hFc q h9) hFc (fun u9 t9 H locs ht hvm hw hB hz1 hk1 hS => ?_)
      have hx_q_5 : va_P D vwCl [cReal q_5 ((R_signOf ng) ||| (bI (if (R_rounded cw ng nm ((-16382) - ex)) < 0 then true else false))) (R_rounded cw ng nm ((-16382) - ex))] H := by rw [← ht]; exact hB
      have hP : va_P D vwCl (cRS h q1 q2 cA cB tf ff cw (td ||| 48) an qb pa) H := ro_init hP nx_q_5 hk1
      have hw : R_makeUnder cw td ng ex nm = (((R_signOf ng) ||| (bI (if (R_rounded cw ng nm ((-16382) - ex)) < 0 then true else false))), (R_rounded cw ng nm ((-16382) - ex)), (td ||| 48)) := by unfold R_makeUnder; rw [if_neg c_1, if_neg c_2]; try rfl
      exact W.aret hx hb hr (Or.inl ⟨_, rfl⟩) (Or.inr ⟨_, rfl⟩) (fun t9 ht hW => ⟨⟨(), q_5, rfl, trivial, ⟨((R_signOf ng) ||| (bI (if (R_rounded cw ng nm ((-16382) - ex)) < 0 then true else false))), (R_rounded cw ng nm ((-16382) - ex)), (td ||| 48), hw, by rw [ht]; exact hP, hD, by rw [ht]; exact hx_q_5, nx_q_5⟩⟩, hS.F ht⟩) hS.2.2 dX2_makeUnder_94
  · refine lv_aload_n hx hb dX2_makeUnder_9 rfl (lv_at hl 0 rfl) ?_
    refine lv_dup hx hb dX2_makeUnder_10 rfl ?_
    refine va_get (v := .int td) (C := RX2) (T := TX2) (N := 7) hx hb hts in_X2 hown hK hP 0 rfl rfl 3 (by decide) w_6 (fun _ h9 => h9) rfl dX2_makeUnder_11 ?_
    refine lv_bipush (v := 16) hx hb dX2_makeUnder_14 (by decide) ?_
    refine lv_ior hx hb dX2_makeUnder_16 ?_
    refine va_put (v := .int (td ||| 16)) (ty := .int) (C := RX2) (T := TX2) (N := 7) hx hb hts in_X2 tyX2 tyX2_ok nmX2 hown hK hP hD hS 0 rfl rfl 3 (by decide) w_6 (fun _ h9 => h9) rfl (tyX2_ok 3 (by decide)) rfl rfl (Nat.le_of_ble_eq_true rfl) dX2_makeUnder_17 (fun H locs hP hD hS => ?_)
    have hP : va_P D vwCl (cRS h q1 q2 cA cB tf ff cw (td ||| 16) an qb pa) H := hP
    have hD : va_D A (cRS h q1 q2 cA cB tf ff cw (td ||| 16) an qb pa) := hD
    refine lv_iload_n hx hb dX2_makeUnder_20 rfl (lv_at hl 1 rfl) ?_
    refine lv_iload_n hx hb dX2_makeUnder_21 rfl (lv_at hl 2 rfl) ?_
    refine lv_sipush (v := 24576) hx hb dX2_makeUnder_22 (by decide) ?_
    refine lv_iadd hx hb dX2_makeUnder_25 ?_
    refine lv_lload_n hx hb dX2_makeUnder_26 rfl (lv_at hl 3 rfl) ?_
    have hFc : ∀ q, va_A [] H.size q → A q := va_free (wc := []) hD hS hA [] rfl
    refine va_callr (va_runS (As := [.int (bI ng), .int (ex + 24576), .long nm]) (rest := []) ⟨hx, hb, hml, hown, hts⟩ (c_X2_normal l D ad ng (ex + 24576) nm H.size) (va_cwS 3 hts gX2_makeUnder_X2_normal rfl rfl rfl kS_X2_normal ⟨Nat.le_of_ble_eq_true rfl, Nat.le_of_ble_eq_true rfl⟩) ⟨SCB.blind, SCB.pre hK vP_nil hE hS hFc⟩ rfl rfl hl.1 rfl (lv_room (Nat.le_of_ble_eq_true rfl)) dX2_makeUnder_27 ⟨Nat.le_of_ble_eq_true rfl, Nat.le_of_ble_eq_true rfl⟩) hS (fun q _ h9 => hFc q h9) hFc (fun u9 y_7 t9 H locs ht hvm hw hB hz1 hk1 hS => ?_)
    obtain ⟨vt_8, vf_9, e_10, hx_y_7, nz_y_7⟩ := hB
    rw [ht] at hx_y_7
    have nx_y_7 : ap3 y_7 h q1 q2 := ap_new hP nz_y_7
    have hP : va_P D vwCl (cRS h q1 q2 cA cB tf ff cw (td ||| 16) an qb pa) H := ro_make hP hk1
    have hw : R_makeUnder cw td ng ex nm = (vt_8, vf_9, (td ||| 16)) := by unfold R_makeUnder; rw [if_pos c_1, e_10]; try dsimp only; try rfl
    exact W.aret hx hb hr (Or.inl ⟨_, rfl⟩) (Or.inr ⟨_, rfl⟩) (fun t9 ht hW => ⟨⟨(), y_7, rfl, trivial, ⟨vt_8, vf_9, (td ||| 16), hw, by rw [ht]; exact hP, hD, by rw [ht]; exact hx_y_7, nx_y_7⟩⟩, hS.F ht⟩) hS.2.2 dX2_makeUnder_30
def R_makeOver (cw : Int32) (td : Int32) (ng : Bool) (ex : Int32) (nm : Int64) : Int32 × Int64 × Int32 :=
  if bI (R_masked cw 8) = 0 then (match (R_normal ng (ex - 24576) nm) with
    | (vt_18, vf_19) => (vt_18, vf_19, (td ||| 8)))
  else if (R_rounding cw) = 3 then (match (R_normal ng 16383 (-1)) with
    | (vt_4, vf_5) => (vt_4, vf_5, ((td ||| 8) ||| 32)))
  else if (R_rounding cw) = (if bI ng = 0 then 1 else 2) then (match (R_normal ng 16383 (-1)) with
    | (vt_14, vf_15) => (vt_14, vf_15, ((td ||| 8) ||| 32)))
  else (match (R_infinite ng) with
    | (vt_10, vf_11) => (vt_10, vf_11, ((td ||| 8) ||| 32)))
theorem kS_X2_makeOver : yX2_makeOver.cls ≠ "java/lang/invoke/MethodHandle" ∧ yX2_makeOver.cls ≠ "java/lang/invoke/VarHandle" ∧ (parseMethodDescriptor yX2_makeOver.desc).map (fun d => d.parameters.length) = some 3 := by decide +kernel
theorem kV_X2_makeOver : yX2_makeOver.cls = RX2 ∧ yX2_makeOver.cls ≠ "java/lang/invoke/MethodHandle" ∧ yX2_makeOver.cls ≠ "java/lang/invoke/VarHandle" ∧ (parseMethodDescriptor yX2_makeOver.desc).map (fun d => d.parameters.length) = some 3 := ⟨rfl, kS_X2_makeOver⟩
set_option maxHeartbeats 4000000 in
set_option maxRecDepth 100000 in
theorem c_X2_makeOver (l : Launch) (D : va_G) (ad : Nat → Nat) (h : Nat) (q1 : Nat) (q2 : Nat) (cA : ClassId) (cB : ClassId) (tf : Nat → Int32) (ff : Nat → Int64) (cw : Int32) (td : Int32) (an : Bool) (qb : Int32) (pa : Bool) (ng : Bool) (ex : Int32) (nm : Int64) (sz : Nat) : Met l yX2_makeOver wsX2_makeOver ({ frames := 3, cells := 1, slots := 2, locals := 58 } : Room) (va_Pc [.ref h, .int (bI ng), .int ex, .long nm] (MRB D ad h q1 q2 (tRS cA cB) (cRS h q1 q2 cA cB tf ff cw td an qb pa) [] sz)) (va_Qr (fun (_ : Unit) => True) (fun _ a t => ∃ (w_t : Int32) (w_f : Int64) (w_td : Int32), R_makeOver cw td ng ex nm = (w_t, w_f, w_td) ∧ va_P D vwCl (cRS h q1 q2 cA cB tf ff cw w_td an qb pa) t.heap ∧ va_D (va_A (cRS h q1 q2 cA cB tf ff cw td an qb pa) sz) (cRS h q1 q2 cA cB tf ff cw w_td an qb pa) ∧ va_P D vwCl [cReal a w_t w_f] t.heap ∧ ap3 a h q1 q2) (va_A (cRS h q1 q2 cA cB tf ff cw td an qb pa) sz)) 1 2 (va_A (cRS h q1 q2 cA cB tf ff cw td an qb pa) sz) := by
  refine Met.ofW (cc := cX2_makeOver) (maxL := 6) (ret := (some (.object "RealSteps$Real"))) (by decide) rfl ?_
  intro p e s m args below meth c s₁ B hml hv
  obtain ⟨rfl, hsz, hP, hK, hD0, hR0, hRp, hE⟩ := hv
  have hx := B.exec
  have hb := B.bytes
  have hr := B.returns
  have hts := atoms_spec (ws := wsX2_makeOver) B.pre
  have hown : s.vm.findClass RX2 = some m.cls := findClass_of_methodNamed B.named
  have hlocks := B.notSynchronized
  have w_1 := hts (.fieldLink RX2 21 "RealSteps" "toldBits" "I") (by decide +kernel)
  have in_X2 : ∀ w ∈ wsX20, w ∈ wsX2_makeOver := by decide +kernel
  have w_3 := hts (.constantLong RX2 210 (-1)) (by decide +kernel)
  subst hsz
  have hD := hD0.self (sz := s.heap.size)
  have hRA := rs_A hR0 hRp (e1 := .inr (1, [.ref q1, .ref q2, .int cw, .int td, .int (bI an), .int qb, .int (bI pa)])) (e2 := .inl (cA, 8, .inl tf)) (e3 := .inl (cB, 8, .inr (.inl ff)))
  generalize hAe : va_A (cRS h q1 q2 cA cB tf ff cw td an qb pa) s.heap.size = A at hD hE hRA ⊢
  have hA : ∀ q : Nat, s.heap.size ≤ q → A q := fun q h => by rw [← hAe]; exact Or.inr h
  have hS : va_S A s.heap s.heap [] := va_S.rf
  have hP : va_P D vwCl (cRS h q1 q2 cA cB tf ff cw td an qb pa) s.heap := hP
  have hl := lv_entry ([.ref h, .int (bI ng), .int ex, .long nm]) (n := 6) (Nat.le_of_ble_eq_true rfl)
  rw [lg_entry_eq]
  generalize (lg_sl ([.ref h, .int (bI ng), .int ex, .long nm]) ++ List.replicate (6 - (lg_sl ([.ref h, .int (bI ng), .int ex, .long nm])).length) Slot.unset).toArray = ls at hl ⊢
  have hl : lv_has ls 6 [(0, .ref h), (1, .int (bI ng)), (2, .int ex), (3, .long nm)] := hl
  refine lv_aload_n hx hb dX2_makeOver_0 rfl (lv_at hl 0 rfl) ?_
  refine lv_dup hx hb dX2_makeOver_1 rfl ?_
  refine va_get (v := .int td) (C := RX2) (T := TX2) (N := 7) hx hb hts in_X2 hown hK hP 0 rfl rfl 3 (by decide) w_1 (fun _ h9 => h9) rfl dX2_makeOver_2 ?_
  refine lv_bipush (v := 8) hx hb dX2_makeOver_5 (by decide) ?_
  refine lv_ior hx hb dX2_makeOver_7 ?_
  refine va_put (v := .int (td ||| 8)) (ty := .int) (C := RX2) (T := TX2) (N := 7) hx hb hts in_X2 tyX2 tyX2_ok nmX2 hown hK hP hD hS 0 rfl rfl 3 (by decide) w_1 (fun _ h9 => h9) rfl (tyX2_ok 3 (by decide)) rfl rfl (Nat.le_of_ble_eq_true rfl) dX2_makeOver_8 (fun H locs hP hD hS => ?_)
  have hP : va_P D vwCl (cRS h q1 q2 cA cB tf ff cw (td ||| 8) an qb pa) H := hP
  have hD : va_D A (cRS h q1 q2 cA cB tf ff cw (td ||| 8) an qb pa) := hD
  refine lv_aload_n hx hb dX2_makeOver_11 rfl (lv_at hl 0 rfl) ?_
  refine lv_bipush (v := 8) hx hb dX2_makeOver_12 (by decide) ?_
  refine vp_callSi (va_cr (va_runV (As := [.int 8]) (rest := []) ⟨hx, hb, hml, hown, hts⟩ (c_X2_isMasked l D h q1 q2 cw (td ||| 8) an qb pa 8) (cwV 1 hts gX2_makeOver_X2_isMasked rfl rfl rfl kV_X2_isMasked ⟨Nat.le_of_ble_eq_true rfl, Nat.le_of_ble_eq_true rfl⟩) ⟨PB.blind, va_recv hK hP (ci := 1) (q0 := 0) rfl rfl, PB.pre (hK.sub [] rfl) (hP.sub [0] rfl)⟩ rfl rfl hl.1 rfl (lv_room (Nat.le_of_ble_eq_true rfl)) dX2_makeOver_14 ⟨Nat.le_of_ble_eq_true rfl, Nat.le_of_ble_eq_true rfl⟩)) (fun r9 e9 => ?_)
  rw [e9]
  refine lv_if_ne (tgt := 31) hx hb dX2_makeOver_17 (by decide) (fun c_1 => ?_) (fun c_1 => ?_)
  · refine lv_aload_n hx hb dX2_makeOver_31 rfl (lv_at hl 0 rfl) ?_
    refine lv_dup hx hb dX2_makeOver_32 rfl ?_
    refine va_get (v := .int (td ||| 8)) (C := RX2) (T := TX2) (N := 7) hx hb hts in_X2 hown hK hP 0 rfl rfl 3 (by decide) w_1 (fun _ h9 => h9) rfl dX2_makeOver_33 ?_
    refine lv_bipush (v := 32) hx hb dX2_makeOver_36 (by decide) ?_
    refine lv_ior hx hb dX2_makeOver_38 ?_
    refine va_put (v := .int ((td ||| 8) ||| 32)) (ty := .int) (C := RX2) (T := TX2) (N := 7) hx hb hts in_X2 tyX2 tyX2_ok nmX2 hown hK hP hD hS 0 rfl rfl 3 (by decide) w_1 (fun _ h9 => h9) rfl (tyX2_ok 3 (by decide)) rfl rfl (Nat.le_of_ble_eq_true rfl) dX2_makeOver_39 (fun H locs hP hD hS => ?_)
    have hP : va_P D vwCl (cRS h q1 q2 cA cB tf ff cw ((td ||| 8) ||| 32) an qb pa) H := hP
    have hD : va_D A (cRS h q1 q2 cA cB tf ff cw ((td ||| 8) ||| 32) an qb pa) := hD
    refine lv_aload_n hx hb dX2_makeOver_42 rfl (lv_at hl 0 rfl) ?_
    refine vp_callSi (va_cr (va_runV (As := []) (rest := []) ⟨hx, hb, hml, hown, hts⟩ (c_X2_rounding l D h q1 q2 cw ((td ||| 8) ||| 32) an qb pa) (cwV 0 hts gX2_makeOver_X2_rounding rfl rfl rfl kV_X2_rounding ⟨Nat.le_of_ble_eq_true rfl, Nat.le_of_ble_eq_true rfl⟩) ⟨PB.blind, va_recv hK hP (ci := 1) (q0 := 0) rfl rfl, PB.pre (hK.sub [] rfl) (hP.sub [0] rfl)⟩ rfl rfl hl.1 rfl (lv_room (Nat.le_of_ble_eq_true rfl)) dX2_makeOver_43 ⟨Nat.le_of_ble_eq_true rfl, Nat.le_of_ble_eq_true rfl⟩)) (fun r9 e9 => ?_)
    rw [e9]
    refine lv_istore (lv' := [(5, .int (R_rounding cw)), (0, .ref h), (1, .int (bI ng)), (2, .int ex), (3, .long nm)]) hx hb dX2_makeOver_46 hl (by decide) rfl (fun ls hl => ?_)
    refine lv_iload hx hb dX2_makeOver_48 (lv_at hl 0 rfl) ?_
    refine lv_iconst (v := 3) hx hb dX2_makeOver_50 (by decide) ?_
    refine lv_icmp_eq (tgt := 68) hx hb dX2_makeOver_51 (by decide) (fun c_2 => ?_) (fun c_2 => ?_)
    · refine lv_iload_n hx hb dX2_makeOver_68 rfl (lv_at hl 2 rfl) ?_
      refine lv_sipush (v := 16383) hx hb dX2_makeOver_69 (by decide) ?_
      refine lv_ldc2 (v := (-1)) hx hb hown w_3 dX2_makeOver_72 ?_
      have hFc : ∀ q, va_A [] H.size q → A q := va_free (wc := []) hD hS hA [] rfl
      refine va_callr (va_runS (As := [.int (bI ng), .int 16383, .long (-1)]) (rest := []) ⟨hx, hb, hml, hown, hts⟩ (c_X2_normal l D ad ng 16383 (-1) H.size) (va_cwS 3 hts gX2_makeOver_X2_normal rfl rfl rfl kS_X2_normal ⟨Nat.le_of_ble_eq_true rfl, Nat.le_of_ble_eq_true rfl⟩) ⟨SCB.blind, SCB.pre hK vP_nil hE hS hFc⟩ rfl rfl hl.1 rfl (lv_room (Nat.le_of_ble_eq_true rfl)) dX2_makeOver_75 ⟨Nat.le_of_ble_eq_true rfl, Nat.le_of_ble_eq_true rfl⟩) hS (fun q _ h9 => hFc q h9) hFc (fun u9 y_3 t9 H locs ht hvm hw hB hz1 hk1 hS => ?_)
      obtain ⟨vt_4, vf_5, e_6, hx_y_3, nz_y_3⟩ := hB
      rw [ht] at hx_y_3
      have nx_y_3 : ap3 y_3 h q1 q2 := ap_new hP nz_y_3
      have hP : va_P D vwCl (cRS h q1 q2 cA cB tf ff cw ((td ||| 8) ||| 32) an qb pa) H := ro_make hP hk1
      have hw : R_makeOver cw td ng ex nm = (vt_4, vf_5, ((td ||| 8) ||| 32)) := by unfold R_makeOver; rw [if_neg c_1, if_pos c_2, e_6]; try dsimp only; try rfl
      exact W.aret hx hb hr (Or.inl ⟨_, rfl⟩) (Or.inr ⟨_, rfl⟩) (fun t9 ht hW => ⟨⟨(), y_3, rfl, trivial, ⟨vt_4, vf_5, ((td ||| 8) ||| 32), hw, by rw [ht]; exact hP, hD, by rw [ht]; exact hx_y_3, nx_y_3⟩⟩, hS.F ht⟩) hS.2.2 dX2_makeOver_78
    · refine lv_iload hx hb dX2_makeOver_54 (lv_at hl 0 rfl) ?_
      refine lv_iload_n hx hb dX2_makeOver_56 rfl (lv_at hl 2 rfl) ?_
      refine q_cut (v := (if bI ng = 0 then 1 else 2)) (pcJ := 65) (rest := [.int (R_rounding cw)]) (fun J => ?_) ?_
      · refine lv_if_eq (tgt := 64) hx hb dX2_makeOver_57 (by decide) (fun c_7 => ?_) (fun c_7 => ?_)
        · refine lv_iconst (v := 1) hx hb dX2_makeOver_64 (by decide) ?_
          exact J _ (by rw [if_pos c_7]; try rfl)
        · refine lv_iconst (v := 2) hx hb dX2_makeOver_60 (by decide) ?_
          refine lv_goto (tgt := 65) hx hb dX2_makeOver_61 (by decide) ?_
          exact J _ (by rw [if_neg c_7]; try rfl)
      refine lv_icmp_ne (tgt := 79) hx hb dX2_makeOver_65 (by decide) (fun c_8 => ?_) (fun c_8 => ?_)
      · refine lv_iload_n hx hb dX2_makeOver_79 rfl (lv_at hl 2 rfl) ?_
        have hFc : ∀ q, va_A [] H.size q → A q := va_free (wc := []) hD hS hA [] rfl
        refine va_callr (va_runS (As := [.int (bI ng)]) (rest := []) ⟨hx, hb, hml, hown, hts⟩ (c_X2_infinite l D ad ng H.size) (va_cwS 1 hts gX2_makeOver_X2_infinite rfl rfl rfl kS_X2_infinite ⟨Nat.le_of_ble_eq_true rfl, Nat.le_of_ble_eq_true rfl⟩) ⟨SCB.blind, SCB.pre hK vP_nil hE hS hFc⟩ rfl rfl hl.1 rfl (lv_room (Nat.le_of_ble_eq_true rfl)) dX2_makeOver_80 ⟨Nat.le_of_ble_eq_true rfl, Nat.le_of_ble_eq_true rfl⟩) hS (fun q _ h9 => hFc q h9) hFc (fun u9 y_9 t9 H locs ht hvm hw hB hz1 hk1 hS => ?_)
        obtain ⟨vt_10, vf_11, e_12, hx_y_9, nz_y_9⟩ := hB
        rw [ht] at hx_y_9
        have nx_y_9 : ap3 y_9 h q1 q2 := ap_new hP nz_y_9
        have hP : va_P D vwCl (cRS h q1 q2 cA cB tf ff cw ((td ||| 8) ||| 32) an qb pa) H := ro_make hP hk1
        have hw : R_makeOver cw td ng ex nm = (vt_10, vf_11, ((td ||| 8) ||| 32)) := by unfold R_makeOver; rw [if_neg c_1, if_neg c_2, if_neg c_8, e_12]; try dsimp only; try rfl
        exact W.aret hx hb hr (Or.inl ⟨_, rfl⟩) (Or.inr ⟨_, rfl⟩) (fun t9 ht hW => ⟨⟨(), y_9, rfl, trivial, ⟨vt_10, vf_11, ((td ||| 8) ||| 32), hw, by rw [ht]; exact hP, hD, by rw [ht]; exact hx_y_9, nx_y_9⟩⟩, hS.F ht⟩) hS.2.2 dX2_makeOver_83
      · refine lv_iload_n hx hb dX2_makeOver_68 rfl (lv_at hl 2 rfl) ?_
        refine lv_sipush (v := 16383) hx hb dX2_makeOver_69 (by decide) ?_
        refine lv_ldc2 (v := (-1)) hx hb hown w_3 dX2_makeOver_72 ?_
        have hFc : ∀ q, va_A [] H.size q → A q := va_free (wc := []) hD hS hA [] rfl
        refine va_callr (va_runS (As := [.int (bI ng), .int 16383, .long (-1)]) (rest := []) ⟨hx, hb, hml, hown, hts⟩ (c_X2_normal l D ad ng 16383 (-1) H.size) (va_cwS 3 hts gX2_makeOver_X2_normal rfl rfl rfl kS_X2_normal ⟨Nat.le_of_ble_eq_true rfl, Nat.le_of_ble_eq_true rfl⟩) ⟨SCB.blind, SCB.pre hK vP_nil hE hS hFc⟩ rfl rfl hl.1 rfl (lv_room (Nat.le_of_ble_eq_true rfl)) dX2_makeOver_75 ⟨Nat.le_of_ble_eq_true rfl, Nat.le_of_ble_eq_true rfl⟩) hS (fun q _ h9 => hFc q h9) hFc (fun u9 y_13 t9 H locs ht hvm hw hB hz1 hk1 hS => ?_)
        obtain ⟨vt_14, vf_15, e_16, hx_y_13, nz_y_13⟩ := hB
        rw [ht] at hx_y_13
        have nx_y_13 : ap3 y_13 h q1 q2 := ap_new hP nz_y_13
        have hP : va_P D vwCl (cRS h q1 q2 cA cB tf ff cw ((td ||| 8) ||| 32) an qb pa) H := ro_make hP hk1
        have hw : R_makeOver cw td ng ex nm = (vt_14, vf_15, ((td ||| 8) ||| 32)) := by unfold R_makeOver; rw [if_neg c_1, if_neg c_2, if_pos c_8, e_16]; try dsimp only; try rfl
        exact W.aret hx hb hr (Or.inl ⟨_, rfl⟩) (Or.inr ⟨_, rfl⟩) (fun t9 ht hW => ⟨⟨(), y_13, rfl, trivial, ⟨vt_14, vf_15, ((td ||| 8) ||| 32), hw, by rw [ht]; exact hP, hD, by rw [ht]; exact hx_y_13, nx_y_13⟩⟩, hS.F ht⟩) hS.2.2 dX2_makeOver_78
  · refine lv_iload_n hx hb dX2_makeOver_20 rfl (lv_at hl 1 rfl) ?_
    refine lv_iload_n hx hb dX2_makeOver_21 rfl (lv_at hl 2 rfl) ?_
    refine lv_sipush (v := 24576) hx hb dX2_makeOver_22 (by decide) ?_
    refine lv_isub hx hb dX2_makeOver_25 ?_
    refine lv_lload_n hx hb dX2_makeOver_26 rfl (lv_at hl 3 rfl) ?_
    have hFc : ∀ q, va_A [] H.size q → A q := va_free (wc := []) hD hS hA [] rfl
    refine va_callr (va_runS (As := [.int (bI ng), .int (ex - 24576), .long nm]) (rest := []) ⟨hx, hb, hml, hown, hts⟩ (c_X2_normal l D ad ng (ex - 24576) nm H.size) (va_cwS 3 hts gX2_makeOver_X2_normal rfl rfl rfl kS_X2_normal ⟨Nat.le_of_ble_eq_true rfl, Nat.le_of_ble_eq_true rfl⟩) ⟨SCB.blind, SCB.pre hK vP_nil hE hS hFc⟩ rfl rfl hl.1 rfl (lv_room (Nat.le_of_ble_eq_true rfl)) dX2_makeOver_27 ⟨Nat.le_of_ble_eq_true rfl, Nat.le_of_ble_eq_true rfl⟩) hS (fun q _ h9 => hFc q h9) hFc (fun u9 y_17 t9 H locs ht hvm hw hB hz1 hk1 hS => ?_)
    obtain ⟨vt_18, vf_19, e_20, hx_y_17, nz_y_17⟩ := hB
    rw [ht] at hx_y_17
    have nx_y_17 : ap3 y_17 h q1 q2 := ap_new hP nz_y_17
    have hP : va_P D vwCl (cRS h q1 q2 cA cB tf ff cw (td ||| 8) an qb pa) H := ro_make hP hk1
    have hw : R_makeOver cw td ng ex nm = (vt_18, vf_19, (td ||| 8)) := by unfold R_makeOver; rw [if_pos c_1, e_20]; try dsimp only; try rfl
    exact W.aret hx hb hr (Or.inl ⟨_, rfl⟩) (Or.inr ⟨_, rfl⟩) (fun t9 ht hW => ⟨⟨(), y_17, rfl, trivial, ⟨vt_18, vf_19, (td ||| 8), hw, by rw [ht]; exact hP, hD, by rw [ht]; exact hx_y_17, nx_y_17⟩⟩, hS.F ht⟩) hS.2.2 dX2_makeOver_30
def R_make (cw : Int32) (td : Int32) (ng : Bool) (fr : Int64) (un : Int32) : Int32 × Int64 × Int32 :=
  if fr = 0 then (match (R_zero ng) with
    | (vt_19, vf_20) => (vt_19, vf_20, td))
  else if (-16382) ≤ ((un + 63) - (J_nlz64 fr)) then (if ((un + 63) - (J_nlz64 fr)) ≤ 16383 then (match (R_normal ng ((un + 63) - (J_nlz64 fr)) (jlshl fr (J_nlz64 fr))) with
      | (vt_5, vf_6) => (vt_5, vf_6, td))
    else (match (R_makeOver cw td ng ((un + 63) - (J_nlz64 fr)) (jlshl fr (J_nlz64 fr))) with
      | (vt_9, vf_10, otd_11) => (vt_9, vf_10, otd_11)))
  else (match (R_makeUnder cw td ng ((un + 63) - (J_nlz64 fr)) (jlshl fr (J_nlz64 fr))) with
    | (vt_14, vf_15, otd_16) => (vt_14, vf_15, otd_16))
theorem kS_X2_make : yX2_make.cls ≠ "java/lang/invoke/MethodHandle" ∧ yX2_make.cls ≠ "java/lang/invoke/VarHandle" ∧ (parseMethodDescriptor yX2_make.desc).map (fun d => d.parameters.length) = some 3 := by decide +kernel
theorem kV_X2_make : yX2_make.cls = RX2 ∧ yX2_make.cls ≠ "java/lang/invoke/MethodHandle" ∧ yX2_make.cls ≠ "java/lang/invoke/VarHandle" ∧ (parseMethodDescriptor yX2_make.desc).map (fun d => d.parameters.length) = some 3 := ⟨rfl, kS_X2_make⟩
set_option maxHeartbeats 4000000 in
set_option maxRecDepth 100000 in
theorem c_X2_make (l : Launch) (D : va_G) (ad : Nat → Nat) (h : Nat) (q1 : Nat) (q2 : Nat) (cA : ClassId) (cB : ClassId) (tf : Nat → Int32) (ff : Nat → Int64) (cw : Int32) (td : Int32) (an : Bool) (qb : Int32) (pa : Bool) (ng : Bool) (fr : Int64) (un : Int32) (sz : Nat) : Met l yX2_make wsX2_make ({ frames := 6, cells := 1, slots := 2, locals := 153 } : Room) (va_Pc [.ref h, .int (bI ng), .long fr, .int un] (MRB D ad h q1 q2 (tRS cA cB) (cRS h q1 q2 cA cB tf ff cw td an qb pa) [] sz)) (va_Qr (fun (_ : Unit) => True) (fun _ a t => ∃ (w_t : Int32) (w_f : Int64) (w_td : Int32), R_make cw td ng fr un = (w_t, w_f, w_td) ∧ va_P D vwCl (cRS h q1 q2 cA cB tf ff cw w_td an qb pa) t.heap ∧ va_D (va_A (cRS h q1 q2 cA cB tf ff cw td an qb pa) sz) (cRS h q1 q2 cA cB tf ff cw w_td an qb pa) ∧ va_P D vwCl [cReal a w_t w_f] t.heap ∧ ap3 a h q1 q2) (va_A (cRS h q1 q2 cA cB tf ff cw td an qb pa) sz)) 1 2 (va_A (cRS h q1 q2 cA cB tf ff cw td an qb pa) sz) := by
  refine Met.ofW (cc := cX2_make) (maxL := 9) (ret := (some (.object "RealSteps$Real"))) (by decide) rfl ?_
  intro p e s m args below meth c s₁ B hml hv
  obtain ⟨rfl, hsz, hP, hK, hD0, hR0, hRp, hE⟩ := hv
  have hx := B.exec
  have hb := B.bytes
  have hr := B.returns
  have hts := atoms_spec (ws := wsX2_make) B.pre
  have hown : s.vm.findClass RX2 = some m.cls := findClass_of_methodNamed B.named
  have hlocks := B.notSynchronized
  subst hsz
  have hD := hD0.self (sz := s.heap.size)
  have hRA := rs_A hR0 hRp (e1 := .inr (1, [.ref q1, .ref q2, .int cw, .int td, .int (bI an), .int qb, .int (bI pa)])) (e2 := .inl (cA, 8, .inl tf)) (e3 := .inl (cB, 8, .inr (.inl ff)))
  generalize hAe : va_A (cRS h q1 q2 cA cB tf ff cw td an qb pa) s.heap.size = A at hD hE hRA ⊢
  have hA : ∀ q : Nat, s.heap.size ≤ q → A q := fun q h => by rw [← hAe]; exact Or.inr h
  have hS : va_S A s.heap s.heap [] := va_S.rf
  have hP : va_P D vwCl (cRS h q1 q2 cA cB tf ff cw td an qb pa) s.heap := hP
  have hl := lv_entry ([.ref h, .int (bI ng), .long fr, .int un]) (n := 9) (Nat.le_of_ble_eq_true rfl)
  rw [lg_entry_eq]
  generalize (lg_sl ([.ref h, .int (bI ng), .long fr, .int un]) ++ List.replicate (9 - (lg_sl ([.ref h, .int (bI ng), .long fr, .int un])).length) Slot.unset).toArray = ls at hl ⊢
  have hl : lv_has ls 9 [(0, .ref h), (1, .int (bI ng)), (2, .long fr), (4, .int un)] := hl
  refine lv_lload_n hx hb dX2_make_0 rfl (lv_at hl 2 rfl) ?_
  refine lv_lconst (v := 0) hx hb dX2_make_1 (by decide) ?_
  refine q_cl_ne (tgt := 11) hx hb dX2_make_2 dX2_make_3 (by decide) (fun c_1 => ?_) (fun c_1 => ?_)
  · refine lv_lload_n hx hb dX2_make_11 rfl (lv_at hl 2 rfl) ?_
    refine vp_callSi (va_cr (va_runS (As := [.long fr]) (rest := []) ⟨hx, hb, hml, hown, hts⟩ (c_J13_numberOfLeadingZeros_95d88 l fr) (va_cwS 1 hts gX2_make_J13_numberOfLeadingZeros_95d88 rfl rfl rfl kS_J13_numberOfLeadingZeros_95d88 ⟨Nat.le_of_ble_eq_true rfl, Nat.le_of_ble_eq_true rfl⟩) ⟨TB.blind, TB.pre⟩ rfl rfl hl.1 rfl (lv_room (Nat.le_of_ble_eq_true rfl)) dX2_make_12 ⟨Nat.le_of_ble_eq_true rfl, Nat.le_of_ble_eq_true rfl⟩)) (fun r9 e9 => ?_)
    rw [e9]
    refine lv_istore (lv' := [(5, .int (J_nlz64 fr)), (0, .ref h), (1, .int (bI ng)), (2, .long fr), (4, .int un)]) hx hb dX2_make_15 hl (by decide) rfl (fun ls hl => ?_)
    refine lv_lload_n hx hb dX2_make_17 rfl (lv_at hl 3 rfl) ?_
    refine lv_iload hx hb dX2_make_18 (lv_at hl 0 rfl) ?_
    refine lv_lshl (v := (jlshl fr (J_nlz64 fr))) hx hb dX2_make_20 rfl ?_
    refine lv_lstore (lv' := [(6, .long (jlshl fr (J_nlz64 fr))), (5, .int (J_nlz64 fr)), (0, .ref h), (1, .int (bI ng)), (2, .long fr), (4, .int un)]) hx hb dX2_make_21 hl (by decide) rfl (fun ls hl => ?_)
    refine lv_iload hx hb dX2_make_23 (lv_at hl 5 rfl) ?_
    refine lv_bipush (v := 63) hx hb dX2_make_25 (by decide) ?_
    refine lv_iadd hx hb dX2_make_27 ?_
    refine lv_iload hx hb dX2_make_28 (lv_at hl 1 rfl) ?_
    refine lv_isub hx hb dX2_make_30 ?_
    refine lv_istore (lv' := [(8, .int ((un + 63) - (J_nlz64 fr))), (6, .long (jlshl fr (J_nlz64 fr))), (5, .int (J_nlz64 fr)), (0, .ref h), (1, .int (bI ng)), (2, .long fr), (4, .int un)]) hx hb dX2_make_31 hl (by decide) rfl (fun ls hl => ?_)
    refine lv_iload hx hb dX2_make_33 (lv_at hl 0 rfl) ?_
    refine lv_sipush (v := (-16382)) hx hb dX2_make_35 (by decide) ?_
    refine lv_icmp_ge (tgt := 51) hx hb dX2_make_38 (by decide) (fun c_2 => ?_) (fun c_2 => ?_)
    · refine lv_iload hx hb dX2_make_51 (lv_at hl 0 rfl) ?_
      refine lv_sipush (v := 16383) hx hb dX2_make_53 (by decide) ?_
      refine lv_icmp_le (tgt := 69) hx hb dX2_make_56 (by decide) (fun c_3 => ?_) (fun c_3 => ?_)
      · refine lv_iload_n hx hb dX2_make_69 rfl (lv_at hl 4 rfl) ?_
        refine lv_iload hx hb dX2_make_70 (lv_at hl 0 rfl) ?_
        refine lv_lload hx hb dX2_make_72 (lv_at hl 1 rfl) ?_
        have hFc : ∀ q, va_A [] s.heap.size q → A q := va_free (wc := []) hD hS hA [] rfl
        refine va_callr (va_runS (As := [.int (bI ng), .int ((un + 63) - (J_nlz64 fr)), .long (jlshl fr (J_nlz64 fr))]) (rest := []) ⟨hx, hb, hml, hown, hts⟩ (c_X2_normal l D ad ng ((un + 63) - (J_nlz64 fr)) (jlshl fr (J_nlz64 fr)) s.heap.size) (va_cwS 3 hts gX2_make_X2_normal rfl rfl rfl kS_X2_normal ⟨Nat.le_of_ble_eq_true rfl, Nat.le_of_ble_eq_true rfl⟩) ⟨SCB.blind, SCB.pre hK vP_nil hE hS hFc⟩ rfl rfl hl.1 rfl (lv_room (Nat.le_of_ble_eq_true rfl)) dX2_make_74 ⟨Nat.le_of_ble_eq_true rfl, Nat.le_of_ble_eq_true rfl⟩) hS (fun q _ h9 => hFc q h9) hFc (fun u9 y_4 t9 H locs ht hvm hw hB hz1 hk1 hS => ?_)
        obtain ⟨vt_5, vf_6, e_7, hx_y_4, nz_y_4⟩ := hB
        rw [ht] at hx_y_4
        have nx_y_4 : ap3 y_4 h q1 q2 := ap_new hP nz_y_4
        have hP : va_P D vwCl (cRS h q1 q2 cA cB tf ff cw td an qb pa) H := ro_make hP hk1
        have hw : R_make cw td ng fr un = (vt_5, vf_6, td) := by unfold R_make; rw [if_neg c_1, if_pos c_2, if_pos c_3, e_7]; try dsimp only; try rfl
        exact W.aret hx hb hr (Or.inl ⟨_, rfl⟩) (Or.inr ⟨_, rfl⟩) (fun t9 ht hW => ⟨⟨(), y_4, rfl, trivial, ⟨vt_5, vf_6, td, hw, by rw [ht]; exact hP, hD, by rw [ht]; exact hx_y_4, nx_y_4⟩⟩, hS.F ht⟩) hS.2.2 dX2_make_77
      · refine lv_aload_n hx hb dX2_make_59 rfl (lv_at hl 3 rfl) ?_
        refine lv_iload_n hx hb dX2_make_60 rfl (lv_at hl 4 rfl) ?_
        refine lv_iload hx hb dX2_make_61 (lv_at hl 0 rfl) ?_
        refine lv_lload hx hb dX2_make_63 (lv_at hl 1 rfl) ?_
        have hFc := va_free (wc := cRS h q1 q2 cA cB tf ff cw td an qb pa) hD hS hA [0, 1, 2] rfl
        refine va_callr (va_runV (As := [.int (bI ng), .int ((un + 63) - (J_nlz64 fr)), .long (jlshl fr (J_nlz64 fr))]) (rest := []) ⟨hx, hb, hml, hown, hts⟩ (c_X2_makeOver l D ad h q1 q2 cA cB tf ff cw td an qb pa ng ((un + 63) - (J_nlz64 fr)) (jlshl fr (J_nlz64 fr)) s.heap.size) (cwV 3 hts gX2_make_X2_makeOver rfl rfl rfl kV_X2_makeOver ⟨Nat.le_of_ble_eq_true rfl, Nat.le_of_ble_eq_true rfl⟩) ⟨MRB.blind, va_recv hK hP (ci := 1) (q0 := 0) rfl rfl, MRB.pre hK hP hD vP_nil ap_nil hE hS hFc⟩ rfl rfl hl.1 rfl (lv_room (Nat.le_of_ble_eq_true rfl)) dX2_make_65 ⟨Nat.le_of_ble_eq_true rfl, Nat.le_of_ble_eq_true rfl⟩) hS (fun q _ h9 => hFc q h9) hFc (fun u9 y_8 t9 H locs ht hvm hw hB hz1 hk1 hS => ?_)
        obtain ⟨vt_9, vf_10, otd_11, e_12, hP, hD9, hx_y_8, nx_y_8⟩ := hB
        rw [ht] at hP hx_y_8
        have hD : va_D A (cRS h q1 q2 cA cB tf ff cw otd_11 an qb pa) := hD9.weaken (fun _ _ _ h => hFc _ h)
        have hw : R_make cw td ng fr un = (vt_9, vf_10, otd_11) := by unfold R_make; rw [if_neg c_1, if_pos c_2, if_neg c_3, e_12]; try dsimp only; try rfl
        exact W.aret hx hb hr (Or.inl ⟨_, rfl⟩) (Or.inr ⟨_, rfl⟩) (fun t9 ht hW => ⟨⟨(), y_8, rfl, trivial, ⟨vt_9, vf_10, otd_11, hw, by rw [ht]; exact hP, hD, by rw [ht]; exact hx_y_8, nx_y_8⟩⟩, hS.F ht⟩) hS.2.2 dX2_make_68
    · refine lv_aload_n hx hb dX2_make_41 rfl (lv_at hl 3 rfl) ?_
      refine lv_iload_n hx hb dX2_make_42 rfl (lv_at hl 4 rfl) ?_
      refine lv_iload hx hb dX2_make_43 (lv_at hl 0 rfl) ?_
      refine lv_lload hx hb dX2_make_45 (lv_at hl 1 rfl) ?_
      have hFc := va_free (wc := cRS h q1 q2 cA cB tf ff cw td an qb pa) hD hS hA [0, 1, 2] rfl
      refine va_callr (va_runV (As := [.int (bI ng), .int ((un + 63) - (J_nlz64 fr)), .long (jlshl fr (J_nlz64 fr))]) (rest := []) ⟨hx, hb, hml, hown, hts⟩ (c_X2_makeUnder l D ad h q1 q2 cA cB tf ff cw td an qb pa ng ((un + 63) - (J_nlz64 fr)) (jlshl fr (J_nlz64 fr)) s.heap.size) (cwV 3 hts gX2_make_X2_makeUnder rfl rfl rfl kV_X2_makeUnder ⟨Nat.le_of_ble_eq_true rfl, Nat.le_of_ble_eq_true rfl⟩) ⟨MRB.blind, va_recv hK hP (ci := 1) (q0 := 0) rfl rfl, MRB.pre hK hP hD vP_nil ap_nil hE hS hFc⟩ rfl rfl hl.1 rfl (lv_room (Nat.le_of_ble_eq_true rfl)) dX2_make_47 ⟨Nat.le_of_ble_eq_true rfl, Nat.le_of_ble_eq_true rfl⟩) hS (fun q _ h9 => hFc q h9) hFc (fun u9 y_13 t9 H locs ht hvm hw hB hz1 hk1 hS => ?_)
      obtain ⟨vt_14, vf_15, otd_16, e_17, hP, hD9, hx_y_13, nx_y_13⟩ := hB
      rw [ht] at hP hx_y_13
      have hD : va_D A (cRS h q1 q2 cA cB tf ff cw otd_16 an qb pa) := hD9.weaken (fun _ _ _ h => hFc _ h)
      have hw : R_make cw td ng fr un = (vt_14, vf_15, otd_16) := by unfold R_make; rw [if_neg c_1, if_neg c_2, e_17]; try dsimp only; try rfl
      exact W.aret hx hb hr (Or.inl ⟨_, rfl⟩) (Or.inr ⟨_, rfl⟩) (fun t9 ht hW => ⟨⟨(), y_13, rfl, trivial, ⟨vt_14, vf_15, otd_16, hw, by rw [ht]; exact hP, hD, by rw [ht]; exact hx_y_13, nx_y_13⟩⟩, hS.F ht⟩) hS.2.2 dX2_make_50
  · refine lv_iload_n hx hb dX2_make_6 rfl (lv_at hl 1 rfl) ?_
    have hFc : ∀ q, va_A [] s.heap.size q → A q := va_free (wc := []) hD hS hA [] rfl
    refine va_callr (va_runS (As := [.int (bI ng)]) (rest := []) ⟨hx, hb, hml, hown, hts⟩ (c_X2_zero l D ad ng s.heap.size) (va_cwS 1 hts gX2_make_X2_zero rfl rfl rfl kS_X2_zero ⟨Nat.le_of_ble_eq_true rfl, Nat.le_of_ble_eq_true rfl⟩) ⟨SCB.blind, SCB.pre hK vP_nil hE hS hFc⟩ rfl rfl hl.1 rfl (lv_room (Nat.le_of_ble_eq_true rfl)) dX2_make_7 ⟨Nat.le_of_ble_eq_true rfl, Nat.le_of_ble_eq_true rfl⟩) hS (fun q _ h9 => hFc q h9) hFc (fun u9 y_18 t9 H locs ht hvm hw hB hz1 hk1 hS => ?_)
    obtain ⟨vt_19, vf_20, e_21, hx_y_18, nz_y_18⟩ := hB
    rw [ht] at hx_y_18
    have nx_y_18 : ap3 y_18 h q1 q2 := ap_new hP nz_y_18
    have hP : va_P D vwCl (cRS h q1 q2 cA cB tf ff cw td an qb pa) H := ro_make hP hk1
    have hw : R_make cw td ng fr un = (vt_19, vf_20, td) := by unfold R_make; rw [if_pos c_1, e_21]; try dsimp only; try rfl
    exact W.aret hx hb hr (Or.inl ⟨_, rfl⟩) (Or.inr ⟨_, rfl⟩) (fun t9 ht hW => ⟨⟨(), y_18, rfl, trivial, ⟨vt_19, vf_20, td, hw, by rw [ht]; exact hP, hD, by rw [ht]; exact hx_y_18, nx_y_18⟩⟩, hS.F ht⟩) hS.2.2 dX2_make_10
def R_wholeOf (cw : Int32) (td : Int32) (tx : Int32) (fx : Int64) : Int32 × Int64 × Int32 :=
  if bI (R_isOf tx fx 4) = 0 then (if bI (R_nought tx fx) = 0 then (if 0 < (63 - (R_exp tx fx)) then (if bI (R_isCut (R_norm fx) (63 - (R_exp tx fx))) = 0 then (match (R_make cw td (R_neg tx) (R_rounded cw (R_neg tx) (R_norm fx) (63 - (R_exp tx fx))) 0) with
          | (vt_11, vf_12, otd_13) => (vt_11, vf_12, otd_13))
        else (match (R_make cw (td ||| 32) (R_neg tx) (R_rounded cw (R_neg tx) (R_norm fx) (63 - (R_exp tx fx))) 0) with
          | (vt_16, vf_17, otd_18) => (vt_16, vf_17, otd_18)))
      else (match (R_make cw td (R_neg tx) fx (R_unit tx)) with
        | (vt_21, vf_22, otd_23) => (vt_21, vf_22, otd_23)))
    else (match (R_make cw td (R_neg tx) fx (R_unit tx)) with
      | (vt_4, vf_5, otd_6) => (vt_4, vf_5, otd_6)))
  else (tx, fx, td)
theorem kS_X2_wholeOf : yX2_wholeOf.cls ≠ "java/lang/invoke/MethodHandle" ∧ yX2_wholeOf.cls ≠ "java/lang/invoke/VarHandle" ∧ (parseMethodDescriptor yX2_wholeOf.desc).map (fun d => d.parameters.length) = some 1 := by decide +kernel
theorem kV_X2_wholeOf : yX2_wholeOf.cls = RX2 ∧ yX2_wholeOf.cls ≠ "java/lang/invoke/MethodHandle" ∧ yX2_wholeOf.cls ≠ "java/lang/invoke/VarHandle" ∧ (parseMethodDescriptor yX2_wholeOf.desc).map (fun d => d.parameters.length) = some 1 := ⟨rfl, kS_X2_wholeOf⟩
set_option maxHeartbeats 4000000 in
set_option maxRecDepth 100000 in
theorem c_X2_wholeOf (l : Launch) (D : va_G) (ad : Nat → Nat) (h : Nat) (q1 : Nat) (q2 : Nat) (cA : ClassId) (cB : ClassId) (tf : Nat → Int32) (ff : Nat → Int64) (cw : Int32) (td : Int32) (an : Bool) (qb : Int32) (pa : Bool) (x : Nat) (tx : Int32) (fx : Int64) (sz : Nat) : Met l yX2_wholeOf wsX2_wholeOf ({ frames := 7, cells := 1, slots := 2, locals := 181 } : Room) (va_Pc [.ref h, .ref x] (MRB D ad h q1 q2 (tRS cA cB) (cRS h q1 q2 cA cB tf ff cw td an qb pa) [cReal x tx fx] sz)) (va_Qr (fun (_ : Unit) => True) (fun _ a t => ∃ (w_t : Int32) (w_f : Int64) (w_td : Int32), R_wholeOf cw td tx fx = (w_t, w_f, w_td) ∧ va_P D vwCl (cRS h q1 q2 cA cB tf ff cw w_td an qb pa) t.heap ∧ va_D (va_A (cRS h q1 q2 cA cB tf ff cw td an qb pa) sz) (cRS h q1 q2 cA cB tf ff cw w_td an qb pa) ∧ va_P D vwCl [cReal a w_t w_f] t.heap ∧ ap3 a h q1 q2) (va_A (cRS h q1 q2 cA cB tf ff cw td an qb pa) sz)) 1 2 (va_A (cRS h q1 q2 cA cB tf ff cw td an qb pa) sz) := by
  refine Met.ofW (cc := cX2_wholeOf) (maxL := 6) (ret := (some (.object "RealSteps$Real"))) (by decide) rfl ?_
  intro p e s m args below meth c s₁ B hml hv
  obtain ⟨rfl, hsz, hP, hK, hD0, hR0, hRp, hE⟩ := hv
  have hx := B.exec
  have hb := B.bytes
  have hr := B.returns
  have hts := atoms_spec (ws := wsX2_wholeOf) B.pre
  have hown : s.vm.findClass RX2 = some m.cls := findClass_of_methodNamed B.named
  have hlocks := B.notSynchronized
  have w_1 := hts (.fieldLink RX2 106 "RealSteps$Kind" "INFINITE" "LRealSteps$Kind;") (by decide +kernel)
  have w_2 := hts (.initialized RX1) (by decide +kernel)
  have w_3 := hts (.instanceMethod yX1_isOf) (by decide +kernel)
  have w_4 := hts (.selects RX1 yX1_isOf yX1_isOf) (by decide +kernel)
  have w_5 := hts (.instanceMethod yX1_isNegative) (by decide +kernel)
  have w_6 := hts (.selects RX1 yX1_isNegative yX1_isNegative) (by decide +kernel)
  have w_7 := hts (.instanceMethod yX1_exponent) (by decide +kernel)
  have w_8 := hts (.selects RX1 yX1_exponent yX1_exponent) (by decide +kernel)
  have w_9 := hts (.instanceMethod yX1_isNought) (by decide +kernel)
  have w_10 := hts (.selects RX1 yX1_isNought yX1_isNought) (by decide +kernel)
  have in_X1 : ∀ w ∈ wsX10, w ∈ wsX2_wholeOf := by decide +kernel
  have w_12 := hts (.instanceMethod yX1_unit) (by decide +kernel)
  have w_13 := hts (.selects RX1 yX1_unit yX1_unit) (by decide +kernel)
  have w_14 := hts (.instanceMethod yX1_normalised) (by decide +kernel)
  have w_15 := hts (.selects RX1 yX1_normalised yX1_normalised) (by decide +kernel)
  have w_16 := hts (.fieldLink RX2 21 "RealSteps" "toldBits" "I") (by decide +kernel)
  have in_X2 : ∀ w ∈ wsX20, w ∈ wsX2_wholeOf := by decide +kernel
  subst hsz
  have hD := hD0.self (sz := s.heap.size)
  have hRA := rs_A hR0 hRp (e1 := .inr (1, [.ref q1, .ref q2, .int cw, .int td, .int (bI an), .int qb, .int (bI pa)])) (e2 := .inl (cA, 8, .inl tf)) (e3 := .inl (cB, 8, .inr (.inl ff)))
  generalize hAe : va_A (cRS h q1 q2 cA cB tf ff cw td an qb pa) s.heap.size = A at hD hE hRA ⊢
  have hA : ∀ q : Nat, s.heap.size ≤ q → A q := fun q h => by rw [← hAe]; exact Or.inr h
  have hS : va_S A s.heap s.heap [] := va_S.rf
  have hP : va_P D vwCl (cRS h q1 q2 cA cB tf ff cw td an qb pa) s.heap := hP
  have hl := lv_entry ([.ref h, .ref x]) (n := 6) (Nat.le_of_ble_eq_true rfl)
  rw [lg_entry_eq]
  generalize (lg_sl ([.ref h, .ref x]) ++ List.replicate (6 - (lg_sl ([.ref h, .ref x])).length) Slot.unset).toArray = ls at hl ⊢
  have hl : lv_has ls 6 [(0, .ref h), (1, .ref x)] := hl
  refine lv_aload_n hx hb dX2_wholeOf_0 rfl (lv_at hl 1 rfl) ?_
  refine va_gets (v := .ref (ad 4)) hx hb (hE.1.1 4 (by decide)).1 hS hown w_1 (fun _ h9 => h9) dX2_wholeOf_1 ?_
  refine vp_callSi (va_cr (va_runVN (As := [.ref (ad 4)]) (rest := []) ⟨hx, hb, hml, hown, hts⟩ (c_X1_isOf l D ad x tx fx 4 (by decide)) ⟨va_cnB 1 hts gX2_wholeOf_X1_isOf_n112 rfl rfl rfl (hE.2.1 _ (List.mem_of_getElem? (i := 0) rfl)) w_2 kS_X1_isOf ⟨Nat.le_of_ble_eq_true rfl, Nat.le_of_ble_eq_true rfl⟩, w_3, w_4⟩ ⟨EB.blind, va_recv hK (ro_now hR0 hRA hS) (ci := 0) (q0 := 0) rfl rfl, EB.pre (hK.sub [] rfl) ((ro_now hR0 hRA hS).sub [0] rfl) hE hS⟩ rfl rfl hl.1 rfl (lv_room (Nat.le_of_ble_eq_true rfl)) dX2_wholeOf_4 ⟨Nat.le_of_ble_eq_true rfl, Nat.le_of_ble_eq_true rfl⟩)) (fun r9 e9 => ?_)
  rw [e9]
  refine lv_if_eq (tgt := 12) hx hb dX2_wholeOf_7 (by decide) (fun c_1 => ?_) (fun c_1 => ?_)
  · refine lv_aload_n hx hb dX2_wholeOf_12 rfl (lv_at hl 1 rfl) ?_
    refine vp_callSi (va_cr (va_runVN (As := []) (rest := []) ⟨hx, hb, hml, hown, hts⟩ (c_X1_isNegative l D ad x tx fx) ⟨va_cnB 0 hts gX2_wholeOf_X1_isNegative_n137 rfl rfl rfl (hE.2.1 _ (List.mem_of_getElem? (i := 2) rfl)) w_2 kS_X1_isNegative ⟨Nat.le_of_ble_eq_true rfl, Nat.le_of_ble_eq_true rfl⟩, w_5, w_6⟩ ⟨EB.blind, va_recv hK (ro_now hR0 hRA hS) (ci := 0) (q0 := 0) rfl rfl, EB.pre (hK.sub [] rfl) ((ro_now hR0 hRA hS).sub [0] rfl) hE hS⟩ rfl rfl hl.1 rfl (lv_room (Nat.le_of_ble_eq_true rfl)) dX2_wholeOf_13 ⟨Nat.le_of_ble_eq_true rfl, Nat.le_of_ble_eq_true rfl⟩)) (fun r9 e9 => ?_)
    rw [e9]
    refine lv_istore_n (lv' := [(2, .int (bI (R_neg tx))), (0, .ref h), (1, .ref x)]) hx hb dX2_wholeOf_16 rfl hl (by decide) rfl (fun ls hl => ?_)
    refine lv_bipush (v := 63) hx hb dX2_wholeOf_17 (by decide) ?_
    refine lv_aload_n hx hb dX2_wholeOf_19 rfl (lv_at hl 2 rfl) ?_
    refine vp_callSi (va_cr (va_runVN (As := []) (rest := [.int 63]) ⟨hx, hb, hml, hown, hts⟩ (c_X1_exponent l D ad x tx fx) ⟨va_cnB 0 hts gX2_wholeOf_X1_exponent_n223 rfl rfl rfl (hE.2.1 _ (List.mem_of_getElem? (i := 3) rfl)) w_2 kS_X1_exponent ⟨Nat.le_of_ble_eq_true rfl, Nat.le_of_ble_eq_true rfl⟩, w_7, w_8⟩ ⟨EB.blind, va_recv hK (ro_now hR0 hRA hS) (ci := 0) (q0 := 0) rfl rfl, EB.pre (hK.sub [] rfl) ((ro_now hR0 hRA hS).sub [0] rfl) hE hS⟩ rfl rfl hl.1 rfl (lv_room (Nat.le_of_ble_eq_true rfl)) dX2_wholeOf_20 ⟨Nat.le_of_ble_eq_true rfl, Nat.le_of_ble_eq_true rfl⟩)) (fun r9 e9 => ?_)
    rw [e9]
    refine lv_isub hx hb dX2_wholeOf_23 ?_
    refine lv_istore_n (lv' := [(3, .int (63 - (R_exp tx fx))), (2, .int (bI (R_neg tx))), (0, .ref h), (1, .ref x)]) hx hb dX2_wholeOf_24 rfl hl (by decide) rfl (fun ls hl => ?_)
    refine lv_aload_n hx hb dX2_wholeOf_25 rfl (lv_at hl 3 rfl) ?_
    refine vp_callSi (va_cr (va_runVN (As := []) (rest := []) ⟨hx, hb, hml, hown, hts⟩ (c_X1_isNought l D ad x tx fx) ⟨va_cnB 0 hts gX2_wholeOf_X1_isNought_n96 rfl rfl rfl (hE.2.1 _ (List.mem_of_getElem? (i := 8) rfl)) w_2 kS_X1_isNought ⟨Nat.le_of_ble_eq_true rfl, Nat.le_of_ble_eq_true rfl⟩, w_9, w_10⟩ ⟨EB.blind, va_recv hK (ro_now hR0 hRA hS) (ci := 0) (q0 := 0) rfl rfl, EB.pre (hK.sub [] rfl) ((ro_now hR0 hRA hS).sub [0] rfl) hE hS⟩ rfl rfl hl.1 rfl (lv_room (Nat.le_of_ble_eq_true rfl)) dX2_wholeOf_26 ⟨Nat.le_of_ble_eq_true rfl, Nat.le_of_ble_eq_true rfl⟩)) (fun r9 e9 => ?_)
    rw [e9]
    refine lv_if_ne (tgt := 36) hx hb dX2_wholeOf_29 (by decide) (fun c_2 => ?_) (fun c_2 => ?_)
    · refine lv_aload_n hx hb dX2_wholeOf_36 rfl (lv_at hl 2 rfl) ?_
      refine lv_iload_n hx hb dX2_wholeOf_37 rfl (lv_at hl 1 rfl) ?_
      refine lv_aload_n hx hb dX2_wholeOf_38 rfl (lv_at hl 3 rfl) ?_
      refine va_getN (v := .long fx) (C := RX1) (T := TX1) (N := 2) hx hb hts in_X1 hown hK (ro_now hR0 hRA hS) 0 rfl rfl 1 (by decide) (va_Nw.use rfl (hE.2.1 (.fieldLinkNest RX2 150 "RealSteps$Real" "fraction" "J" RX2) (by decide))) (fun _ h9 => h9) rfl dX2_wholeOf_39 ?_
      refine lv_aload_n hx hb dX2_wholeOf_42 rfl (lv_at hl 3 rfl) ?_
      refine vp_callSi (va_cr (va_runVN (As := []) (rest := [.long fx, .int (bI (R_neg tx)), .ref h]) ⟨hx, hb, hml, hown, hts⟩ (c_X1_unit l D ad x tx fx) ⟨va_cnB 0 hts gX2_wholeOf_X1_unit_n226 rfl rfl rfl (hE.2.1 _ (List.mem_of_getElem? (i := 4) rfl)) w_2 kS_X1_unit ⟨Nat.le_of_ble_eq_true rfl, Nat.le_of_ble_eq_true rfl⟩, w_12, w_13⟩ ⟨EB.blind, va_recv hK (ro_now hR0 hRA hS) (ci := 0) (q0 := 0) rfl rfl, EB.pre (hK.sub [] rfl) ((ro_now hR0 hRA hS).sub [0] rfl) hE hS⟩ rfl rfl hl.1 rfl (lv_room (Nat.le_of_ble_eq_true rfl)) dX2_wholeOf_43 ⟨Nat.le_of_ble_eq_true rfl, Nat.le_of_ble_eq_true rfl⟩)) (fun r9 e9 => ?_)
      rw [e9]
      have hFc := va_free (wc := cRS h q1 q2 cA cB tf ff cw td an qb pa) hD hS hA [0, 1, 2] rfl
      refine va_callr (va_runV (As := [.int (bI (R_neg tx)), .long fx, .int (R_unit tx)]) (rest := []) ⟨hx, hb, hml, hown, hts⟩ (c_X2_make l D ad h q1 q2 cA cB tf ff cw td an qb pa (R_neg tx) fx (R_unit tx) s.heap.size) (cwV 3 hts gX2_wholeOf_X2_make rfl rfl rfl kV_X2_make ⟨Nat.le_of_ble_eq_true rfl, Nat.le_of_ble_eq_true rfl⟩) ⟨MRB.blind, va_recv hK hP (ci := 1) (q0 := 0) rfl rfl, MRB.pre hK hP hD vP_nil ap_nil hE hS hFc⟩ rfl rfl hl.1 rfl (lv_room (Nat.le_of_ble_eq_true rfl)) dX2_wholeOf_46 ⟨Nat.le_of_ble_eq_true rfl, Nat.le_of_ble_eq_true rfl⟩) hS (fun q _ h9 => hFc q h9) hFc (fun u9 y_3 t9 H locs ht hvm hw hB hz1 hk1 hS => ?_)
      obtain ⟨vt_4, vf_5, otd_6, e_7, hP, hD9, hx_y_3, nx_y_3⟩ := hB
      rw [ht] at hP hx_y_3
      have hD : va_D A (cRS h q1 q2 cA cB tf ff cw otd_6 an qb pa) := hD9.weaken (fun _ _ _ h => hFc _ h)
      have hw : R_wholeOf cw td tx fx = (vt_4, vf_5, otd_6) := by unfold R_wholeOf; rw [if_pos c_1, if_neg c_2, e_7]; try dsimp only; try rfl
      exact W.aret hx hb hr (Or.inl ⟨_, rfl⟩) (Or.inr ⟨_, rfl⟩) (fun t9 ht hW => ⟨⟨(), y_3, rfl, trivial, ⟨vt_4, vf_5, otd_6, hw, by rw [ht]; exact hP, hD, by rw [ht]; exact hx_y_3, nx_y_3⟩⟩, hS.F ht⟩) hS.2.2 dX2_wholeOf_49
    · refine lv_iload_n hx hb dX2_wholeOf_32 rfl (lv_at hl 0 rfl) ?_
      refine lv_if_gt (tgt := 50) hx hb dX2_wholeOf_33 (by decide) (fun c_8 => ?_) (fun c_8 => ?_)
      · refine lv_aload_n hx hb dX2_wholeOf_50 rfl (lv_at hl 3 rfl) ?_
        refine vp_callSl (va_cr (va_runVN (As := []) (rest := []) ⟨hx, hb, hml, hown, hts⟩ (c_X1_normalised l D ad x tx fx) ⟨va_cnB 0 hts gX2_wholeOf_X1_normalised_n233 rfl rfl rfl (hE.2.1 _ (List.mem_of_getElem? (i := 5) rfl)) w_2 kS_X1_normalised ⟨Nat.le_of_ble_eq_true rfl, Nat.le_of_ble_eq_true rfl⟩, w_14, w_15⟩ ⟨EB.blind, va_recv hK (ro_now hR0 hRA hS) (ci := 0) (q0 := 0) rfl rfl, EB.pre (hK.sub [] rfl) ((ro_now hR0 hRA hS).sub [0] rfl) hE hS⟩ rfl rfl hl.1 rfl (lv_room (Nat.le_of_ble_eq_true rfl)) dX2_wholeOf_51 ⟨Nat.le_of_ble_eq_true rfl, Nat.le_of_ble_eq_true rfl⟩)) (fun r9 e9 => ?_)
        rw [e9]
        refine lv_lstore (lv' := [(4, .long (R_norm fx)), (3, .int (63 - (R_exp tx fx))), (2, .int (bI (R_neg tx))), (0, .ref h), (1, .ref x)]) hx hb dX2_wholeOf_54 hl (by decide) rfl (fun ls hl => ?_)
        refine lv_lload hx hb dX2_wholeOf_56 (lv_at hl 0 rfl) ?_
        refine lv_iload_n hx hb dX2_wholeOf_58 rfl (lv_at hl 1 rfl) ?_
        refine vp_callSi (va_cr (va_runS (As := [.long (R_norm fx), .int (63 - (R_exp tx fx))]) (rest := []) ⟨hx, hb, hml, hown, hts⟩ (c_X2_isCut l (R_norm fx) (63 - (R_exp tx fx))) (va_cwS 2 hts gX2_wholeOf_X2_isCut rfl rfl rfl kS_X2_isCut ⟨Nat.le_of_ble_eq_true rfl, Nat.le_of_ble_eq_true rfl⟩) ⟨TB.blind, TB.pre⟩ rfl rfl hl.1 rfl (lv_room (Nat.le_of_ble_eq_true rfl)) dX2_wholeOf_59 ⟨Nat.le_of_ble_eq_true rfl, Nat.le_of_ble_eq_true rfl⟩)) (fun r9 e9 => ?_)
        rw [e9]
        refine lv_if_eq (tgt := 76) hx hb dX2_wholeOf_62 (by decide) (fun c_9 => ?_) (fun c_9 => ?_)
        · refine lv_aload_n hx hb dX2_wholeOf_76 rfl (lv_at hl 3 rfl) ?_
          refine lv_iload_n hx hb dX2_wholeOf_77 rfl (lv_at hl 2 rfl) ?_
          refine lv_aload_n hx hb dX2_wholeOf_78 rfl (lv_at hl 3 rfl) ?_
          refine lv_iload_n hx hb dX2_wholeOf_79 rfl (lv_at hl 2 rfl) ?_
          refine lv_lload hx hb dX2_wholeOf_80 (lv_at hl 0 rfl) ?_
          refine lv_iload_n hx hb dX2_wholeOf_82 rfl (lv_at hl 1 rfl) ?_
          refine vp_callSl (va_cr (va_runV (As := [.int (bI (R_neg tx)), .long (R_norm fx), .int (63 - (R_exp tx fx))]) (rest := [.int (bI (R_neg tx)), .ref h]) ⟨hx, hb, hml, hown, hts⟩ (c_X2_rounded l D h q1 q2 cw td an qb pa (R_neg tx) (R_norm fx) (63 - (R_exp tx fx))) (cwV 3 hts gX2_wholeOf_X2_rounded rfl rfl rfl kV_X2_rounded ⟨Nat.le_of_ble_eq_true rfl, Nat.le_of_ble_eq_true rfl⟩) ⟨PB.blind, va_recv hK hP (ci := 1) (q0 := 0) rfl rfl, PB.pre (hK.sub [] rfl) (hP.sub [0] rfl)⟩ rfl rfl hl.1 rfl (lv_room (Nat.le_of_ble_eq_true rfl)) dX2_wholeOf_83 ⟨Nat.le_of_ble_eq_true rfl, Nat.le_of_ble_eq_true rfl⟩)) (fun r9 e9 => ?_)
          rw [e9]
          refine lv_iconst (v := 0) hx hb dX2_wholeOf_86 (by decide) ?_
          have hFc := va_free (wc := cRS h q1 q2 cA cB tf ff cw td an qb pa) hD hS hA [0, 1, 2] rfl
          refine va_callr (va_runV (As := [.int (bI (R_neg tx)), .long (R_rounded cw (R_neg tx) (R_norm fx) (63 - (R_exp tx fx))), .int 0]) (rest := []) ⟨hx, hb, hml, hown, hts⟩ (c_X2_make l D ad h q1 q2 cA cB tf ff cw td an qb pa (R_neg tx) (R_rounded cw (R_neg tx) (R_norm fx) (63 - (R_exp tx fx))) 0 s.heap.size) (cwV 3 hts gX2_wholeOf_X2_make rfl rfl rfl kV_X2_make ⟨Nat.le_of_ble_eq_true rfl, Nat.le_of_ble_eq_true rfl⟩) ⟨MRB.blind, va_recv hK hP (ci := 1) (q0 := 0) rfl rfl, MRB.pre hK hP hD vP_nil ap_nil hE hS hFc⟩ rfl rfl hl.1 rfl (lv_room (Nat.le_of_ble_eq_true rfl)) dX2_wholeOf_87 ⟨Nat.le_of_ble_eq_true rfl, Nat.le_of_ble_eq_true rfl⟩) hS (fun q _ h9 => hFc q h9) hFc (fun u9 y_10 t9 H locs ht hvm hw hB hz1 hk1 hS => ?_)
          obtain ⟨vt_11, vf_12, otd_13, e_14, hP, hD9, hx_y_10, nx_y_10⟩ := hB
          rw [ht] at hP hx_y_10
          have hD : va_D A (cRS h q1 q2 cA cB tf ff cw otd_13 an qb pa) := hD9.weaken (fun _ _ _ h => hFc _ h)
          have hw : R_wholeOf cw td tx fx = (vt_11, vf_12, otd_13) := by unfold R_wholeOf; rw [if_pos c_1, if_pos c_2, if_pos c_8, if_pos c_9, e_14]; try dsimp only; try rfl
          exact W.aret hx hb hr (Or.inl ⟨_, rfl⟩) (Or.inr ⟨_, rfl⟩) (fun t9 ht hW => ⟨⟨(), y_10, rfl, trivial, ⟨vt_11, vf_12, otd_13, hw, by rw [ht]; exact hP, hD, by rw [ht]; exact hx_y_10, nx_y_10⟩⟩, hS.F ht⟩) hS.2.2 dX2_wholeOf_90
        · refine lv_aload_n hx hb dX2_wholeOf_65 rfl (lv_at hl 3 rfl) ?_
          refine lv_dup hx hb dX2_wholeOf_66 rfl ?_
          refine va_get (v := .int td) (C := RX2) (T := TX2) (N := 7) hx hb hts in_X2 hown hK hP 0 rfl rfl 3 (by decide) w_16 (fun _ h9 => h9) rfl dX2_wholeOf_67 ?_
          refine lv_bipush (v := 32) hx hb dX2_wholeOf_70 (by decide) ?_
          refine lv_ior hx hb dX2_wholeOf_72 ?_
          refine va_put (v := .int (td ||| 32)) (ty := .int) (C := RX2) (T := TX2) (N := 7) hx hb hts in_X2 tyX2 tyX2_ok nmX2 hown hK hP hD hS 0 rfl rfl 3 (by decide) w_16 (fun _ h9 => h9) rfl (tyX2_ok 3 (by decide)) rfl rfl (Nat.le_of_ble_eq_true rfl) dX2_wholeOf_73 (fun H locs hP hD hS => ?_)
          have hP : va_P D vwCl (cRS h q1 q2 cA cB tf ff cw (td ||| 32) an qb pa) H := hP
          have hD : va_D A (cRS h q1 q2 cA cB tf ff cw (td ||| 32) an qb pa) := hD
          refine lv_aload_n hx hb dX2_wholeOf_76 rfl (lv_at hl 3 rfl) ?_
          refine lv_iload_n hx hb dX2_wholeOf_77 rfl (lv_at hl 2 rfl) ?_
          refine lv_aload_n hx hb dX2_wholeOf_78 rfl (lv_at hl 3 rfl) ?_
          refine lv_iload_n hx hb dX2_wholeOf_79 rfl (lv_at hl 2 rfl) ?_
          refine lv_lload hx hb dX2_wholeOf_80 (lv_at hl 0 rfl) ?_
          refine lv_iload_n hx hb dX2_wholeOf_82 rfl (lv_at hl 1 rfl) ?_
          refine vp_callSl (va_cr (va_runV (As := [.int (bI (R_neg tx)), .long (R_norm fx), .int (63 - (R_exp tx fx))]) (rest := [.int (bI (R_neg tx)), .ref h]) ⟨hx, hb, hml, hown, hts⟩ (c_X2_rounded l D h q1 q2 cw (td ||| 32) an qb pa (R_neg tx) (R_norm fx) (63 - (R_exp tx fx))) (cwV 3 hts gX2_wholeOf_X2_rounded rfl rfl rfl kV_X2_rounded ⟨Nat.le_of_ble_eq_true rfl, Nat.le_of_ble_eq_true rfl⟩) ⟨PB.blind, va_recv hK hP (ci := 1) (q0 := 0) rfl rfl, PB.pre (hK.sub [] rfl) (hP.sub [0] rfl)⟩ rfl rfl hl.1 rfl (lv_room (Nat.le_of_ble_eq_true rfl)) dX2_wholeOf_83 ⟨Nat.le_of_ble_eq_true rfl, Nat.le_of_ble_eq_true rfl⟩)) (fun r9 e9 => ?_)
          rw [e9]
          refine lv_iconst (v := 0) hx hb dX2_wholeOf_86 (by decide) ?_
          have hFc := va_free (wc := cRS h q1 q2 cA cB tf ff cw (td ||| 32) an qb pa) hD hS hA [0, 1, 2] rfl
          refine va_callr (va_runV (As := [.int (bI (R_neg tx)), .long (R_rounded cw (R_neg tx) (R_norm fx) (63 - (R_exp tx fx))), .int 0]) (rest := []) ⟨hx, hb, hml, hown, hts⟩ (c_X2_make l D ad h q1 q2 cA cB tf ff cw (td ||| 32) an qb pa (R_neg tx) (R_rounded cw (R_neg tx) (R_norm fx) (63 - (R_exp tx fx))) 0 H.size) (cwV 3 hts gX2_wholeOf_X2_make rfl rfl rfl kV_X2_make ⟨Nat.le_of_ble_eq_true rfl, Nat.le_of_ble_eq_true rfl⟩) ⟨MRB.blind, va_recv hK hP (ci := 1) (q0 := 0) rfl rfl, MRB.pre hK hP hD vP_nil ap_nil hE hS hFc⟩ rfl rfl hl.1 rfl (lv_room (Nat.le_of_ble_eq_true rfl)) dX2_wholeOf_87 ⟨Nat.le_of_ble_eq_true rfl, Nat.le_of_ble_eq_true rfl⟩) hS (fun q _ h9 => hFc q h9) hFc (fun u9 y_15 t9 H locs ht hvm hw hB hz1 hk1 hS => ?_)
          obtain ⟨vt_16, vf_17, otd_18, e_19, hP, hD9, hx_y_15, nx_y_15⟩ := hB
          rw [ht] at hP hx_y_15
          have hD : va_D A (cRS h q1 q2 cA cB tf ff cw otd_18 an qb pa) := hD9.weaken (fun _ _ _ h => hFc _ h)
          have hw : R_wholeOf cw td tx fx = (vt_16, vf_17, otd_18) := by unfold R_wholeOf; rw [if_pos c_1, if_pos c_2, if_pos c_8, if_neg c_9, e_19]; try dsimp only; try rfl
          exact W.aret hx hb hr (Or.inl ⟨_, rfl⟩) (Or.inr ⟨_, rfl⟩) (fun t9 ht hW => ⟨⟨(), y_15, rfl, trivial, ⟨vt_16, vf_17, otd_18, hw, by rw [ht]; exact hP, hD, by rw [ht]; exact hx_y_15, nx_y_15⟩⟩, hS.F ht⟩) hS.2.2 dX2_wholeOf_90
      · refine lv_aload_n hx hb dX2_wholeOf_36 rfl (lv_at hl 2 rfl) ?_
        refine lv_iload_n hx hb dX2_wholeOf_37 rfl (lv_at hl 1 rfl) ?_
        refine lv_aload_n hx hb dX2_wholeOf_38 rfl (lv_at hl 3 rfl) ?_
        refine va_getN (v := .long fx) (C := RX1) (T := TX1) (N := 2) hx hb hts in_X1 hown hK (ro_now hR0 hRA hS) 0 rfl rfl 1 (by decide) (va_Nw.use rfl (hE.2.1 (.fieldLinkNest RX2 150 "RealSteps$Real" "fraction" "J" RX2) (by decide))) (fun _ h9 => h9) rfl dX2_wholeOf_39 ?_
        refine lv_aload_n hx hb dX2_wholeOf_42 rfl (lv_at hl 3 rfl) ?_
        refine vp_callSi (va_cr (va_runVN (As := []) (rest := [.long fx, .int (bI (R_neg tx)), .ref h]) ⟨hx, hb, hml, hown, hts⟩ (c_X1_unit l D ad x tx fx) ⟨va_cnB 0 hts gX2_wholeOf_X1_unit_n226 rfl rfl rfl (hE.2.1 _ (List.mem_of_getElem? (i := 4) rfl)) w_2 kS_X1_unit ⟨Nat.le_of_ble_eq_true rfl, Nat.le_of_ble_eq_true rfl⟩, w_12, w_13⟩ ⟨EB.blind, va_recv hK (ro_now hR0 hRA hS) (ci := 0) (q0 := 0) rfl rfl, EB.pre (hK.sub [] rfl) ((ro_now hR0 hRA hS).sub [0] rfl) hE hS⟩ rfl rfl hl.1 rfl (lv_room (Nat.le_of_ble_eq_true rfl)) dX2_wholeOf_43 ⟨Nat.le_of_ble_eq_true rfl, Nat.le_of_ble_eq_true rfl⟩)) (fun r9 e9 => ?_)
        rw [e9]
        have hFc := va_free (wc := cRS h q1 q2 cA cB tf ff cw td an qb pa) hD hS hA [0, 1, 2] rfl
        refine va_callr (va_runV (As := [.int (bI (R_neg tx)), .long fx, .int (R_unit tx)]) (rest := []) ⟨hx, hb, hml, hown, hts⟩ (c_X2_make l D ad h q1 q2 cA cB tf ff cw td an qb pa (R_neg tx) fx (R_unit tx) s.heap.size) (cwV 3 hts gX2_wholeOf_X2_make rfl rfl rfl kV_X2_make ⟨Nat.le_of_ble_eq_true rfl, Nat.le_of_ble_eq_true rfl⟩) ⟨MRB.blind, va_recv hK hP (ci := 1) (q0 := 0) rfl rfl, MRB.pre hK hP hD vP_nil ap_nil hE hS hFc⟩ rfl rfl hl.1 rfl (lv_room (Nat.le_of_ble_eq_true rfl)) dX2_wholeOf_46 ⟨Nat.le_of_ble_eq_true rfl, Nat.le_of_ble_eq_true rfl⟩) hS (fun q _ h9 => hFc q h9) hFc (fun u9 y_20 t9 H locs ht hvm hw hB hz1 hk1 hS => ?_)
        obtain ⟨vt_21, vf_22, otd_23, e_24, hP, hD9, hx_y_20, nx_y_20⟩ := hB
        rw [ht] at hP hx_y_20
        have hD : va_D A (cRS h q1 q2 cA cB tf ff cw otd_23 an qb pa) := hD9.weaken (fun _ _ _ h => hFc _ h)
        have hw : R_wholeOf cw td tx fx = (vt_21, vf_22, otd_23) := by unfold R_wholeOf; rw [if_pos c_1, if_pos c_2, if_neg c_8, e_24]; try dsimp only; try rfl
        exact W.aret hx hb hr (Or.inl ⟨_, rfl⟩) (Or.inr ⟨_, rfl⟩) (fun t9 ht hW => ⟨⟨(), y_20, rfl, trivial, ⟨vt_21, vf_22, otd_23, hw, by rw [ht]; exact hP, hD, by rw [ht]; exact hx_y_20, nx_y_20⟩⟩, hS.F ht⟩) hS.2.2 dX2_wholeOf_49
  · refine lv_aload_n hx hb dX2_wholeOf_10 rfl (lv_at hl 1 rfl) ?_
    refine W.widen (k := 1) (n := 2) (Nat.le_of_ble_eq_true rfl) (Nat.le_of_ble_eq_true rfl) ?_
    have hw : R_wholeOf cw td tx fx = (tx, fx, td) := by unfold R_wholeOf; rw [if_neg c_1]; try rfl
    exact W.aret hx hb hr (Or.inl ⟨_, rfl⟩) (Or.inr ⟨_, rfl⟩) (fun t9 ht hW => ⟨⟨(), x, rfl, trivial, ⟨tx, fx, td, hw, by rw [ht]; exact hP, hD, by rw [ht]; exact ((ro_now hR0 hRA hS).sub [0] rfl), (hRp _ (List.mem_of_getElem? (i := 0) rfl))⟩⟩, hS.F ht⟩) hS.2.2 dX2_wholeOf_11
def R_scaled (cw : Int32) (td : Int32) (tx : Int32) (fx : Int64) (ty : Int32) (fy : Int64) : Int32 × Int64 × Int32 :=
  if bI (R_isOf tx fx 4) = 0 then (match (R_make cw td (R_neg tx) fx ((R_unit tx) + (R_cutOff ty fy))) with
    | (vt_3, vf_4, otd_5) => (vt_3, vf_4, otd_5))
  else (tx, fx, td)
theorem kS_X2_scaled : yX2_scaled.cls ≠ "java/lang/invoke/MethodHandle" ∧ yX2_scaled.cls ≠ "java/lang/invoke/VarHandle" ∧ (parseMethodDescriptor yX2_scaled.desc).map (fun d => d.parameters.length) = some 2 := by decide +kernel
theorem kV_X2_scaled : yX2_scaled.cls = RX2 ∧ yX2_scaled.cls ≠ "java/lang/invoke/MethodHandle" ∧ yX2_scaled.cls ≠ "java/lang/invoke/VarHandle" ∧ (parseMethodDescriptor yX2_scaled.desc).map (fun d => d.parameters.length) = some 2 := ⟨rfl, kS_X2_scaled⟩
set_option maxHeartbeats 4000000 in
set_option maxRecDepth 100000 in
theorem c_X2_scaled (l : Launch) (D : va_G) (ad : Nat → Nat) (h : Nat) (q1 : Nat) (q2 : Nat) (cA : ClassId) (cB : ClassId) (tf : Nat → Int32) (ff : Nat → Int64) (cw : Int32) (td : Int32) (an : Bool) (qb : Int32) (pa : Bool) (x : Nat) (tx : Int32) (fx : Int64) (y : Nat) (ty : Int32) (fy : Int64) (sz : Nat) : Met l yX2_scaled wsX2_scaled ({ frames := 7, cells := 1, slots := 2, locals := 181 } : Room) (va_Pc [.ref h, .ref x, .ref y] (MRB D ad h q1 q2 (tRS cA cB) (cRS h q1 q2 cA cB tf ff cw td an qb pa) [cReal x tx fx, cReal y ty fy] sz)) (va_Qr (fun (_ : Unit) => True) (fun _ a t => ∃ (w_t : Int32) (w_f : Int64) (w_td : Int32), R_scaled cw td tx fx ty fy = (w_t, w_f, w_td) ∧ va_P D vwCl (cRS h q1 q2 cA cB tf ff cw w_td an qb pa) t.heap ∧ va_D (va_A (cRS h q1 q2 cA cB tf ff cw td an qb pa) sz) (cRS h q1 q2 cA cB tf ff cw w_td an qb pa) ∧ va_P D vwCl [cReal a w_t w_f] t.heap ∧ ap3 a h q1 q2) (va_A (cRS h q1 q2 cA cB tf ff cw td an qb pa) sz)) 1 2 (va_A (cRS h q1 q2 cA cB tf ff cw td an qb pa) sz) := by
  refine Met.ofW (cc := cX2_scaled) (maxL := 3) (ret := (some (.object "RealSteps$Real"))) (by decide) rfl ?_
  intro p e s m args below meth c s₁ B hml hv
  obtain ⟨rfl, hsz, hP, hK, hD0, hR0, hRp, hE⟩ := hv
  have hx := B.exec
  have hb := B.bytes
  have hr := B.returns
  have hts := atoms_spec (ws := wsX2_scaled) B.pre
  have hown : s.vm.findClass RX2 = some m.cls := findClass_of_methodNamed B.named
  have hlocks := B.notSynchronized
  have w_1 := hts (.fieldLink RX2 106 "RealSteps$Kind" "INFINITE" "LRealSteps$Kind;") (by decide +kernel)
  have w_2 := hts (.initialized RX1) (by decide +kernel)
  have w_3 := hts (.instanceMethod yX1_isOf) (by decide +kernel)
  have w_4 := hts (.selects RX1 yX1_isOf yX1_isOf) (by decide +kernel)
  have w_5 := hts (.instanceMethod yX1_isNegative) (by decide +kernel)
  have w_6 := hts (.selects RX1 yX1_isNegative yX1_isNegative) (by decide +kernel)
  have in_X1 : ∀ w ∈ wsX10, w ∈ wsX2_scaled := by decide +kernel
  have w_8 := hts (.instanceMethod yX1_unit) (by decide +kernel)
  have w_9 := hts (.selects RX1 yX1_unit yX1_unit) (by decide +kernel)
  subst hsz
  have hD := hD0.self (sz := s.heap.size)
  have hRA := rs_A hR0 hRp (e1 := .inr (1, [.ref q1, .ref q2, .int cw, .int td, .int (bI an), .int qb, .int (bI pa)])) (e2 := .inl (cA, 8, .inl tf)) (e3 := .inl (cB, 8, .inr (.inl ff)))
  generalize hAe : va_A (cRS h q1 q2 cA cB tf ff cw td an qb pa) s.heap.size = A at hD hE hRA ⊢
  have hA : ∀ q : Nat, s.heap.size ≤ q → A q := fun q h => by rw [← hAe]; exact Or.inr h
  have hS : va_S A s.heap s.heap [] := va_S.rf
  have hP : va_P D vwCl (cRS h q1 q2 cA cB tf ff cw td an qb pa) s.heap := hP
  have hl := lv_entry ([.ref h, .ref x, .ref y]) (n := 3) (Nat.le_of_ble_eq_true rfl)
  rw [lg_entry_eq]
  generalize (lg_sl ([.ref h, .ref x, .ref y]) ++ List.replicate (3 - (lg_sl ([.ref h, .ref x, .ref y])).length) Slot.unset).toArray = ls at hl ⊢
  have hl : lv_has ls 3 [(0, .ref h), (1, .ref x), (2, .ref y)] := hl
  refine lv_aload_n hx hb dX2_scaled_0 rfl (lv_at hl 1 rfl) ?_
  refine va_gets (v := .ref (ad 4)) hx hb (hE.1.1 4 (by decide)).1 hS hown w_1 (fun _ h9 => h9) dX2_scaled_1 ?_
  refine vp_callSi (va_cr (va_runVN (As := [.ref (ad 4)]) (rest := []) ⟨hx, hb, hml, hown, hts⟩ (c_X1_isOf l D ad x tx fx 4 (by decide)) ⟨va_cnB 1 hts gX2_scaled_X1_isOf_n112 rfl rfl rfl (hE.2.1 _ (List.mem_of_getElem? (i := 0) rfl)) w_2 kS_X1_isOf ⟨Nat.le_of_ble_eq_true rfl, Nat.le_of_ble_eq_true rfl⟩, w_3, w_4⟩ ⟨EB.blind, va_recv hK (ro_now hR0 hRA hS) (ci := 0) (q0 := 0) rfl rfl, EB.pre (hK.sub [] rfl) ((ro_now hR0 hRA hS).sub [0] rfl) hE hS⟩ rfl rfl hl.1 rfl (lv_room (Nat.le_of_ble_eq_true rfl)) dX2_scaled_4 ⟨Nat.le_of_ble_eq_true rfl, Nat.le_of_ble_eq_true rfl⟩)) (fun r9 e9 => ?_)
  rw [e9]
  refine lv_if_eq (tgt := 12) hx hb dX2_scaled_7 (by decide) (fun c_1 => ?_) (fun c_1 => ?_)
  · refine lv_aload_n hx hb dX2_scaled_12 rfl (lv_at hl 0 rfl) ?_
    refine lv_aload_n hx hb dX2_scaled_13 rfl (lv_at hl 1 rfl) ?_
    refine vp_callSi (va_cr (va_runVN (As := []) (rest := [.ref h]) ⟨hx, hb, hml, hown, hts⟩ (c_X1_isNegative l D ad x tx fx) ⟨va_cnB 0 hts gX2_scaled_X1_isNegative_n137 rfl rfl rfl (hE.2.1 _ (List.mem_of_getElem? (i := 2) rfl)) w_2 kS_X1_isNegative ⟨Nat.le_of_ble_eq_true rfl, Nat.le_of_ble_eq_true rfl⟩, w_5, w_6⟩ ⟨EB.blind, va_recv hK (ro_now hR0 hRA hS) (ci := 0) (q0 := 0) rfl rfl, EB.pre (hK.sub [] rfl) ((ro_now hR0 hRA hS).sub [0] rfl) hE hS⟩ rfl rfl hl.1 rfl (lv_room (Nat.le_of_ble_eq_true rfl)) dX2_scaled_14 ⟨Nat.le_of_ble_eq_true rfl, Nat.le_of_ble_eq_true rfl⟩)) (fun r9 e9 => ?_)
    rw [e9]
    refine lv_aload_n hx hb dX2_scaled_17 rfl (lv_at hl 1 rfl) ?_
    refine va_getN (v := .long fx) (C := RX1) (T := TX1) (N := 2) hx hb hts in_X1 hown hK (ro_now hR0 hRA hS) 0 rfl rfl 1 (by decide) (va_Nw.use rfl (hE.2.1 (.fieldLinkNest RX2 150 "RealSteps$Real" "fraction" "J" RX2) (by decide))) (fun _ h9 => h9) rfl dX2_scaled_18 ?_
    refine lv_aload_n hx hb dX2_scaled_21 rfl (lv_at hl 1 rfl) ?_
    refine vp_callSi (va_cr (va_runVN (As := []) (rest := [.long fx, .int (bI (R_neg tx)), .ref h]) ⟨hx, hb, hml, hown, hts⟩ (c_X1_unit l D ad x tx fx) ⟨va_cnB 0 hts gX2_scaled_X1_unit_n226 rfl rfl rfl (hE.2.1 _ (List.mem_of_getElem? (i := 4) rfl)) w_2 kS_X1_unit ⟨Nat.le_of_ble_eq_true rfl, Nat.le_of_ble_eq_true rfl⟩, w_8, w_9⟩ ⟨EB.blind, va_recv hK (ro_now hR0 hRA hS) (ci := 0) (q0 := 0) rfl rfl, EB.pre (hK.sub [] rfl) ((ro_now hR0 hRA hS).sub [0] rfl) hE hS⟩ rfl rfl hl.1 rfl (lv_room (Nat.le_of_ble_eq_true rfl)) dX2_scaled_22 ⟨Nat.le_of_ble_eq_true rfl, Nat.le_of_ble_eq_true rfl⟩)) (fun r9 e9 => ?_)
    rw [e9]
    refine lv_aload_n hx hb dX2_scaled_25 rfl (lv_at hl 2 rfl) ?_
    refine vp_callSi (va_cr (va_runS (As := [.ref y]) (rest := [.int (R_unit tx), .long fx, .int (bI (R_neg tx)), .ref h]) ⟨hx, hb, hml, hown, hts⟩ (c_X2_cutOff l D ad y ty fy) (va_cwS 1 hts gX2_scaled_X2_cutOff rfl rfl rfl kS_X2_cutOff ⟨Nat.le_of_ble_eq_true rfl, Nat.le_of_ble_eq_true rfl⟩) ⟨EB.blind, EB.pre (hK.sub [] rfl) ((ro_now hR0 hRA hS).sub [1] rfl) hE hS⟩ rfl rfl hl.1 rfl (lv_room (Nat.le_of_ble_eq_true rfl)) dX2_scaled_26 ⟨Nat.le_of_ble_eq_true rfl, Nat.le_of_ble_eq_true rfl⟩)) (fun r9 e9 => ?_)
    rw [e9]
    refine lv_iadd hx hb dX2_scaled_29 ?_
    have hFc := va_free (wc := cRS h q1 q2 cA cB tf ff cw td an qb pa) hD hS hA [0, 1, 2] rfl
    refine va_callr (va_runV (As := [.int (bI (R_neg tx)), .long fx, .int ((R_unit tx) + (R_cutOff ty fy))]) (rest := []) ⟨hx, hb, hml, hown, hts⟩ (c_X2_make l D ad h q1 q2 cA cB tf ff cw td an qb pa (R_neg tx) fx ((R_unit tx) + (R_cutOff ty fy)) s.heap.size) (cwV 3 hts gX2_scaled_X2_make rfl rfl rfl kV_X2_make ⟨Nat.le_of_ble_eq_true rfl, Nat.le_of_ble_eq_true rfl⟩) ⟨MRB.blind, va_recv hK hP (ci := 1) (q0 := 0) rfl rfl, MRB.pre hK hP hD vP_nil ap_nil hE hS hFc⟩ rfl rfl hl.1 rfl (lv_room (Nat.le_of_ble_eq_true rfl)) dX2_scaled_30 ⟨Nat.le_of_ble_eq_true rfl, Nat.le_of_ble_eq_true rfl⟩) hS (fun q _ h9 => hFc q h9) hFc (fun u9 y_2 t9 H locs ht hvm hw hB hz1 hk1 hS => ?_)
    obtain ⟨vt_3, vf_4, otd_5, e_6, hP, hD9, hx_y_2, nx_y_2⟩ := hB
    rw [ht] at hP hx_y_2
    have hD : va_D A (cRS h q1 q2 cA cB tf ff cw otd_5 an qb pa) := hD9.weaken (fun _ _ _ h => hFc _ h)
    have hw : R_scaled cw td tx fx ty fy = (vt_3, vf_4, otd_5) := by unfold R_scaled; rw [if_pos c_1, e_6]; try dsimp only; try rfl
    exact W.aret hx hb hr (Or.inl ⟨_, rfl⟩) (Or.inr ⟨_, rfl⟩) (fun t9 ht hW => ⟨⟨(), y_2, rfl, trivial, ⟨vt_3, vf_4, otd_5, hw, by rw [ht]; exact hP, hD, by rw [ht]; exact hx_y_2, nx_y_2⟩⟩, hS.F ht⟩) hS.2.2 dX2_scaled_33
  · refine lv_aload_n hx hb dX2_scaled_10 rfl (lv_at hl 1 rfl) ?_
    refine W.widen (k := 1) (n := 2) (Nat.le_of_ble_eq_true rfl) (Nat.le_of_ble_eq_true rfl) ?_
    have hw : R_scaled cw td tx fx ty fy = (tx, fx, td) := by unfold R_scaled; rw [if_neg c_1]; try rfl
    exact W.aret hx hb hr (Or.inl ⟨_, rfl⟩) (Or.inr ⟨_, rfl⟩) (fun t9 ht hW => ⟨⟨(), x, rfl, trivial, ⟨tx, fx, td, hw, by rw [ht]; exact hP, hD, by rw [ht]; exact ((ro_now hR0 hRA hS).sub [0] rfl), (hRp _ (List.mem_of_getElem? (i := 0) rfl))⟩⟩, hS.F ht⟩) hS.2.2 dX2_scaled_11
def R_powerOf (cw : Int32) (td : Int32) (tx : Int32) (fx : Int64) : Int32 × Int64 × Int32 :=
  if bI (R_isOf tx fx 4) = 0 then (if bI (R_nought tx fx) = 0 then (match (R_make cw td (if 0 ≤ (R_exp tx fx) then false else true) (((if 0 ≤ (R_exp tx fx) then (R_exp tx fx) else 0 - (R_exp tx fx))).toInt64) 0) with
      | (vt_5, vf_6, otd_7) => (vt_5, vf_6, otd_7))
    else (match (R_infinite true) with
      | (vt_10, vf_11) => (vt_10, vf_11, td)))
  else (match (R_infinite false) with
    | (vt_14, vf_15) => (vt_14, vf_15, td))
theorem kS_X2_powerOf : yX2_powerOf.cls ≠ "java/lang/invoke/MethodHandle" ∧ yX2_powerOf.cls ≠ "java/lang/invoke/VarHandle" ∧ (parseMethodDescriptor yX2_powerOf.desc).map (fun d => d.parameters.length) = some 1 := by decide +kernel
theorem kV_X2_powerOf : yX2_powerOf.cls = RX2 ∧ yX2_powerOf.cls ≠ "java/lang/invoke/MethodHandle" ∧ yX2_powerOf.cls ≠ "java/lang/invoke/VarHandle" ∧ (parseMethodDescriptor yX2_powerOf.desc).map (fun d => d.parameters.length) = some 1 := ⟨rfl, kS_X2_powerOf⟩
set_option maxHeartbeats 4000000 in
set_option maxRecDepth 100000 in
theorem c_X2_powerOf (l : Launch) (D : va_G) (ad : Nat → Nat) (h : Nat) (q1 : Nat) (q2 : Nat) (cA : ClassId) (cB : ClassId) (tf : Nat → Int32) (ff : Nat → Int64) (cw : Int32) (td : Int32) (an : Bool) (qb : Int32) (pa : Bool) (x : Nat) (tx : Int32) (fx : Int64) (sz : Nat) : Met l yX2_powerOf wsX2_powerOf ({ frames := 7, cells := 1, slots := 2, locals := 181 } : Room) (va_Pc [.ref h, .ref x] (MRB D ad h q1 q2 (tRS cA cB) (cRS h q1 q2 cA cB tf ff cw td an qb pa) [cReal x tx fx] sz)) (va_Qr (fun (_ : Unit) => True) (fun _ a t => ∃ (w_t : Int32) (w_f : Int64) (w_td : Int32), R_powerOf cw td tx fx = (w_t, w_f, w_td) ∧ va_P D vwCl (cRS h q1 q2 cA cB tf ff cw w_td an qb pa) t.heap ∧ va_D (va_A (cRS h q1 q2 cA cB tf ff cw td an qb pa) sz) (cRS h q1 q2 cA cB tf ff cw w_td an qb pa) ∧ va_P D vwCl [cReal a w_t w_f] t.heap ∧ ap3 a h q1 q2) (va_A (cRS h q1 q2 cA cB tf ff cw td an qb pa) sz)) 1 2 (va_A (cRS h q1 q2 cA cB tf ff cw td an qb pa) sz) := by
  refine Met.ofW (cc := cX2_powerOf) (maxL := 3) (ret := (some (.object "RealSteps$Real"))) (by decide) rfl ?_
  intro p e s m args below meth c s₁ B hml hv
  obtain ⟨rfl, hsz, hP, hK, hD0, hR0, hRp, hE⟩ := hv
  have hx := B.exec
  have hb := B.bytes
  have hr := B.returns
  have hts := atoms_spec (ws := wsX2_powerOf) B.pre
  have hown : s.vm.findClass RX2 = some m.cls := findClass_of_methodNamed B.named
  have hlocks := B.notSynchronized
  have w_1 := hts (.fieldLink RX2 106 "RealSteps$Kind" "INFINITE" "LRealSteps$Kind;") (by decide +kernel)
  have w_2 := hts (.initialized RX1) (by decide +kernel)
  have w_3 := hts (.instanceMethod yX1_isOf) (by decide +kernel)
  have w_4 := hts (.selects RX1 yX1_isOf yX1_isOf) (by decide +kernel)
  have w_5 := hts (.instanceMethod yX1_isNought) (by decide +kernel)
  have w_6 := hts (.selects RX1 yX1_isNought yX1_isNought) (by decide +kernel)
  have w_7 := hts (.instanceMethod yX1_exponent) (by decide +kernel)
  have w_8 := hts (.selects RX1 yX1_exponent yX1_exponent) (by decide +kernel)
  have w_9 := hts (.methodLink RX2 241 Lib.Math.abs.name) (by decide +kernel)
  have w_10 := hts (.static Lib.Math.abs.name) (by decide +kernel)
  have w_11 := hts (.initialized "java/lang/Math") (by decide +kernel)
  have w_12 := hts (.code Lib.Math.abs.name Lib.Math.abs.code 1 (some .int)) (by decide +kernel)
  subst hsz
  have hD := hD0.self (sz := s.heap.size)
  have hRA := rs_A hR0 hRp (e1 := .inr (1, [.ref q1, .ref q2, .int cw, .int td, .int (bI an), .int qb, .int (bI pa)])) (e2 := .inl (cA, 8, .inl tf)) (e3 := .inl (cB, 8, .inr (.inl ff)))
  generalize hAe : va_A (cRS h q1 q2 cA cB tf ff cw td an qb pa) s.heap.size = A at hD hE hRA ⊢
  have hA : ∀ q : Nat, s.heap.size ≤ q → A q := fun q h => by rw [← hAe]; exact Or.inr h
  have hS : va_S A s.heap s.heap [] := va_S.rf
  have hP : va_P D vwCl (cRS h q1 q2 cA cB tf ff cw td an qb pa) s.heap := hP
  have hl := lv_entry ([.ref h, .ref x]) (n := 3) (Nat.le_of_ble_eq_true rfl)
  rw [lg_entry_eq]
  generalize (lg_sl ([.ref h, .ref x]) ++ List.replicate (3 - (lg_sl ([.ref h, .ref x])).length) Slot.unset).toArray = ls at hl ⊢
  have hl : lv_has ls 3 [(0, .ref h), (1, .ref x)] := hl
  refine lv_aload_n hx hb dX2_powerOf_0 rfl (lv_at hl 1 rfl) ?_
  refine va_gets (v := .ref (ad 4)) hx hb (hE.1.1 4 (by decide)).1 hS hown w_1 (fun _ h9 => h9) dX2_powerOf_1 ?_
  refine vp_callSi (va_cr (va_runVN (As := [.ref (ad 4)]) (rest := []) ⟨hx, hb, hml, hown, hts⟩ (c_X1_isOf l D ad x tx fx 4 (by decide)) ⟨va_cnB 1 hts gX2_powerOf_X1_isOf_n112 rfl rfl rfl (hE.2.1 _ (List.mem_of_getElem? (i := 0) rfl)) w_2 kS_X1_isOf ⟨Nat.le_of_ble_eq_true rfl, Nat.le_of_ble_eq_true rfl⟩, w_3, w_4⟩ ⟨EB.blind, va_recv hK (ro_now hR0 hRA hS) (ci := 0) (q0 := 0) rfl rfl, EB.pre (hK.sub [] rfl) ((ro_now hR0 hRA hS).sub [0] rfl) hE hS⟩ rfl rfl hl.1 rfl (lv_room (Nat.le_of_ble_eq_true rfl)) dX2_powerOf_4 ⟨Nat.le_of_ble_eq_true rfl, Nat.le_of_ble_eq_true rfl⟩)) (fun r9 e9 => ?_)
  rw [e9]
  refine lv_if_eq (tgt := 15) hx hb dX2_powerOf_7 (by decide) (fun c_1 => ?_) (fun c_1 => ?_)
  · refine lv_aload_n hx hb dX2_powerOf_15 rfl (lv_at hl 1 rfl) ?_
    refine vp_callSi (va_cr (va_runVN (As := []) (rest := []) ⟨hx, hb, hml, hown, hts⟩ (c_X1_isNought l D ad x tx fx) ⟨va_cnB 0 hts gX2_powerOf_X1_isNought_n96 rfl rfl rfl (hE.2.1 _ (List.mem_of_getElem? (i := 8) rfl)) w_2 kS_X1_isNought ⟨Nat.le_of_ble_eq_true rfl, Nat.le_of_ble_eq_true rfl⟩, w_5, w_6⟩ ⟨EB.blind, va_recv hK (ro_now hR0 hRA hS) (ci := 0) (q0 := 0) rfl rfl, EB.pre (hK.sub [] rfl) ((ro_now hR0 hRA hS).sub [0] rfl) hE hS⟩ rfl rfl hl.1 rfl (lv_room (Nat.le_of_ble_eq_true rfl)) dX2_powerOf_16 ⟨Nat.le_of_ble_eq_true rfl, Nat.le_of_ble_eq_true rfl⟩)) (fun r9 e9 => ?_)
    rw [e9]
    refine lv_if_eq (tgt := 27) hx hb dX2_powerOf_19 (by decide) (fun c_2 => ?_) (fun c_2 => ?_)
    · refine lv_aload_n hx hb dX2_powerOf_27 rfl (lv_at hl 1 rfl) ?_
      refine vp_callSi (va_cr (va_runVN (As := []) (rest := []) ⟨hx, hb, hml, hown, hts⟩ (c_X1_exponent l D ad x tx fx) ⟨va_cnB 0 hts gX2_powerOf_X1_exponent_n223 rfl rfl rfl (hE.2.1 _ (List.mem_of_getElem? (i := 3) rfl)) w_2 kS_X1_exponent ⟨Nat.le_of_ble_eq_true rfl, Nat.le_of_ble_eq_true rfl⟩, w_7, w_8⟩ ⟨EB.blind, va_recv hK (ro_now hR0 hRA hS) (ci := 0) (q0 := 0) rfl rfl, EB.pre (hK.sub [] rfl) ((ro_now hR0 hRA hS).sub [0] rfl) hE hS⟩ rfl rfl hl.1 rfl (lv_room (Nat.le_of_ble_eq_true rfl)) dX2_powerOf_28 ⟨Nat.le_of_ble_eq_true rfl, Nat.le_of_ble_eq_true rfl⟩)) (fun r9 e9 => ?_)
      rw [e9]
      refine lv_istore_n (lv' := [(2, .int (R_exp tx fx)), (0, .ref h), (1, .ref x)]) hx hb dX2_powerOf_31 rfl hl (by decide) rfl (fun ls hl => ?_)
      refine lv_aload_n hx hb dX2_powerOf_32 rfl (lv_at hl 1 rfl) ?_
      refine lv_iload_n hx hb dX2_powerOf_33 rfl (lv_at hl 0 rfl) ?_
      refine q_cut (v := bI (if 0 ≤ (R_exp tx fx) then false else true)) (pcJ := 42) (rest := [.ref h]) (fun J => ?_) ?_
      · refine lv_if_ge (tgt := 41) hx hb dX2_powerOf_34 (by decide) (fun c_3 => ?_) (fun c_3 => ?_)
        · refine lv_iconst (v := 0) hx hb dX2_powerOf_41 (by decide) ?_
          exact J _ (by rw [if_pos c_3]; try rfl)
        · refine lv_iconst (v := 1) hx hb dX2_powerOf_37 (by decide) ?_
          refine lv_goto (tgt := 42) hx hb dX2_powerOf_38 (by decide) ?_
          exact J _ (by rw [if_neg c_3]; try rfl)
      refine lv_iload_n hx hb dX2_powerOf_42 rfl (lv_at hl 0 rfl) ?_
      refine va_mabs hx hb (hml.trans hl.1.symm) hown w_9 w_10 w_11 w_12 (Nat.le_of_ble_eq_true rfl) (Nat.le_of_ble_eq_true rfl) (Nat.le_of_ble_eq_true rfl) (Nat.le_of_ble_eq_true rfl) dX2_powerOf_43 ?_
      refine lv_i2l (v := ((if 0 ≤ (R_exp tx fx) then (R_exp tx fx) else 0 - (R_exp tx fx))).toInt64) hx hb dX2_powerOf_46 rfl ?_
      refine lv_iconst (v := 0) hx hb dX2_powerOf_47 (by decide) ?_
      have hFc := va_free (wc := cRS h q1 q2 cA cB tf ff cw td an qb pa) hD hS hA [0, 1, 2] rfl
      refine va_callr (va_runV (As := [.int (bI (if 0 ≤ (R_exp tx fx) then false else true)), .long (((if 0 ≤ (R_exp tx fx) then (R_exp tx fx) else 0 - (R_exp tx fx))).toInt64), .int 0]) (rest := []) ⟨hx, hb, hml, hown, hts⟩ (c_X2_make l D ad h q1 q2 cA cB tf ff cw td an qb pa (if 0 ≤ (R_exp tx fx) then false else true) (((if 0 ≤ (R_exp tx fx) then (R_exp tx fx) else 0 - (R_exp tx fx))).toInt64) 0 s.heap.size) (cwV 3 hts gX2_powerOf_X2_make rfl rfl rfl kV_X2_make ⟨Nat.le_of_ble_eq_true rfl, Nat.le_of_ble_eq_true rfl⟩) ⟨MRB.blind, va_recv hK hP (ci := 1) (q0 := 0) rfl rfl, MRB.pre hK hP hD vP_nil ap_nil hE hS hFc⟩ rfl rfl hl.1 rfl (lv_room (Nat.le_of_ble_eq_true rfl)) dX2_powerOf_48 ⟨Nat.le_of_ble_eq_true rfl, Nat.le_of_ble_eq_true rfl⟩) hS (fun q _ h9 => hFc q h9) hFc (fun u9 y_4 t9 H locs ht hvm hw hB hz1 hk1 hS => ?_)
      obtain ⟨vt_5, vf_6, otd_7, e_8, hP, hD9, hx_y_4, nx_y_4⟩ := hB
      rw [ht] at hP hx_y_4
      have hD : va_D A (cRS h q1 q2 cA cB tf ff cw otd_7 an qb pa) := hD9.weaken (fun _ _ _ h => hFc _ h)
      have hw : R_powerOf cw td tx fx = (vt_5, vf_6, otd_7) := by unfold R_powerOf; rw [if_pos c_1, if_pos c_2, e_8]; try dsimp only; try rfl
      exact W.aret hx hb hr (Or.inl ⟨_, rfl⟩) (Or.inr ⟨_, rfl⟩) (fun t9 ht hW => ⟨⟨(), y_4, rfl, trivial, ⟨vt_5, vf_6, otd_7, hw, by rw [ht]; exact hP, hD, by rw [ht]; exact hx_y_4, nx_y_4⟩⟩, hS.F ht⟩) hS.2.2 dX2_powerOf_51
    · refine lv_iconst (v := 1) hx hb dX2_powerOf_22 (by decide) ?_
      have hFc : ∀ q, va_A [] s.heap.size q → A q := va_free (wc := []) hD hS hA [] rfl
      refine va_callr (va_runS (As := [.int (bI true)]) (rest := []) ⟨hx, hb, hml, hown, hts⟩ (c_X2_infinite l D ad true s.heap.size) (va_cwS 1 hts gX2_powerOf_X2_infinite rfl rfl rfl kS_X2_infinite ⟨Nat.le_of_ble_eq_true rfl, Nat.le_of_ble_eq_true rfl⟩) ⟨SCB.blind, SCB.pre hK vP_nil hE hS hFc⟩ rfl rfl hl.1 rfl (lv_room (Nat.le_of_ble_eq_true rfl)) dX2_powerOf_23 ⟨Nat.le_of_ble_eq_true rfl, Nat.le_of_ble_eq_true rfl⟩) hS (fun q _ h9 => hFc q h9) hFc (fun u9 y_9 t9 H locs ht hvm hw hB hz1 hk1 hS => ?_)
      obtain ⟨vt_10, vf_11, e_12, hx_y_9, nz_y_9⟩ := hB
      rw [ht] at hx_y_9
      have nx_y_9 : ap3 y_9 h q1 q2 := ap_new hP nz_y_9
      have hP : va_P D vwCl (cRS h q1 q2 cA cB tf ff cw td an qb pa) H := ro_make hP hk1
      have hw : R_powerOf cw td tx fx = (vt_10, vf_11, td) := by unfold R_powerOf; rw [if_pos c_1, if_neg c_2, e_12]; try dsimp only; try rfl
      exact W.aret hx hb hr (Or.inl ⟨_, rfl⟩) (Or.inr ⟨_, rfl⟩) (fun t9 ht hW => ⟨⟨(), y_9, rfl, trivial, ⟨vt_10, vf_11, td, hw, by rw [ht]; exact hP, hD, by rw [ht]; exact hx_y_9, nx_y_9⟩⟩, hS.F ht⟩) hS.2.2 dX2_powerOf_26
  · refine lv_iconst (v := 0) hx hb dX2_powerOf_10 (by decide) ?_
    have hFc : ∀ q, va_A [] s.heap.size q → A q := va_free (wc := []) hD hS hA [] rfl
    refine va_callr (va_runS (As := [.int (bI false)]) (rest := []) ⟨hx, hb, hml, hown, hts⟩ (c_X2_infinite l D ad false s.heap.size) (va_cwS 1 hts gX2_powerOf_X2_infinite rfl rfl rfl kS_X2_infinite ⟨Nat.le_of_ble_eq_true rfl, Nat.le_of_ble_eq_true rfl⟩) ⟨SCB.blind, SCB.pre hK vP_nil hE hS hFc⟩ rfl rfl hl.1 rfl (lv_room (Nat.le_of_ble_eq_true rfl)) dX2_powerOf_11 ⟨Nat.le_of_ble_eq_true rfl, Nat.le_of_ble_eq_true rfl⟩) hS (fun q _ h9 => hFc q h9) hFc (fun u9 y_13 t9 H locs ht hvm hw hB hz1 hk1 hS => ?_)
    obtain ⟨vt_14, vf_15, e_16, hx_y_13, nz_y_13⟩ := hB
    rw [ht] at hx_y_13
    have nx_y_13 : ap3 y_13 h q1 q2 := ap_new hP nz_y_13
    have hP : va_P D vwCl (cRS h q1 q2 cA cB tf ff cw td an qb pa) H := ro_make hP hk1
    have hw : R_powerOf cw td tx fx = (vt_14, vf_15, td) := by unfold R_powerOf; rw [if_neg c_1, e_16]; try dsimp only; try rfl
    exact W.aret hx hb hr (Or.inl ⟨_, rfl⟩) (Or.inr ⟨_, rfl⟩) (fun t9 ht hW => ⟨⟨(), y_13, rfl, trivial, ⟨vt_14, vf_15, td, hw, by rw [ht]; exact hP, hD, by rw [ht]; exact hx_y_13, nx_y_13⟩⟩, hS.F ht⟩) hS.2.2 dX2_powerOf_14
def R_fractionOf (cw : Int32) (td : Int32) (tx : Int32) (fx : Int64) : Int32 × Int64 × Int32 :=
  if bI (R_isOf tx fx 4) = 0 then (match (R_make cw td (R_neg tx) (R_norm fx) (-63)) with
    | (vt_3, vf_4, otd_5) => (vt_3, vf_4, otd_5))
  else (tx, fx, td)
theorem kS_X2_fractionOf : yX2_fractionOf.cls ≠ "java/lang/invoke/MethodHandle" ∧ yX2_fractionOf.cls ≠ "java/lang/invoke/VarHandle" ∧ (parseMethodDescriptor yX2_fractionOf.desc).map (fun d => d.parameters.length) = some 1 := by decide +kernel
theorem kV_X2_fractionOf : yX2_fractionOf.cls = RX2 ∧ yX2_fractionOf.cls ≠ "java/lang/invoke/MethodHandle" ∧ yX2_fractionOf.cls ≠ "java/lang/invoke/VarHandle" ∧ (parseMethodDescriptor yX2_fractionOf.desc).map (fun d => d.parameters.length) = some 1 := ⟨rfl, kS_X2_fractionOf⟩
set_option maxHeartbeats 4000000 in
set_option maxRecDepth 100000 in
theorem c_X2_fractionOf (l : Launch) (D : va_G) (ad : Nat → Nat) (h : Nat) (q1 : Nat) (q2 : Nat) (cA : ClassId) (cB : ClassId) (tf : Nat → Int32) (ff : Nat → Int64) (cw : Int32) (td : Int32) (an : Bool) (qb : Int32) (pa : Bool) (x : Nat) (tx : Int32) (fx : Int64) (sz : Nat) : Met l yX2_fractionOf wsX2_fractionOf ({ frames := 7, cells := 1, slots := 2, locals := 181 } : Room) (va_Pc [.ref h, .ref x] (MRB D ad h q1 q2 (tRS cA cB) (cRS h q1 q2 cA cB tf ff cw td an qb pa) [cReal x tx fx] sz)) (va_Qr (fun (_ : Unit) => True) (fun _ a t => ∃ (w_t : Int32) (w_f : Int64) (w_td : Int32), R_fractionOf cw td tx fx = (w_t, w_f, w_td) ∧ va_P D vwCl (cRS h q1 q2 cA cB tf ff cw w_td an qb pa) t.heap ∧ va_D (va_A (cRS h q1 q2 cA cB tf ff cw td an qb pa) sz) (cRS h q1 q2 cA cB tf ff cw w_td an qb pa) ∧ va_P D vwCl [cReal a w_t w_f] t.heap ∧ ap3 a h q1 q2) (va_A (cRS h q1 q2 cA cB tf ff cw td an qb pa) sz)) 1 2 (va_A (cRS h q1 q2 cA cB tf ff cw td an qb pa) sz) := by
  refine Met.ofW (cc := cX2_fractionOf) (maxL := 2) (ret := (some (.object "RealSteps$Real"))) (by decide) rfl ?_
  intro p e s m args below meth c s₁ B hml hv
  obtain ⟨rfl, hsz, hP, hK, hD0, hR0, hRp, hE⟩ := hv
  have hx := B.exec
  have hb := B.bytes
  have hr := B.returns
  have hts := atoms_spec (ws := wsX2_fractionOf) B.pre
  have hown : s.vm.findClass RX2 = some m.cls := findClass_of_methodNamed B.named
  have hlocks := B.notSynchronized
  have w_1 := hts (.fieldLink RX2 106 "RealSteps$Kind" "INFINITE" "LRealSteps$Kind;") (by decide +kernel)
  have w_2 := hts (.initialized RX1) (by decide +kernel)
  have w_3 := hts (.instanceMethod yX1_isOf) (by decide +kernel)
  have w_4 := hts (.selects RX1 yX1_isOf yX1_isOf) (by decide +kernel)
  have w_5 := hts (.instanceMethod yX1_isNegative) (by decide +kernel)
  have w_6 := hts (.selects RX1 yX1_isNegative yX1_isNegative) (by decide +kernel)
  have w_7 := hts (.instanceMethod yX1_normalised) (by decide +kernel)
  have w_8 := hts (.selects RX1 yX1_normalised yX1_normalised) (by decide +kernel)
  subst hsz
  have hD := hD0.self (sz := s.heap.size)
  have hRA := rs_A hR0 hRp (e1 := .inr (1, [.ref q1, .ref q2, .int cw, .int td, .int (bI an), .int qb, .int (bI pa)])) (e2 := .inl (cA, 8, .inl tf)) (e3 := .inl (cB, 8, .inr (.inl ff)))
  generalize hAe : va_A (cRS h q1 q2 cA cB tf ff cw td an qb pa) s.heap.size = A at hD hE hRA ⊢
  have hA : ∀ q : Nat, s.heap.size ≤ q → A q := fun q h => by rw [← hAe]; exact Or.inr h
  have hS : va_S A s.heap s.heap [] := va_S.rf
  have hP : va_P D vwCl (cRS h q1 q2 cA cB tf ff cw td an qb pa) s.heap := hP
  have hl := lv_entry ([.ref h, .ref x]) (n := 2) (Nat.le_of_ble_eq_true rfl)
  rw [lg_entry_eq]
  generalize (lg_sl ([.ref h, .ref x]) ++ List.replicate (2 - (lg_sl ([.ref h, .ref x])).length) Slot.unset).toArray = ls at hl ⊢
  have hl : lv_has ls 2 [(0, .ref h), (1, .ref x)] := hl
  refine lv_aload_n hx hb dX2_fractionOf_0 rfl (lv_at hl 1 rfl) ?_
  refine va_gets (v := .ref (ad 4)) hx hb (hE.1.1 4 (by decide)).1 hS hown w_1 (fun _ h9 => h9) dX2_fractionOf_1 ?_
  refine vp_callSi (va_cr (va_runVN (As := [.ref (ad 4)]) (rest := []) ⟨hx, hb, hml, hown, hts⟩ (c_X1_isOf l D ad x tx fx 4 (by decide)) ⟨va_cnB 1 hts gX2_fractionOf_X1_isOf_n112 rfl rfl rfl (hE.2.1 _ (List.mem_of_getElem? (i := 0) rfl)) w_2 kS_X1_isOf ⟨Nat.le_of_ble_eq_true rfl, Nat.le_of_ble_eq_true rfl⟩, w_3, w_4⟩ ⟨EB.blind, va_recv hK (ro_now hR0 hRA hS) (ci := 0) (q0 := 0) rfl rfl, EB.pre (hK.sub [] rfl) ((ro_now hR0 hRA hS).sub [0] rfl) hE hS⟩ rfl rfl hl.1 rfl (lv_room (Nat.le_of_ble_eq_true rfl)) dX2_fractionOf_4 ⟨Nat.le_of_ble_eq_true rfl, Nat.le_of_ble_eq_true rfl⟩)) (fun r9 e9 => ?_)
  rw [e9]
  refine lv_if_eq (tgt := 12) hx hb dX2_fractionOf_7 (by decide) (fun c_1 => ?_) (fun c_1 => ?_)
  · refine lv_aload_n hx hb dX2_fractionOf_12 rfl (lv_at hl 0 rfl) ?_
    refine lv_aload_n hx hb dX2_fractionOf_13 rfl (lv_at hl 1 rfl) ?_
    refine vp_callSi (va_cr (va_runVN (As := []) (rest := [.ref h]) ⟨hx, hb, hml, hown, hts⟩ (c_X1_isNegative l D ad x tx fx) ⟨va_cnB 0 hts gX2_fractionOf_X1_isNegative_n137 rfl rfl rfl (hE.2.1 _ (List.mem_of_getElem? (i := 2) rfl)) w_2 kS_X1_isNegative ⟨Nat.le_of_ble_eq_true rfl, Nat.le_of_ble_eq_true rfl⟩, w_5, w_6⟩ ⟨EB.blind, va_recv hK (ro_now hR0 hRA hS) (ci := 0) (q0 := 0) rfl rfl, EB.pre (hK.sub [] rfl) ((ro_now hR0 hRA hS).sub [0] rfl) hE hS⟩ rfl rfl hl.1 rfl (lv_room (Nat.le_of_ble_eq_true rfl)) dX2_fractionOf_14 ⟨Nat.le_of_ble_eq_true rfl, Nat.le_of_ble_eq_true rfl⟩)) (fun r9 e9 => ?_)
    rw [e9]
    refine lv_aload_n hx hb dX2_fractionOf_17 rfl (lv_at hl 1 rfl) ?_
    refine vp_callSl (va_cr (va_runVN (As := []) (rest := [.int (bI (R_neg tx)), .ref h]) ⟨hx, hb, hml, hown, hts⟩ (c_X1_normalised l D ad x tx fx) ⟨va_cnB 0 hts gX2_fractionOf_X1_normalised_n233 rfl rfl rfl (hE.2.1 _ (List.mem_of_getElem? (i := 5) rfl)) w_2 kS_X1_normalised ⟨Nat.le_of_ble_eq_true rfl, Nat.le_of_ble_eq_true rfl⟩, w_7, w_8⟩ ⟨EB.blind, va_recv hK (ro_now hR0 hRA hS) (ci := 0) (q0 := 0) rfl rfl, EB.pre (hK.sub [] rfl) ((ro_now hR0 hRA hS).sub [0] rfl) hE hS⟩ rfl rfl hl.1 rfl (lv_room (Nat.le_of_ble_eq_true rfl)) dX2_fractionOf_18 ⟨Nat.le_of_ble_eq_true rfl, Nat.le_of_ble_eq_true rfl⟩)) (fun r9 e9 => ?_)
    rw [e9]
    refine lv_bipush (v := (-63)) hx hb dX2_fractionOf_21 (by decide) ?_
    have hFc := va_free (wc := cRS h q1 q2 cA cB tf ff cw td an qb pa) hD hS hA [0, 1, 2] rfl
    refine va_callr (va_runV (As := [.int (bI (R_neg tx)), .long (R_norm fx), .int (-63)]) (rest := []) ⟨hx, hb, hml, hown, hts⟩ (c_X2_make l D ad h q1 q2 cA cB tf ff cw td an qb pa (R_neg tx) (R_norm fx) (-63) s.heap.size) (cwV 3 hts gX2_fractionOf_X2_make rfl rfl rfl kV_X2_make ⟨Nat.le_of_ble_eq_true rfl, Nat.le_of_ble_eq_true rfl⟩) ⟨MRB.blind, va_recv hK hP (ci := 1) (q0 := 0) rfl rfl, MRB.pre hK hP hD vP_nil ap_nil hE hS hFc⟩ rfl rfl hl.1 rfl (lv_room (Nat.le_of_ble_eq_true rfl)) dX2_fractionOf_23 ⟨Nat.le_of_ble_eq_true rfl, Nat.le_of_ble_eq_true rfl⟩) hS (fun q _ h9 => hFc q h9) hFc (fun u9 y_2 t9 H locs ht hvm hw hB hz1 hk1 hS => ?_)
    obtain ⟨vt_3, vf_4, otd_5, e_6, hP, hD9, hx_y_2, nx_y_2⟩ := hB
    rw [ht] at hP hx_y_2
    have hD : va_D A (cRS h q1 q2 cA cB tf ff cw otd_5 an qb pa) := hD9.weaken (fun _ _ _ h => hFc _ h)
    have hw : R_fractionOf cw td tx fx = (vt_3, vf_4, otd_5) := by unfold R_fractionOf; rw [if_pos c_1, e_6]; try dsimp only; try rfl
    exact W.aret hx hb hr (Or.inl ⟨_, rfl⟩) (Or.inr ⟨_, rfl⟩) (fun t9 ht hW => ⟨⟨(), y_2, rfl, trivial, ⟨vt_3, vf_4, otd_5, hw, by rw [ht]; exact hP, hD, by rw [ht]; exact hx_y_2, nx_y_2⟩⟩, hS.F ht⟩) hS.2.2 dX2_fractionOf_26
  · refine lv_aload_n hx hb dX2_fractionOf_10 rfl (lv_at hl 1 rfl) ?_
    refine W.widen (k := 1) (n := 2) (Nat.le_of_ble_eq_true rfl) (Nat.le_of_ble_eq_true rfl) ?_
    have hw : R_fractionOf cw td tx fx = (tx, fx, td) := by unfold R_fractionOf; rw [if_neg c_1]; try rfl
    exact W.aret hx hb hr (Or.inl ⟨_, rfl⟩) (Or.inr ⟨_, rfl⟩) (fun t9 ht hW => ⟨⟨(), x, rfl, trivial, ⟨tx, fx, td, hw, by rw [ht]; exact hP, hD, by rw [ht]; exact ((ro_now hR0 hRA hS).sub [0] rfl), (hRp _ (List.mem_of_getElem? (i := 0) rfl))⟩⟩, hS.F ht⟩) hS.2.2 dX2_fractionOf_11
def R_order (cw : Int32) (tx : Int32) (fx : Int64) (ty : Int32) (fy : Int64) : Int32 × Int32 × Bool :=
  match (R_goesOn cw tx fx ty fy (if bI (if (cw &&& 4096) = 0 then true else false) = 0 then false else (if bI (R_isOf tx fx 4) = bI (R_isOf ty fy 4) then false else true)) false) with
  | (v_4, otd_5, oan_6) => if bI v_4 = 0 then ((if bI oan_6 = 0 then 3 else 2), otd_5, oan_6)
  else if bI (if (cw &&& 4096) = 0 then true else false) = 0 then (if (R_side tx fx) = (R_side ty fy) then (((R_side tx fx) * (R_sizes tx fx ty fy)), otd_5, oan_6)
    else ((if (R_side ty fy) ≤ (R_side tx fx) then 1 else (-1)), otd_5, oan_6))
  else if bI (R_isOf tx fx 4) = 0 then (if (R_side tx fx) = (R_side ty fy) then (((R_side tx fx) * (R_sizes tx fx ty fy)), otd_5, oan_6)
    else ((if (R_side ty fy) ≤ (R_side tx fx) then 1 else (-1)), otd_5, oan_6))
  else (0, otd_5, oan_6)
theorem kS_X2_order : yX2_order.cls ≠ "java/lang/invoke/MethodHandle" ∧ yX2_order.cls ≠ "java/lang/invoke/VarHandle" ∧ (parseMethodDescriptor yX2_order.desc).map (fun d => d.parameters.length) = some 2 := by decide +kernel
theorem kV_X2_order : yX2_order.cls = RX2 ∧ yX2_order.cls ≠ "java/lang/invoke/MethodHandle" ∧ yX2_order.cls ≠ "java/lang/invoke/VarHandle" ∧ (parseMethodDescriptor yX2_order.desc).map (fun d => d.parameters.length) = some 2 := ⟨rfl, kS_X2_order⟩
set_option maxHeartbeats 4000000 in
set_option maxRecDepth 100000 in
theorem c_X2_order (l : Launch) (D : va_G) (ad : Nat → Nat) (h : Nat) (q1 : Nat) (q2 : Nat) (cA : ClassId) (cB : ClassId) (tf : Nat → Int32) (ff : Nat → Int64) (cw : Int32) (td : Int32) (an : Bool) (qb : Int32) (pa : Bool) (x : Nat) (tx : Int32) (fx : Int64) (y : Nat) (ty : Int32) (fy : Int64) (sz : Nat) : Met l yX2_order wsX2_order ({ frames := 4, cells := 0, slots := 0, locals := 86 } : Room) (va_Pc [.ref h, .ref x, .ref y] (MRB D ad h q1 q2 (tRS cA cB) (cRS h q1 q2 cA cB tf ff cw td an qb pa) [cReal x tx fx, cReal y ty fy] sz)) (va_Qi (fun (r u : Int32) => r = u) (fun u t => ∃ (w_td : Int32) (w_an : Bool), R_order cw tx fx ty fy = (u, w_td, w_an) ∧ va_P D vwCl (cRS h q1 q2 cA cB tf ff cw w_td w_an qb pa) t.heap ∧ va_D (va_A (cRS h q1 q2 cA cB tf ff cw td an qb pa) sz) (cRS h q1 q2 cA cB tf ff cw w_td w_an qb pa)) (va_A (cRS h q1 q2 cA cB tf ff cw td an qb pa) sz)) 0 0 (va_A (cRS h q1 q2 cA cB tf ff cw td an qb pa) sz) := by
  refine Met.ofW (cc := cX2_order) (maxL := 7) (ret := (some .int)) (by decide) rfl ?_
  intro p e s m args below meth c s₁ B hml hv
  obtain ⟨rfl, hsz, hP, hK, hD0, hR0, hRp, hE⟩ := hv
  have hx := B.exec
  have hb := B.bytes
  have hr := B.returns
  have hts := atoms_spec (ws := wsX2_order) B.pre
  have hown : s.vm.findClass RX2 = some m.cls := findClass_of_methodNamed B.named
  have hlocks := B.notSynchronized
  have w_1 := hts (.fieldLink RX2 17 "RealSteps" "controlWord" "I") (by decide +kernel)
  have in_X2 : ∀ w ∈ wsX20, w ∈ wsX2_order := by decide +kernel
  have w_3 := hts (.fieldLink RX2 106 "RealSteps$Kind" "INFINITE" "LRealSteps$Kind;") (by decide +kernel)
  have w_4 := hts (.initialized RX1) (by decide +kernel)
  have w_5 := hts (.instanceMethod yX1_isOf) (by decide +kernel)
  have w_6 := hts (.selects RX1 yX1_isOf yX1_isOf) (by decide +kernel)
  have w_7 := hts (.instanceMethod yX1_side) (by decide +kernel)
  have w_8 := hts (.selects RX1 yX1_side yX1_side) (by decide +kernel)
  have w_9 := hts (.fieldLink RX2 24 "RealSteps" "answered" "Z") (by decide +kernel)
  subst hsz
  have hD := hD0.self (sz := s.heap.size)
  have hRA := rs_A hR0 hRp (e1 := .inr (1, [.ref q1, .ref q2, .int cw, .int td, .int (bI an), .int qb, .int (bI pa)])) (e2 := .inl (cA, 8, .inl tf)) (e3 := .inl (cB, 8, .inr (.inl ff)))
  generalize hAe : va_A (cRS h q1 q2 cA cB tf ff cw td an qb pa) s.heap.size = A at hD hE hRA ⊢
  have hA : ∀ q : Nat, s.heap.size ≤ q → A q := fun q h => by rw [← hAe]; exact Or.inr h
  have hS : va_S A s.heap s.heap [] := va_S.rf
  have hP : va_P D vwCl (cRS h q1 q2 cA cB tf ff cw td an qb pa) s.heap := hP
  have hl := lv_entry ([.ref h, .ref x, .ref y]) (n := 7) (Nat.le_of_ble_eq_true rfl)
  rw [lg_entry_eq]
  generalize (lg_sl ([.ref h, .ref x, .ref y]) ++ List.replicate (7 - (lg_sl ([.ref h, .ref x, .ref y])).length) Slot.unset).toArray = ls at hl ⊢
  have hl : lv_has ls 7 [(0, .ref h), (1, .ref x), (2, .ref y)] := hl
  refine lv_aload_n hx hb dX2_order_0 rfl (lv_at hl 0 rfl) ?_
  refine va_get (v := .int cw) (C := RX2) (T := TX2) (N := 7) hx hb hts in_X2 hown hK hP 0 rfl rfl 2 (by decide) w_1 (fun _ h9 => h9) rfl dX2_order_1 ?_
  refine lv_sipush (v := 4096) hx hb dX2_order_4 (by decide) ?_
  refine lv_iand hx hb dX2_order_7 ?_
  refine q_cut (v := bI (if (cw &&& 4096) = 0 then true else false)) (pcJ := 16) (rest := []) (fun J => ?_) ?_
  · refine lv_if_ne (tgt := 15) hx hb dX2_order_8 (by decide) (fun c_1 => ?_) (fun c_1 => ?_)
    · refine lv_iconst (v := 0) hx hb dX2_order_15 (by decide) ?_
      exact J _ (by rw [if_neg c_1]; try rfl)
    · refine lv_iconst (v := 1) hx hb dX2_order_11 (by decide) ?_
      refine lv_goto (tgt := 16) hx hb dX2_order_12 (by decide) ?_
      exact J _ (by rw [if_pos c_1]; try rfl)
  refine lv_istore_n (lv' := [(3, .int (bI (if (cw &&& 4096) = 0 then true else false))), (0, .ref h), (1, .ref x), (2, .ref y)]) hx hb dX2_order_16 rfl hl (by decide) rfl (fun ls hl => ?_)
  refine lv_aload_n hx hb dX2_order_17 rfl (lv_at hl 2 rfl) ?_
  refine va_gets (v := .ref (ad 4)) hx hb (hE.1.1 4 (by decide)).1 hS hown w_3 (fun _ h9 => h9) dX2_order_18 ?_
  refine vp_callSi (va_cr (va_runVN (As := [.ref (ad 4)]) (rest := []) ⟨hx, hb, hml, hown, hts⟩ (c_X1_isOf l D ad x tx fx 4 (by decide)) ⟨va_cnB 1 hts gX2_order_X1_isOf_n112 rfl rfl rfl (hE.2.1 _ (List.mem_of_getElem? (i := 0) rfl)) w_4 kS_X1_isOf ⟨Nat.le_of_ble_eq_true rfl, Nat.le_of_ble_eq_true rfl⟩, w_5, w_6⟩ ⟨EB.blind, va_recv hK (ro_now hR0 hRA hS) (ci := 0) (q0 := 0) rfl rfl, EB.pre (hK.sub [] rfl) ((ro_now hR0 hRA hS).sub [0] rfl) hE hS⟩ rfl rfl hl.1 rfl (lv_room (Nat.le_of_ble_eq_true rfl)) dX2_order_21 ⟨Nat.le_of_ble_eq_true rfl, Nat.le_of_ble_eq_true rfl⟩)) (fun r9 e9 => ?_)
  rw [e9]
  refine lv_istore (lv' := [(4, .int (bI (R_isOf tx fx 4))), (3, .int (bI (if (cw &&& 4096) = 0 then true else false))), (0, .ref h), (1, .ref x), (2, .ref y)]) hx hb dX2_order_24 hl (by decide) rfl (fun ls hl => ?_)
  refine lv_iload_n hx hb dX2_order_26 rfl (lv_at hl 1 rfl) ?_
  refine q_cut (v := bI (if bI (if (cw &&& 4096) = 0 then true else false) = 0 then false else (if bI (R_isOf tx fx 4) = bI (R_isOf ty fy 4) then false else true))) (pcJ := 47) (rest := []) (fun J => ?_) ?_
  · refine lv_if_eq (tgt := 46) hx hb dX2_order_27 (by decide) (fun c_2 => ?_) (fun c_2 => ?_)
    · refine lv_iconst (v := 0) hx hb dX2_order_46 (by decide) ?_
      exact J _ (by rw [if_pos c_2]; try rfl)
    · refine lv_iload hx hb dX2_order_30 (lv_at hl 0 rfl) ?_
      refine lv_aload_n hx hb dX2_order_32 rfl (lv_at hl 4 rfl) ?_
      refine va_gets (v := .ref (ad 4)) hx hb (hE.1.1 4 (by decide)).1 hS hown w_3 (fun _ h9 => h9) dX2_order_33 ?_
      refine vp_callSi (va_cr (va_runVN (As := [.ref (ad 4)]) (rest := [.int (bI (R_isOf tx fx 4))]) ⟨hx, hb, hml, hown, hts⟩ (c_X1_isOf l D ad y ty fy 4 (by decide)) ⟨va_cnB 1 hts gX2_order_X1_isOf_n112 rfl rfl rfl (hE.2.1 _ (List.mem_of_getElem? (i := 0) rfl)) w_4 kS_X1_isOf ⟨Nat.le_of_ble_eq_true rfl, Nat.le_of_ble_eq_true rfl⟩, w_5, w_6⟩ ⟨EB.blind, va_recv hK (ro_now hR0 hRA hS) (ci := 0) (q0 := 1) rfl rfl, EB.pre (hK.sub [] rfl) ((ro_now hR0 hRA hS).sub [1] rfl) hE hS⟩ rfl rfl hl.1 rfl (lv_room (Nat.le_of_ble_eq_true rfl)) dX2_order_36 ⟨Nat.le_of_ble_eq_true rfl, Nat.le_of_ble_eq_true rfl⟩)) (fun r9 e9 => ?_)
      rw [e9]
      refine lv_icmp_eq (tgt := 46) hx hb dX2_order_39 (by decide) (fun c_3 => ?_) (fun c_3 => ?_)
      · refine lv_iconst (v := 0) hx hb dX2_order_46 (by decide) ?_
        exact J _ (by rw [if_neg c_2, if_pos c_3]; try rfl)
      · refine lv_iconst (v := 1) hx hb dX2_order_42 (by decide) ?_
        refine lv_goto (tgt := 47) hx hb dX2_order_43 (by decide) ?_
        exact J _ (by rw [if_neg c_2, if_neg c_3]; try rfl)
  refine lv_istore (lv' := [(5, .int (bI (if bI (if (cw &&& 4096) = 0 then true else false) = 0 then false else (if bI (R_isOf tx fx 4) = bI (R_isOf ty fy 4) then false else true)))), (4, .int (bI (R_isOf tx fx 4))), (3, .int (bI (if (cw &&& 4096) = 0 then true else false))), (0, .ref h), (1, .ref x), (2, .ref y)]) hx hb dX2_order_47 hl (by decide) rfl (fun ls hl => ?_)
  refine lv_aload_n hx hb dX2_order_49 rfl (lv_at hl 3 rfl) ?_
  refine lv_aload_n hx hb dX2_order_50 rfl (lv_at hl 4 rfl) ?_
  refine lv_aload_n hx hb dX2_order_51 rfl (lv_at hl 5 rfl) ?_
  refine lv_iload hx hb dX2_order_52 (lv_at hl 0 rfl) ?_
  refine lv_iconst (v := 0) hx hb dX2_order_54 (by decide) ?_
  have hFc := va_free (wc := cRS h q1 q2 cA cB tf ff cw td an qb pa) hD hS hA [0, 1, 2] rfl
  refine va_calli (va_runV (As := [.ref x, .ref y, .int (bI (if bI (if (cw &&& 4096) = 0 then true else false) = 0 then false else (if bI (R_isOf tx fx 4) = bI (R_isOf ty fy 4) then false else true))), .int (bI false)]) (rest := []) ⟨hx, hb, hml, hown, hts⟩ (c_X2_goesOn l D ad h q1 q2 cA cB tf ff cw td an qb pa x tx fx y ty fy (if bI (if (cw &&& 4096) = 0 then true else false) = 0 then false else (if bI (R_isOf tx fx 4) = bI (R_isOf ty fy 4) then false else true)) false s.heap.size) (cwV 4 hts gX2_order_X2_goesOn rfl rfl rfl kV_X2_goesOn ⟨Nat.le_of_ble_eq_true rfl, Nat.le_of_ble_eq_true rfl⟩) ⟨MRB.blind, va_recv hK hP (ci := 1) (q0 := 0) rfl rfl, MRB.pre hK hP hD (vP_one ((ro_now hR0 hRA hS).sub [0] rfl) (vP_one ((ro_now hR0 hRA hS).sub [1] rfl) vP_nil)) (ap_one (hRp _ (List.mem_of_getElem? (i := 0) rfl)) (ap_one (hRp _ (List.mem_of_getElem? (i := 1) rfl)) ap_nil)) hE hS hFc⟩ rfl rfl hl.1 rfl (lv_room (Nat.le_of_ble_eq_true rfl)) dX2_order_55 ⟨Nat.le_of_ble_eq_true rfl, Nat.le_of_ble_eq_true rfl⟩) hS (fun q _ h9 => hFc q h9) hFc (fun r9 v_4 t9 H locs ht hvm hw hB hz1 hk1 hS => ?_)
  obtain rfl := hw
  obtain ⟨otd_5, oan_6, e_7, hP, hD9⟩ := hB
  rw [ht] at hP
  have hD : va_D A (cRS h q1 q2 cA cB tf ff cw otd_5 oan_6 qb pa) := hD9.weaken (fun _ _ _ h => hFc _ h)
  refine lv_if_ne (tgt := 74) hx hb dX2_order_58 (by decide) (fun c_8 => ?_) (fun c_8 => ?_)
  · refine lv_iload_n hx hb dX2_order_74 rfl (lv_at hl 2 rfl) ?_
    refine lv_if_eq (tgt := 85) hx hb dX2_order_75 (by decide) (fun c_9 => ?_) (fun c_9 => ?_)
    · refine lv_aload_n hx hb dX2_order_85 rfl (lv_at hl 4 rfl) ?_
      refine vp_callSi (va_cr (va_runVN (As := []) (rest := []) ⟨hx, hb, hml, hown, hts⟩ (c_X1_side l D ad x tx fx) ⟨va_cnB 0 hts gX2_order_X1_side_n251 rfl rfl rfl (hE.2.1 _ (List.mem_of_getElem? (i := 6) rfl)) w_4 kS_X1_side ⟨Nat.le_of_ble_eq_true rfl, Nat.le_of_ble_eq_true rfl⟩, w_7, w_8⟩ ⟨EB.blind, va_recv hK (ro_now hR0 hRA hS) (ci := 0) (q0 := 0) rfl rfl, EB.pre (hK.sub [] rfl) ((ro_now hR0 hRA hS).sub [0] rfl) hE hS⟩ rfl rfl hl.1 rfl (lv_room (Nat.le_of_ble_eq_true rfl)) dX2_order_86 ⟨Nat.le_of_ble_eq_true rfl, Nat.le_of_ble_eq_true rfl⟩)) (fun r9 e9 => ?_)
      rw [e9]
      refine lv_istore (lv' := [(6, .int (R_side tx fx)), (5, .int (bI (if bI (if (cw &&& 4096) = 0 then true else false) = 0 then false else (if bI (R_isOf tx fx 4) = bI (R_isOf ty fy 4) then false else true)))), (4, .int (bI (R_isOf tx fx 4))), (3, .int (bI (if (cw &&& 4096) = 0 then true else false))), (0, .ref h), (1, .ref x), (2, .ref y)]) hx hb dX2_order_89 hl (by decide) rfl (fun ls hl => ?_)
      refine lv_iload hx hb dX2_order_91 (lv_at hl 0 rfl) ?_
      refine lv_aload_n hx hb dX2_order_93 rfl (lv_at hl 6 rfl) ?_
      refine vp_callSi (va_cr (va_runVN (As := []) (rest := [.int (R_side tx fx)]) ⟨hx, hb, hml, hown, hts⟩ (c_X1_side l D ad y ty fy) ⟨va_cnB 0 hts gX2_order_X1_side_n251 rfl rfl rfl (hE.2.1 _ (List.mem_of_getElem? (i := 6) rfl)) w_4 kS_X1_side ⟨Nat.le_of_ble_eq_true rfl, Nat.le_of_ble_eq_true rfl⟩, w_7, w_8⟩ ⟨EB.blind, va_recv hK (ro_now hR0 hRA hS) (ci := 0) (q0 := 1) rfl rfl, EB.pre (hK.sub [] rfl) ((ro_now hR0 hRA hS).sub [1] rfl) hE hS⟩ rfl rfl hl.1 rfl (lv_room (Nat.le_of_ble_eq_true rfl)) dX2_order_94 ⟨Nat.le_of_ble_eq_true rfl, Nat.le_of_ble_eq_true rfl⟩)) (fun r9 e9 => ?_)
      rw [e9]
      refine lv_icmp_eq (tgt := 115) hx hb dX2_order_97 (by decide) (fun c_10 => ?_) (fun c_10 => ?_)
      · refine lv_iload hx hb dX2_order_115 (lv_at hl 0 rfl) ?_
        refine lv_aload_n hx hb dX2_order_117 rfl (lv_at hl 5 rfl) ?_
        refine lv_aload_n hx hb dX2_order_118 rfl (lv_at hl 6 rfl) ?_
        refine vp_callSi (va_cr (va_runS (As := [.ref x, .ref y]) (rest := [.int (R_side tx fx)]) ⟨hx, hb, hml, hown, hts⟩ (c_X2_orderOfSizes l D ad x tx fx y ty fy) (va_cwS 2 hts gX2_order_X2_orderOfSizes rfl rfl rfl kS_X2_orderOfSizes ⟨Nat.le_of_ble_eq_true rfl, Nat.le_of_ble_eq_true rfl⟩) ⟨EB.blind, EB.pre (hK.sub [] rfl) (vP_one ((ro_now hR0 hRA hS).sub [0] rfl) (vP_one ((ro_now hR0 hRA hS).sub [1] rfl) vP_nil)) hE hS⟩ rfl rfl hl.1 rfl (lv_room (Nat.le_of_ble_eq_true rfl)) dX2_order_119 ⟨Nat.le_of_ble_eq_true rfl, Nat.le_of_ble_eq_true rfl⟩)) (fun r9 e9 => ?_)
        rw [e9]
        refine lv_imul hx hb dX2_order_122 ?_
        have hw : R_order cw tx fx ty fy = (((R_side tx fx) * (R_sizes tx fx ty fy)), otd_5, oan_6) := by unfold R_order; rw [e_7]; try dsimp only; rw [if_neg c_8, if_pos c_9, if_pos c_10]; try rfl
        exact W.iret hx hb hr (fun t9 ht hW => ⟨⟨_, ((R_side tx fx) * (R_sizes tx fx ty fy)), rfl, rfl, ⟨otd_5, oan_6, hw, by rw [ht]; exact hP, hD⟩⟩, hS.F ht⟩) hS.2.2 dX2_order_123
      · refine lv_iload hx hb dX2_order_100 (lv_at hl 0 rfl) ?_
        refine lv_aload_n hx hb dX2_order_102 rfl (lv_at hl 6 rfl) ?_
        refine vp_callSi (va_cr (va_runVN (As := []) (rest := [.int (R_side tx fx)]) ⟨hx, hb, hml, hown, hts⟩ (c_X1_side l D ad y ty fy) ⟨va_cnB 0 hts gX2_order_X1_side_n251 rfl rfl rfl (hE.2.1 _ (List.mem_of_getElem? (i := 6) rfl)) w_4 kS_X1_side ⟨Nat.le_of_ble_eq_true rfl, Nat.le_of_ble_eq_true rfl⟩, w_7, w_8⟩ ⟨EB.blind, va_recv hK (ro_now hR0 hRA hS) (ci := 0) (q0 := 1) rfl rfl, EB.pre (hK.sub [] rfl) ((ro_now hR0 hRA hS).sub [1] rfl) hE hS⟩ rfl rfl hl.1 rfl (lv_room (Nat.le_of_ble_eq_true rfl)) dX2_order_103 ⟨Nat.le_of_ble_eq_true rfl, Nat.le_of_ble_eq_true rfl⟩)) (fun r9 e9 => ?_)
        rw [e9]
        refine q_cut (v := (if (R_side ty fy) ≤ (R_side tx fx) then 1 else (-1))) (pcJ := 114) (rest := []) (fun J => ?_) ?_
        · refine lv_icmp_ge (tgt := 113) hx hb dX2_order_106 (by decide) (fun c_11 => ?_) (fun c_11 => ?_)
          · refine lv_iconst (v := 1) hx hb dX2_order_113 (by decide) ?_
            exact J _ (by rw [if_pos c_11]; try rfl)
          · refine lv_iconst (v := (-1)) hx hb dX2_order_109 (by decide) ?_
            refine lv_goto (tgt := 114) hx hb dX2_order_110 (by decide) ?_
            exact J _ (by rw [if_neg c_11]; try rfl)
        have hw : R_order cw tx fx ty fy = ((if (R_side ty fy) ≤ (R_side tx fx) then 1 else (-1)), otd_5, oan_6) := by unfold R_order; rw [e_7]; try dsimp only; rw [if_neg c_8, if_pos c_9, if_neg c_10]; try rfl
        exact W.iret hx hb hr (fun t9 ht hW => ⟨⟨_, (if (R_side ty fy) ≤ (R_side tx fx) then 1 else (-1)), rfl, rfl, ⟨otd_5, oan_6, hw, by rw [ht]; exact hP, hD⟩⟩, hS.F ht⟩) hS.2.2 dX2_order_114
    · refine lv_iload hx hb dX2_order_78 (lv_at hl 1 rfl) ?_
      refine lv_if_eq (tgt := 85) hx hb dX2_order_80 (by decide) (fun c_12 => ?_) (fun c_12 => ?_)
      · refine lv_aload_n hx hb dX2_order_85 rfl (lv_at hl 4 rfl) ?_
        refine vp_callSi (va_cr (va_runVN (As := []) (rest := []) ⟨hx, hb, hml, hown, hts⟩ (c_X1_side l D ad x tx fx) ⟨va_cnB 0 hts gX2_order_X1_side_n251 rfl rfl rfl (hE.2.1 _ (List.mem_of_getElem? (i := 6) rfl)) w_4 kS_X1_side ⟨Nat.le_of_ble_eq_true rfl, Nat.le_of_ble_eq_true rfl⟩, w_7, w_8⟩ ⟨EB.blind, va_recv hK (ro_now hR0 hRA hS) (ci := 0) (q0 := 0) rfl rfl, EB.pre (hK.sub [] rfl) ((ro_now hR0 hRA hS).sub [0] rfl) hE hS⟩ rfl rfl hl.1 rfl (lv_room (Nat.le_of_ble_eq_true rfl)) dX2_order_86 ⟨Nat.le_of_ble_eq_true rfl, Nat.le_of_ble_eq_true rfl⟩)) (fun r9 e9 => ?_)
        rw [e9]
        refine lv_istore (lv' := [(6, .int (R_side tx fx)), (5, .int (bI (if bI (if (cw &&& 4096) = 0 then true else false) = 0 then false else (if bI (R_isOf tx fx 4) = bI (R_isOf ty fy 4) then false else true)))), (4, .int (bI (R_isOf tx fx 4))), (3, .int (bI (if (cw &&& 4096) = 0 then true else false))), (0, .ref h), (1, .ref x), (2, .ref y)]) hx hb dX2_order_89 hl (by decide) rfl (fun ls hl => ?_)
        refine lv_iload hx hb dX2_order_91 (lv_at hl 0 rfl) ?_
        refine lv_aload_n hx hb dX2_order_93 rfl (lv_at hl 6 rfl) ?_
        refine vp_callSi (va_cr (va_runVN (As := []) (rest := [.int (R_side tx fx)]) ⟨hx, hb, hml, hown, hts⟩ (c_X1_side l D ad y ty fy) ⟨va_cnB 0 hts gX2_order_X1_side_n251 rfl rfl rfl (hE.2.1 _ (List.mem_of_getElem? (i := 6) rfl)) w_4 kS_X1_side ⟨Nat.le_of_ble_eq_true rfl, Nat.le_of_ble_eq_true rfl⟩, w_7, w_8⟩ ⟨EB.blind, va_recv hK (ro_now hR0 hRA hS) (ci := 0) (q0 := 1) rfl rfl, EB.pre (hK.sub [] rfl) ((ro_now hR0 hRA hS).sub [1] rfl) hE hS⟩ rfl rfl hl.1 rfl (lv_room (Nat.le_of_ble_eq_true rfl)) dX2_order_94 ⟨Nat.le_of_ble_eq_true rfl, Nat.le_of_ble_eq_true rfl⟩)) (fun r9 e9 => ?_)
        rw [e9]
        refine lv_icmp_eq (tgt := 115) hx hb dX2_order_97 (by decide) (fun c_13 => ?_) (fun c_13 => ?_)
        · refine lv_iload hx hb dX2_order_115 (lv_at hl 0 rfl) ?_
          refine lv_aload_n hx hb dX2_order_117 rfl (lv_at hl 5 rfl) ?_
          refine lv_aload_n hx hb dX2_order_118 rfl (lv_at hl 6 rfl) ?_
          refine vp_callSi (va_cr (va_runS (As := [.ref x, .ref y]) (rest := [.int (R_side tx fx)]) ⟨hx, hb, hml, hown, hts⟩ (c_X2_orderOfSizes l D ad x tx fx y ty fy) (va_cwS 2 hts gX2_order_X2_orderOfSizes rfl rfl rfl kS_X2_orderOfSizes ⟨Nat.le_of_ble_eq_true rfl, Nat.le_of_ble_eq_true rfl⟩) ⟨EB.blind, EB.pre (hK.sub [] rfl) (vP_one ((ro_now hR0 hRA hS).sub [0] rfl) (vP_one ((ro_now hR0 hRA hS).sub [1] rfl) vP_nil)) hE hS⟩ rfl rfl hl.1 rfl (lv_room (Nat.le_of_ble_eq_true rfl)) dX2_order_119 ⟨Nat.le_of_ble_eq_true rfl, Nat.le_of_ble_eq_true rfl⟩)) (fun r9 e9 => ?_)
          rw [e9]
          refine lv_imul hx hb dX2_order_122 ?_
          have hw : R_order cw tx fx ty fy = (((R_side tx fx) * (R_sizes tx fx ty fy)), otd_5, oan_6) := by unfold R_order; rw [e_7]; try dsimp only; rw [if_neg c_8, if_neg c_9, if_pos c_12, if_pos c_13]; try rfl
          exact W.iret hx hb hr (fun t9 ht hW => ⟨⟨_, ((R_side tx fx) * (R_sizes tx fx ty fy)), rfl, rfl, ⟨otd_5, oan_6, hw, by rw [ht]; exact hP, hD⟩⟩, hS.F ht⟩) hS.2.2 dX2_order_123
        · refine lv_iload hx hb dX2_order_100 (lv_at hl 0 rfl) ?_
          refine lv_aload_n hx hb dX2_order_102 rfl (lv_at hl 6 rfl) ?_
          refine vp_callSi (va_cr (va_runVN (As := []) (rest := [.int (R_side tx fx)]) ⟨hx, hb, hml, hown, hts⟩ (c_X1_side l D ad y ty fy) ⟨va_cnB 0 hts gX2_order_X1_side_n251 rfl rfl rfl (hE.2.1 _ (List.mem_of_getElem? (i := 6) rfl)) w_4 kS_X1_side ⟨Nat.le_of_ble_eq_true rfl, Nat.le_of_ble_eq_true rfl⟩, w_7, w_8⟩ ⟨EB.blind, va_recv hK (ro_now hR0 hRA hS) (ci := 0) (q0 := 1) rfl rfl, EB.pre (hK.sub [] rfl) ((ro_now hR0 hRA hS).sub [1] rfl) hE hS⟩ rfl rfl hl.1 rfl (lv_room (Nat.le_of_ble_eq_true rfl)) dX2_order_103 ⟨Nat.le_of_ble_eq_true rfl, Nat.le_of_ble_eq_true rfl⟩)) (fun r9 e9 => ?_)
          rw [e9]
          refine q_cut (v := (if (R_side ty fy) ≤ (R_side tx fx) then 1 else (-1))) (pcJ := 114) (rest := []) (fun J => ?_) ?_
          · refine lv_icmp_ge (tgt := 113) hx hb dX2_order_106 (by decide) (fun c_14 => ?_) (fun c_14 => ?_)
            · refine lv_iconst (v := 1) hx hb dX2_order_113 (by decide) ?_
              exact J _ (by rw [if_pos c_14]; try rfl)
            · refine lv_iconst (v := (-1)) hx hb dX2_order_109 (by decide) ?_
              refine lv_goto (tgt := 114) hx hb dX2_order_110 (by decide) ?_
              exact J _ (by rw [if_neg c_14]; try rfl)
          have hw : R_order cw tx fx ty fy = ((if (R_side ty fy) ≤ (R_side tx fx) then 1 else (-1)), otd_5, oan_6) := by unfold R_order; rw [e_7]; try dsimp only; rw [if_neg c_8, if_neg c_9, if_pos c_12, if_neg c_13]; try rfl
          exact W.iret hx hb hr (fun t9 ht hW => ⟨⟨_, (if (R_side ty fy) ≤ (R_side tx fx) then 1 else (-1)), rfl, rfl, ⟨otd_5, oan_6, hw, by rw [ht]; exact hP, hD⟩⟩, hS.F ht⟩) hS.2.2 dX2_order_114
      · refine lv_iconst (v := 0) hx hb dX2_order_83 (by decide) ?_
        have hw : R_order cw tx fx ty fy = (0, otd_5, oan_6) := by unfold R_order; rw [e_7]; try dsimp only; rw [if_neg c_8, if_neg c_9, if_neg c_12]; try rfl
        exact W.iret hx hb hr (fun t9 ht hW => ⟨⟨_, 0, rfl, rfl, ⟨otd_5, oan_6, hw, by rw [ht]; exact hP, hD⟩⟩, hS.F ht⟩) hS.2.2 dX2_order_84
  · refine lv_aload_n hx hb dX2_order_61 rfl (lv_at hl 3 rfl) ?_
    refine va_get (v := .int (bI oan_6)) (C := RX2) (T := TX2) (N := 7) hx hb hts in_X2 hown hK hP 0 rfl rfl 4 (by decide) w_9 (fun _ h9 => h9) rfl dX2_order_62 ?_
    refine q_cut (v := (if bI oan_6 = 0 then 3 else 2)) (pcJ := 73) (rest := []) (fun J => ?_) ?_
    · refine lv_if_eq (tgt := 72) hx hb dX2_order_65 (by decide) (fun c_15 => ?_) (fun c_15 => ?_)
      · refine lv_iconst (v := 3) hx hb dX2_order_72 (by decide) ?_
        exact J _ (by rw [if_pos c_15]; try rfl)
      · refine lv_iconst (v := 2) hx hb dX2_order_68 (by decide) ?_
        refine lv_goto (tgt := 73) hx hb dX2_order_69 (by decide) ?_
        exact J _ (by rw [if_neg c_15]; try rfl)
    have hw : R_order cw tx fx ty fy = ((if bI oan_6 = 0 then 3 else 2), otd_5, oan_6) := by unfold R_order; rw [e_7]; try dsimp only; rw [if_pos c_8]; try rfl
    exact W.iret hx hb hr (fun t9 ht hW => ⟨⟨_, (if bI oan_6 = 0 then 3 else 2), rfl, rfl, ⟨otd_5, oan_6, hw, by rw [ht]; exact hP, hD⟩⟩, hS.F ht⟩) hS.2.2 dX2_order_73
end
section
def R_divL (dv : Int64) (sh : Int32) : Nat → Int64 → Int32 → Int32 → Int64 × Int32 × Int32
  | 0, v1, v2, v3 => (v1, v2, v3)
  | n + 1, v1, v2, v3 => if sh ≤ v3 then ((v1, v2, v3))
    else if bI (if v1 < 0 then true else false) = 0 then (if (J_cmpU (jlshl v1 1) dv) < 0 then (R_divL dv sh n (jlshl v1 1) ((v2 <<< (1 &&& 31)) &&& 7) (v3 + 1))
      else R_divL dv sh n ((jlshl v1 1) - dv) (((v2 <<< (1 &&& 31)) &&& 7) ||| 1) (v3 + 1))
    else R_divL dv sh n ((jlshl v1 1) - dv) (((v2 <<< (1 &&& 31)) &&& 7) ||| 1) (v3 + 1)
theorem R_divL_S (dv : Int64) (sh : Int32) (n : Nat) (v1 : Int64) (v2 : Int32) (v3 : Int32) : R_divL dv sh (n + 1) v1 v2 v3 = (if sh ≤ v3 then ((v1, v2, v3))
    else if bI (if v1 < 0 then true else false) = 0 then (if (J_cmpU (jlshl v1 1) dv) < 0 then (R_divL dv sh n (jlshl v1 1) ((v2 <<< (1 &&& 31)) &&& 7) (v3 + 1))
      else R_divL dv sh n ((jlshl v1 1) - dv) (((v2 <<< (1 &&& 31)) &&& 7) ||| 1) (v3 + 1))
    else R_divL dv sh n ((jlshl v1 1) - dv) (((v2 <<< (1 &&& 31)) &&& 7) ||| 1) (v3 + 1)) := rfl
def R_divide (dd : Int64) (dv : Int64) (sh : Int32) : Int64 × Int32 :=
  if (J_cmpU dd dv) < 0 then (match R_divL dv sh (sh.toInt.toNat + 1) dd 0 0 with
    | (v1, v2, v3) => (v1, v2))
  else (match R_divL dv sh (sh.toInt.toNat + 1) (dd - dv) 1 0 with
    | (v1, v2, v3) => (v1, v2))
theorem kS_X2_divide : yX2_divide.cls ≠ "java/lang/invoke/MethodHandle" ∧ yX2_divide.cls ≠ "java/lang/invoke/VarHandle" ∧ (parseMethodDescriptor yX2_divide.desc).map (fun d => d.parameters.length) = some 3 := by decide +kernel
theorem kV_X2_divide : yX2_divide.cls = RX2 ∧ yX2_divide.cls ≠ "java/lang/invoke/MethodHandle" ∧ yX2_divide.cls ≠ "java/lang/invoke/VarHandle" ∧ (parseMethodDescriptor yX2_divide.desc).map (fun d => d.parameters.length) = some 3 := ⟨rfl, kS_X2_divide⟩
set_option maxHeartbeats 4000000 in
set_option maxRecDepth 100000 in
theorem c_X2_divide (l : Launch) (D : va_G) (ad : Nat → Nat) (h : Nat) (q1 : Nat) (q2 : Nat) (cA : ClassId) (cB : ClassId) (tf : Nat → Int32) (ff : Nat → Int64) (cw : Int32) (td : Int32) (an : Bool) (qb : Int32) (pa : Bool) (dd : Int64) (dv : Int64) (sh : Int32) (sz : Nat) : Met l yX2_divide wsX2_divide ({ frames := 2, cells := 0, slots := 0, locals := 46 } : Room) (va_Pc [.ref h, .long dd, .long dv, .int sh] (MRB D ad h q1 q2 (tRS cA cB) (cRS h q1 q2 cA cB tf ff cw td an qb pa) [] sz)) (va_Ql (fun (r u : Int64) => r = u) (fun u t => ∃ (w_qb : Int32), R_divide dd dv sh = (u, w_qb) ∧ va_P D vwCl (cRS h q1 q2 cA cB tf ff cw td an w_qb pa) t.heap ∧ va_D (va_A (cRS h q1 q2 cA cB tf ff cw td an qb pa) sz) (cRS h q1 q2 cA cB tf ff cw td an w_qb pa)) (va_A (cRS h q1 q2 cA cB tf ff cw td an qb pa) sz)) 0 0 (va_A (cRS h q1 q2 cA cB tf ff cw td an qb pa) sz) := by
  refine Met.ofW (cc := cX2_divide) (maxL := 11) (ret := (some .long)) (by decide) rfl ?_
  intro p e s m args below meth c s₁ B hml hv
  obtain ⟨rfl, hsz, hP, hK, hD0, hR0, hRp, hE⟩ := hv
  have hx := B.exec
  have hb := B.bytes
  have hr := B.returns
  have hts := atoms_spec (ws := wsX2_divide) B.pre
  have hown : s.vm.findClass RX2 = some m.cls := findClass_of_methodNamed B.named
  have hlocks := B.notSynchronized
  have w_1 := hts (.fieldLink RX2 28 "RealSteps" "quotientBits" "I") (by decide +kernel)
  have in_X2 : ∀ w ∈ wsX20, w ∈ wsX2_divide := by decide +kernel
  subst hsz
  have hD := hD0.self (sz := s.heap.size)
  have hRA := rs_A hR0 hRp (e1 := .inr (1, [.ref q1, .ref q2, .int cw, .int td, .int (bI an), .int qb, .int (bI pa)])) (e2 := .inl (cA, 8, .inl tf)) (e3 := .inl (cB, 8, .inr (.inl ff)))
  generalize hAe : va_A (cRS h q1 q2 cA cB tf ff cw td an qb pa) s.heap.size = A at hD hE hRA ⊢
  have hA : ∀ q : Nat, s.heap.size ≤ q → A q := fun q h => by rw [← hAe]; exact Or.inr h
  have hS : va_S A s.heap s.heap [] := va_S.rf
  have hP : va_P D vwCl (cRS h q1 q2 cA cB tf ff cw td an qb pa) s.heap := hP
  have hl := lv_entry ([.ref h, .long dd, .long dv, .int sh]) (n := 11) (Nat.le_of_ble_eq_true rfl)
  rw [lg_entry_eq]
  generalize (lg_sl ([.ref h, .long dd, .long dv, .int sh]) ++ List.replicate (11 - (lg_sl ([.ref h, .long dd, .long dv, .int sh])).length) Slot.unset).toArray = ls at hl ⊢
  have hl : lv_has ls 11 [(0, .ref h), (1, .long dd), (3, .long dv), (5, .int sh)] := hl
  refine lv_lload_n hx hb dX2_divide_0 rfl (lv_at hl 1 rfl) ?_
  refine lv_lstore (lv' := [(6, .long dd), (0, .ref h), (1, .long dd), (3, .long dv), (5, .int sh)]) hx hb dX2_divide_1 hl (by decide) rfl (fun ls hl => ?_)
  refine lv_iconst (v := 0) hx hb dX2_divide_3 (by decide) ?_
  refine lv_istore (lv' := [(8, .int 0), (6, .long dd), (0, .ref h), (1, .long dd), (3, .long dv), (5, .int sh)]) hx hb dX2_divide_4 hl (by decide) rfl (fun ls hl => ?_)
  refine lv_lload hx hb dX2_divide_6 (lv_at hl 1 rfl) ?_
  refine lv_lload_n hx hb dX2_divide_8 rfl (lv_at hl 4 rfl) ?_
  refine vp_callSi (va_cr (va_runS (As := [.long dd, .long dv]) (rest := []) ⟨hx, hb, hml, hown, hts⟩ (c_J13_compareUnsigned_74951 l dd dv) (va_cwS 2 hts gX2_divide_J13_compareUnsigned_74951 rfl rfl rfl kS_J13_compareUnsigned_74951 ⟨Nat.le_of_ble_eq_true rfl, Nat.le_of_ble_eq_true rfl⟩) ⟨TB.blind, TB.pre⟩ rfl rfl hl.1 rfl (lv_room (Nat.le_of_ble_eq_true rfl)) dX2_divide_9 ⟨Nat.le_of_ble_eq_true rfl, Nat.le_of_ble_eq_true rfl⟩)) (fun r9 e9 => ?_)
  rw [e9]
  refine lv_if_lt (tgt := 24) hx hb dX2_divide_12 (by decide) (fun c_1 => ?_) (fun c_1 => ?_)
  · refine lv_iconst (v := 0) hx hb dX2_divide_24 (by decide) ?_
    refine lv_istore (lv' := [(9, .int 0), (8, .int 0), (6, .long dd), (0, .ref h), (1, .long dd), (3, .long dv), (5, .int sh)]) hx hb dX2_divide_25 hl (by decide) rfl (fun ls hl => ?_)
    have LOOP : ∀ (n : Nat) (v1 : Int64) (v2 : Int32) (v3 : Int32), (sh.toInt - v3.toInt).toNat < n → R_divL dv sh n v1 v2 v3 = R_divL dv sh (sh.toInt.toNat + 1) dd 0 0 → ∀ (H : Heap) (locs : List Loc) (ls : Array Slot), va_P D vwCl (cRS h q1 q2 cA cB tf ff cw td an qb pa) H → va_D A (cRS h q1 q2 cA cB tf ff cw td an qb pa) → va_S A s.heap H locs → lv_has ls 11 [(9, .int v3), (8, .int v2), (6, .long v1), (0, .ref h), (1, .long dd), (3, .long dv), (5, .int sh)] → W p l e (headSpec wsX2_divide ({ frames := 2, cells := 0, slots := 0, locals := 46 } : Room)).room s m ([.ref h, .long dd, .long dv, .int sh]).toArray below meth c H locs 0 0 (MQ below (va_Ql (fun (r u : Int64) => r = u) (fun u t => ∃ (w_qb : Int32), R_divide dd dv sh = (u, w_qb) ∧ va_P D vwCl (cRS h q1 q2 cA cB tf ff cw td an w_qb pa) t.heap ∧ va_D A (cRS h q1 q2 cA cB tf ff cw td an w_qb pa)) A) ([.ref h, .long dd, .long dv, .int sh]).toArray s 0 0 A) (F0 m 27 ls []) := by
      intro n
      induction n with
      | zero => intro v1 v2 v3 hmu; exact absurd hmu (Nat.not_lt_zero _)
      | succ n ih =>
        intro v1 v2 v3 hmu hF H locs ls hP hD hS hl
        refine lv_iload hx hb dX2_divide_27 (lv_at hl 0 rfl) ?_
        refine lv_iload hx hb dX2_divide_29 (lv_at hl 6 rfl) ?_
        refine lv_icmp_ge (tgt := 95) hx hb dX2_divide_31 (by decide) (fun c_2 => ?_) (fun c_2 => ?_)
        · rw [R_divL_S dv sh n v1 v2 v3] at hF; rw [if_pos c_2] at hF
          have e_3 := hF.symm
          refine lv_aload_n hx hb dX2_divide_95 rfl (lv_at hl 3 rfl) ?_
          refine lv_iload hx hb dX2_divide_96 (lv_at hl 1 rfl) ?_
          refine va_put (v := .int v2) (ty := .int) (C := RX2) (T := TX2) (N := 7) hx hb hts in_X2 tyX2 tyX2_ok nmX2 hown hK hP hD hS 0 rfl rfl 5 (by decide) w_1 (fun _ h9 => h9) rfl (tyX2_ok 5 (by decide)) rfl rfl (Nat.le_of_ble_eq_true rfl) dX2_divide_98 (fun H locs hP hD hS => ?_)
          have hP : va_P D vwCl (cRS h q1 q2 cA cB tf ff cw td an v2 pa) H := hP
          have hD : va_D A (cRS h q1 q2 cA cB tf ff cw td an v2 pa) := hD
          refine lv_lload hx hb dX2_divide_101 (lv_at hl 2 rfl) ?_
          have hw : R_divide dd dv sh = (v1, v2) := by unfold R_divide; rw [if_pos c_1, e_3]; try dsimp only; try rfl
          exact W.lret hx hb hr (fun t9 ht hW => ⟨⟨_, v1, rfl, rfl, ⟨v2, hw, by rw [ht]; exact hP, hD⟩⟩, hS.F ht⟩) hS.2.2 dX2_divide_103
        · refine lv_lload hx hb dX2_divide_34 (lv_at hl 2 rfl) ?_
          refine lv_lconst (v := 0) hx hb dX2_divide_36 (by decide) ?_
          refine q_cut (v := bI (if v1 < 0 then true else false)) (pcJ := 46) (rest := []) (fun J => ?_) ?_
          · refine q_cl_ge (tgt := 45) hx hb dX2_divide_37 dX2_divide_38 (by decide) (fun c_4 => ?_) (fun c_4 => ?_)
            · refine lv_iconst (v := 0) hx hb dX2_divide_45 (by decide) ?_
              exact J _ (by rw [if_neg c_4]; try rfl)
            · refine lv_iconst (v := 1) hx hb dX2_divide_41 (by decide) ?_
              refine lv_goto (tgt := 46) hx hb dX2_divide_42 (by decide) ?_
              exact J _ (by rw [if_pos c_4]; try rfl)
          refine lv_istore (lv' := [(10, .int (bI (if v1 < 0 then true else false))), (9, .int v3), (8, .int v2), (6, .long v1), (0, .ref h), (1, .long dd), (3, .long dv), (5, .int sh)]) hx hb dX2_divide_46 hl (by decide) rfl (fun ls hl => ?_)
          refine lv_lload hx hb dX2_divide_48 (lv_at hl 3 rfl) ?_
          refine lv_iconst (v := 1) hx hb dX2_divide_50 (by decide) ?_
          refine lv_lshl (v := (jlshl v1 1)) hx hb dX2_divide_51 rfl ?_
          refine lv_lstore (lv' := [(6, .long (jlshl v1 1)), (10, .int (bI (if v1 < 0 then true else false))), (9, .int v3), (8, .int v2), (0, .ref h), (1, .long dd), (3, .long dv), (5, .int sh)]) hx hb dX2_divide_52 hl (by decide) rfl (fun ls hl => ?_)
          refine lv_iload hx hb dX2_divide_54 (lv_at hl 3 rfl) ?_
          refine lv_iconst (v := 1) hx hb dX2_divide_56 (by decide) ?_
          refine lv_ishl hx hb dX2_divide_57 ?_
          refine lv_bipush (v := 7) hx hb dX2_divide_58 (by decide) ?_
          refine lv_iand hx hb dX2_divide_60 ?_
          refine lv_istore (lv' := [(8, .int ((v2 <<< (1 &&& 31)) &&& 7)), (6, .long (jlshl v1 1)), (10, .int (bI (if v1 < 0 then true else false))), (9, .int v3), (0, .ref h), (1, .long dd), (3, .long dv), (5, .int sh)]) hx hb dX2_divide_61 hl (by decide) rfl (fun ls hl => ?_)
          refine lv_iload hx hb dX2_divide_63 (lv_at hl 2 rfl) ?_
          refine lv_if_ne (tgt := 77) hx hb dX2_divide_65 (by decide) (fun c_5 => ?_) (fun c_5 => ?_)
          · refine lv_lload hx hb dX2_divide_77 (lv_at hl 1 rfl) ?_
            refine lv_lload_n hx hb dX2_divide_79 rfl (lv_at hl 6 rfl) ?_
            refine lv_lsub hx hb dX2_divide_80 ?_
            refine lv_lstore (lv' := [(6, .long ((jlshl v1 1) - dv)), (8, .int ((v2 <<< (1 &&& 31)) &&& 7)), (10, .int (bI (if v1 < 0 then true else false))), (9, .int v3), (0, .ref h), (1, .long dd), (3, .long dv), (5, .int sh)]) hx hb dX2_divide_81 hl (by decide) rfl (fun ls hl => ?_)
            refine lv_iload hx hb dX2_divide_83 (lv_at hl 1 rfl) ?_
            refine lv_iconst (v := 1) hx hb dX2_divide_85 (by decide) ?_
            refine lv_ior hx hb dX2_divide_86 ?_
            refine lv_istore (lv' := [(8, .int (((v2 <<< (1 &&& 31)) &&& 7) ||| 1)), (6, .long ((jlshl v1 1) - dv)), (10, .int (bI (if v1 < 0 then true else false))), (9, .int v3), (0, .ref h), (1, .long dd), (3, .long dv), (5, .int sh)]) hx hb dX2_divide_87 hl (by decide) rfl (fun ls hl => ?_)
            refine lv_iinc (v := (v3 + 1)) (lv' := [(9, .int (v3 + 1)), (8, .int (((v2 <<< (1 &&& 31)) &&& 7) ||| 1)), (6, .long ((jlshl v1 1) - dv)), (10, .int (bI (if v1 < 0 then true else false))), (0, .ref h), (1, .long dd), (3, .long dv), (5, .int sh)]) hx hb dX2_divide_89 hl (k := 3) rfl rfl (by decide) rfl (fun ls hl => ?_)
            refine lv_goto (tgt := 27) hx hb dX2_divide_92 (by decide) ?_
            exact ih ((jlshl v1 1) - dv) (((v2 <<< (1 &&& 31)) &&& 7) ||| 1) (v3 + 1) (mu_go (mu_inc c_2) hmu) (by rw [← hF, R_divL_S dv sh n v1 v2 v3, if_neg c_2, if_neg c_5]) H locs ls hP hD hS (lv_sub hl [0, 1, 2, 4, 5, 6, 7] rfl)
          · refine lv_lload hx hb dX2_divide_68 (lv_at hl 1 rfl) ?_
            refine lv_lload_n hx hb dX2_divide_70 rfl (lv_at hl 6 rfl) ?_
            refine vp_callSi (va_cr (va_runS (As := [.long (jlshl v1 1), .long dv]) (rest := []) ⟨hx, hb, hml, hown, hts⟩ (c_J13_compareUnsigned_74951 l (jlshl v1 1) dv) (va_cwS 2 hts gX2_divide_J13_compareUnsigned_74951 rfl rfl rfl kS_J13_compareUnsigned_74951 ⟨Nat.le_of_ble_eq_true rfl, Nat.le_of_ble_eq_true rfl⟩) ⟨TB.blind, TB.pre⟩ rfl rfl hl.1 rfl (lv_room (Nat.le_of_ble_eq_true rfl)) dX2_divide_71 ⟨Nat.le_of_ble_eq_true rfl, Nat.le_of_ble_eq_true rfl⟩)) (fun r9 e9 => ?_)
            rw [e9]
            refine lv_if_lt (tgt := 89) hx hb dX2_divide_74 (by decide) (fun c_6 => ?_) (fun c_6 => ?_)
            · refine lv_iinc (v := (v3 + 1)) (lv' := [(9, .int (v3 + 1)), (8, .int ((v2 <<< (1 &&& 31)) &&& 7)), (6, .long (jlshl v1 1)), (10, .int (bI (if v1 < 0 then true else false))), (0, .ref h), (1, .long dd), (3, .long dv), (5, .int sh)]) hx hb dX2_divide_89 hl (k := 3) rfl rfl (by decide) rfl (fun ls hl => ?_)
              refine lv_goto (tgt := 27) hx hb dX2_divide_92 (by decide) ?_
              exact ih (jlshl v1 1) ((v2 <<< (1 &&& 31)) &&& 7) (v3 + 1) (mu_go (mu_inc c_2) hmu) (by rw [← hF, R_divL_S dv sh n v1 v2 v3, if_neg c_2, if_pos c_5, if_pos c_6]) H locs ls hP hD hS (lv_sub hl [0, 1, 2, 4, 5, 6, 7] rfl)
            · refine lv_lload hx hb dX2_divide_77 (lv_at hl 1 rfl) ?_
              refine lv_lload_n hx hb dX2_divide_79 rfl (lv_at hl 6 rfl) ?_
              refine lv_lsub hx hb dX2_divide_80 ?_
              refine lv_lstore (lv' := [(6, .long ((jlshl v1 1) - dv)), (8, .int ((v2 <<< (1 &&& 31)) &&& 7)), (10, .int (bI (if v1 < 0 then true else false))), (9, .int v3), (0, .ref h), (1, .long dd), (3, .long dv), (5, .int sh)]) hx hb dX2_divide_81 hl (by decide) rfl (fun ls hl => ?_)
              refine lv_iload hx hb dX2_divide_83 (lv_at hl 1 rfl) ?_
              refine lv_iconst (v := 1) hx hb dX2_divide_85 (by decide) ?_
              refine lv_ior hx hb dX2_divide_86 ?_
              refine lv_istore (lv' := [(8, .int (((v2 <<< (1 &&& 31)) &&& 7) ||| 1)), (6, .long ((jlshl v1 1) - dv)), (10, .int (bI (if v1 < 0 then true else false))), (9, .int v3), (0, .ref h), (1, .long dd), (3, .long dv), (5, .int sh)]) hx hb dX2_divide_87 hl (by decide) rfl (fun ls hl => ?_)
              refine lv_iinc (v := (v3 + 1)) (lv' := [(9, .int (v3 + 1)), (8, .int (((v2 <<< (1 &&& 31)) &&& 7) ||| 1)), (6, .long ((jlshl v1 1) - dv)), (10, .int (bI (if v1 < 0 then true else false))), (0, .ref h), (1, .long dd), (3, .long dv), (5, .int sh)]) hx hb dX2_divide_89 hl (k := 3) rfl rfl (by decide) rfl (fun ls hl => ?_)
              refine lv_goto (tgt := 27) hx hb dX2_divide_92 (by decide) ?_
              exact ih ((jlshl v1 1) - dv) (((v2 <<< (1 &&& 31)) &&& 7) ||| 1) (v3 + 1) (mu_go (mu_inc c_2) hmu) (by rw [← hF, R_divL_S dv sh n v1 v2 v3, if_neg c_2, if_pos c_5, if_neg c_6]) H locs ls hP hD hS (lv_sub hl [0, 1, 2, 4, 5, 6, 7] rfl)
    exact LOOP (sh.toInt.toNat + 1) dd 0 0 (mu_0 _) rfl s.heap _ ls hP hD hS (lv_sub hl [0, 1, 2, 3, 4, 5, 6] rfl)
  · refine lv_lload hx hb dX2_divide_15 (lv_at hl 1 rfl) ?_
    refine lv_lload_n hx hb dX2_divide_17 rfl (lv_at hl 4 rfl) ?_
    refine lv_lsub hx hb dX2_divide_18 ?_
    refine lv_lstore (lv' := [(6, .long (dd - dv)), (8, .int 0), (0, .ref h), (1, .long dd), (3, .long dv), (5, .int sh)]) hx hb dX2_divide_19 hl (by decide) rfl (fun ls hl => ?_)
    refine lv_iconst (v := 1) hx hb dX2_divide_21 (by decide) ?_
    refine lv_istore (lv' := [(8, .int 1), (6, .long (dd - dv)), (0, .ref h), (1, .long dd), (3, .long dv), (5, .int sh)]) hx hb dX2_divide_22 hl (by decide) rfl (fun ls hl => ?_)
    refine lv_iconst (v := 0) hx hb dX2_divide_24 (by decide) ?_
    refine lv_istore (lv' := [(9, .int 0), (8, .int 1), (6, .long (dd - dv)), (0, .ref h), (1, .long dd), (3, .long dv), (5, .int sh)]) hx hb dX2_divide_25 hl (by decide) rfl (fun ls hl => ?_)
    have LOOP : ∀ (n : Nat) (v1 : Int64) (v2 : Int32) (v3 : Int32), (sh.toInt - v3.toInt).toNat < n → R_divL dv sh n v1 v2 v3 = R_divL dv sh (sh.toInt.toNat + 1) (dd - dv) 1 0 → ∀ (H : Heap) (locs : List Loc) (ls : Array Slot), va_P D vwCl (cRS h q1 q2 cA cB tf ff cw td an qb pa) H → va_D A (cRS h q1 q2 cA cB tf ff cw td an qb pa) → va_S A s.heap H locs → lv_has ls 11 [(9, .int v3), (8, .int v2), (6, .long v1), (0, .ref h), (1, .long dd), (3, .long dv), (5, .int sh)] → W p l e (headSpec wsX2_divide ({ frames := 2, cells := 0, slots := 0, locals := 46 } : Room)).room s m ([.ref h, .long dd, .long dv, .int sh]).toArray below meth c H locs 0 0 (MQ below (va_Ql (fun (r u : Int64) => r = u) (fun u t => ∃ (w_qb : Int32), R_divide dd dv sh = (u, w_qb) ∧ va_P D vwCl (cRS h q1 q2 cA cB tf ff cw td an w_qb pa) t.heap ∧ va_D A (cRS h q1 q2 cA cB tf ff cw td an w_qb pa)) A) ([.ref h, .long dd, .long dv, .int sh]).toArray s 0 0 A) (F0 m 27 ls []) := by
      intro n
      induction n with
      | zero => intro v1 v2 v3 hmu; exact absurd hmu (Nat.not_lt_zero _)
      | succ n ih =>
        intro v1 v2 v3 hmu hF H locs ls hP hD hS hl
        refine lv_iload hx hb dX2_divide_27 (lv_at hl 0 rfl) ?_
        refine lv_iload hx hb dX2_divide_29 (lv_at hl 6 rfl) ?_
        refine lv_icmp_ge (tgt := 95) hx hb dX2_divide_31 (by decide) (fun c_7 => ?_) (fun c_7 => ?_)
        · rw [R_divL_S dv sh n v1 v2 v3] at hF; rw [if_pos c_7] at hF
          have e_8 := hF.symm
          refine lv_aload_n hx hb dX2_divide_95 rfl (lv_at hl 3 rfl) ?_
          refine lv_iload hx hb dX2_divide_96 (lv_at hl 1 rfl) ?_
          refine va_put (v := .int v2) (ty := .int) (C := RX2) (T := TX2) (N := 7) hx hb hts in_X2 tyX2 tyX2_ok nmX2 hown hK hP hD hS 0 rfl rfl 5 (by decide) w_1 (fun _ h9 => h9) rfl (tyX2_ok 5 (by decide)) rfl rfl (Nat.le_of_ble_eq_true rfl) dX2_divide_98 (fun H locs hP hD hS => ?_)
          have hP : va_P D vwCl (cRS h q1 q2 cA cB tf ff cw td an v2 pa) H := hP
          have hD : va_D A (cRS h q1 q2 cA cB tf ff cw td an v2 pa) := hD
          refine lv_lload hx hb dX2_divide_101 (lv_at hl 2 rfl) ?_
          have hw : R_divide dd dv sh = (v1, v2) := by unfold R_divide; rw [if_neg c_1, e_8]; try dsimp only; try rfl
          exact W.lret hx hb hr (fun t9 ht hW => ⟨⟨_, v1, rfl, rfl, ⟨v2, hw, by rw [ht]; exact hP, hD⟩⟩, hS.F ht⟩) hS.2.2 dX2_divide_103
        · refine lv_lload hx hb dX2_divide_34 (lv_at hl 2 rfl) ?_
          refine lv_lconst (v := 0) hx hb dX2_divide_36 (by decide) ?_
          refine q_cut (v := bI (if v1 < 0 then true else false)) (pcJ := 46) (rest := []) (fun J => ?_) ?_
          · refine q_cl_ge (tgt := 45) hx hb dX2_divide_37 dX2_divide_38 (by decide) (fun c_9 => ?_) (fun c_9 => ?_)
            · refine lv_iconst (v := 0) hx hb dX2_divide_45 (by decide) ?_
              exact J _ (by rw [if_neg c_9]; try rfl)
            · refine lv_iconst (v := 1) hx hb dX2_divide_41 (by decide) ?_
              refine lv_goto (tgt := 46) hx hb dX2_divide_42 (by decide) ?_
              exact J _ (by rw [if_pos c_9]; try rfl)
          refine lv_istore (lv' := [(10, .int (bI (if v1 < 0 then true else false))), (9, .int v3), (8, .int v2), (6, .long v1), (0, .ref h), (1, .long dd), (3, .long dv), (5, .int sh)]) hx hb dX2_divide_46 hl (by decide) rfl (fun ls hl => ?_)
          refine lv_lload hx hb dX2_divide_48 (lv_at hl 3 rfl) ?_
          refine lv_iconst (v := 1) hx hb dX2_divide_50 (by decide) ?_
          refine lv_lshl (v := (jlshl v1 1)) hx hb dX2_divide_51 rfl ?_
          refine lv_lstore (lv' := [(6, .long (jlshl v1 1)), (10, .int (bI (if v1 < 0 then true else false))), (9, .int v3), (8, .int v2), (0, .ref h), (1, .long dd), (3, .long dv), (5, .int sh)]) hx hb dX2_divide_52 hl (by decide) rfl (fun ls hl => ?_)
          refine lv_iload hx hb dX2_divide_54 (lv_at hl 3 rfl) ?_
          refine lv_iconst (v := 1) hx hb dX2_divide_56 (by decide) ?_
          refine lv_ishl hx hb dX2_divide_57 ?_
          refine lv_bipush (v := 7) hx hb dX2_divide_58 (by decide) ?_
          refine lv_iand hx hb dX2_divide_60 ?_
          refine lv_istore (lv' := [(8, .int ((v2 <<< (1 &&& 31)) &&& 7)), (6, .long (jlshl v1 1)), (10, .int (bI (if v1 < 0 then true else false))), (9, .int v3), (0, .ref h), (1, .long dd), (3, .long dv), (5, .int sh)]) hx hb dX2_divide_61 hl (by decide) rfl (fun ls hl => ?_)
          refine lv_iload hx hb dX2_divide_63 (lv_at hl 2 rfl) ?_
          refine lv_if_ne (tgt := 77) hx hb dX2_divide_65 (by decide) (fun c_10 => ?_) (fun c_10 => ?_)
          · refine lv_lload hx hb dX2_divide_77 (lv_at hl 1 rfl) ?_
            refine lv_lload_n hx hb dX2_divide_79 rfl (lv_at hl 6 rfl) ?_
            refine lv_lsub hx hb dX2_divide_80 ?_
            refine lv_lstore (lv' := [(6, .long ((jlshl v1 1) - dv)), (8, .int ((v2 <<< (1 &&& 31)) &&& 7)), (10, .int (bI (if v1 < 0 then true else false))), (9, .int v3), (0, .ref h), (1, .long dd), (3, .long dv), (5, .int sh)]) hx hb dX2_divide_81 hl (by decide) rfl (fun ls hl => ?_)
            refine lv_iload hx hb dX2_divide_83 (lv_at hl 1 rfl) ?_
            refine lv_iconst (v := 1) hx hb dX2_divide_85 (by decide) ?_
            refine lv_ior hx hb dX2_divide_86 ?_
            refine lv_istore (lv' := [(8, .int (((v2 <<< (1 &&& 31)) &&& 7) ||| 1)), (6, .long ((jlshl v1 1) - dv)), (10, .int (bI (if v1 < 0 then true else false))), (9, .int v3), (0, .ref h), (1, .long dd), (3, .long dv), (5, .int sh)]) hx hb dX2_divide_87 hl (by decide) rfl (fun ls hl => ?_)
            refine lv_iinc (v := (v3 + 1)) (lv' := [(9, .int (v3 + 1)), (8, .int (((v2 <<< (1 &&& 31)) &&& 7) ||| 1)), (6, .long ((jlshl v1 1) - dv)), (10, .int (bI (if v1 < 0 then true else false))), (0, .ref h), (1, .long dd), (3, .long dv), (5, .int sh)]) hx hb dX2_divide_89 hl (k := 3) rfl rfl (by decide) rfl (fun ls hl => ?_)
            refine lv_goto (tgt := 27) hx hb dX2_divide_92 (by decide) ?_
            exact ih ((jlshl v1 1) - dv) (((v2 <<< (1 &&& 31)) &&& 7) ||| 1) (v3 + 1) (mu_go (mu_inc c_7) hmu) (by rw [← hF, R_divL_S dv sh n v1 v2 v3, if_neg c_7, if_neg c_10]) H locs ls hP hD hS (lv_sub hl [0, 1, 2, 4, 5, 6, 7] rfl)
          · refine lv_lload hx hb dX2_divide_68 (lv_at hl 1 rfl) ?_
            refine lv_lload_n hx hb dX2_divide_70 rfl (lv_at hl 6 rfl) ?_
            refine vp_callSi (va_cr (va_runS (As := [.long (jlshl v1 1), .long dv]) (rest := []) ⟨hx, hb, hml, hown, hts⟩ (c_J13_compareUnsigned_74951 l (jlshl v1 1) dv) (va_cwS 2 hts gX2_divide_J13_compareUnsigned_74951 rfl rfl rfl kS_J13_compareUnsigned_74951 ⟨Nat.le_of_ble_eq_true rfl, Nat.le_of_ble_eq_true rfl⟩) ⟨TB.blind, TB.pre⟩ rfl rfl hl.1 rfl (lv_room (Nat.le_of_ble_eq_true rfl)) dX2_divide_71 ⟨Nat.le_of_ble_eq_true rfl, Nat.le_of_ble_eq_true rfl⟩)) (fun r9 e9 => ?_)
            rw [e9]
            refine lv_if_lt (tgt := 89) hx hb dX2_divide_74 (by decide) (fun c_11 => ?_) (fun c_11 => ?_)
            · refine lv_iinc (v := (v3 + 1)) (lv' := [(9, .int (v3 + 1)), (8, .int ((v2 <<< (1 &&& 31)) &&& 7)), (6, .long (jlshl v1 1)), (10, .int (bI (if v1 < 0 then true else false))), (0, .ref h), (1, .long dd), (3, .long dv), (5, .int sh)]) hx hb dX2_divide_89 hl (k := 3) rfl rfl (by decide) rfl (fun ls hl => ?_)
              refine lv_goto (tgt := 27) hx hb dX2_divide_92 (by decide) ?_
              exact ih (jlshl v1 1) ((v2 <<< (1 &&& 31)) &&& 7) (v3 + 1) (mu_go (mu_inc c_7) hmu) (by rw [← hF, R_divL_S dv sh n v1 v2 v3, if_neg c_7, if_pos c_10, if_pos c_11]) H locs ls hP hD hS (lv_sub hl [0, 1, 2, 4, 5, 6, 7] rfl)
            · refine lv_lload hx hb dX2_divide_77 (lv_at hl 1 rfl) ?_
              refine lv_lload_n hx hb dX2_divide_79 rfl (lv_at hl 6 rfl) ?_
              refine lv_lsub hx hb dX2_divide_80 ?_
              refine lv_lstore (lv' := [(6, .long ((jlshl v1 1) - dv)), (8, .int ((v2 <<< (1 &&& 31)) &&& 7)), (10, .int (bI (if v1 < 0 then true else false))), (9, .int v3), (0, .ref h), (1, .long dd), (3, .long dv), (5, .int sh)]) hx hb dX2_divide_81 hl (by decide) rfl (fun ls hl => ?_)
              refine lv_iload hx hb dX2_divide_83 (lv_at hl 1 rfl) ?_
              refine lv_iconst (v := 1) hx hb dX2_divide_85 (by decide) ?_
              refine lv_ior hx hb dX2_divide_86 ?_
              refine lv_istore (lv' := [(8, .int (((v2 <<< (1 &&& 31)) &&& 7) ||| 1)), (6, .long ((jlshl v1 1) - dv)), (10, .int (bI (if v1 < 0 then true else false))), (9, .int v3), (0, .ref h), (1, .long dd), (3, .long dv), (5, .int sh)]) hx hb dX2_divide_87 hl (by decide) rfl (fun ls hl => ?_)
              refine lv_iinc (v := (v3 + 1)) (lv' := [(9, .int (v3 + 1)), (8, .int (((v2 <<< (1 &&& 31)) &&& 7) ||| 1)), (6, .long ((jlshl v1 1) - dv)), (10, .int (bI (if v1 < 0 then true else false))), (0, .ref h), (1, .long dd), (3, .long dv), (5, .int sh)]) hx hb dX2_divide_89 hl (k := 3) rfl rfl (by decide) rfl (fun ls hl => ?_)
              refine lv_goto (tgt := 27) hx hb dX2_divide_92 (by decide) ?_
              exact ih ((jlshl v1 1) - dv) (((v2 <<< (1 &&& 31)) &&& 7) ||| 1) (v3 + 1) (mu_go (mu_inc c_7) hmu) (by rw [← hF, R_divL_S dv sh n v1 v2 v3, if_neg c_7, if_pos c_10, if_neg c_11]) H locs ls hP hD hS (lv_sub hl [0, 1, 2, 4, 5, 6, 7] rfl)
    exact LOOP (sh.toInt.toNat + 1) (dd - dv) 1 0 (mu_0 _) rfl s.heap _ ls hP hD hS (lv_sub hl [0, 1, 2, 3, 4, 5, 6] rfl)
def R_leftOver (cw : Int32) (td : Int32) (tx : Int32) (fx : Int64) (ty : Int32) (fy : Int64) : Int32 × Int64 × Int32 × Int32 × Bool :=
  if bI (R_isOf ty fy 4) = 0 then (if bI (R_nought tx fx) = 0 then (if 0 ≤ ((R_exp tx fx) - (R_exp ty fy)) then (match (R_divide (R_norm fx) (R_norm fy) (if bI (if ((R_exp tx fx) - (R_exp ty fy)) ≤ 63 then false else true) = 0 then ((R_exp tx fx) - (R_exp ty fy)) else 63)) with
        | (v_16, oqb_17) => match (R_make cw td (R_neg tx) v_16 (((R_exp tx fx) - 63) - (if bI (if ((R_exp tx fx) - (R_exp ty fy)) ≤ 63 then false else true) = 0 then ((R_exp tx fx) - (R_exp ty fy)) else 63))) with
        | (vt_20, vf_21, otd_22) => (vt_20, vf_21, otd_22, oqb_17, (if ((R_exp tx fx) - (R_exp ty fy)) ≤ 63 then false else true)))
      else (match (R_make cw td (R_neg tx) fx (R_unit tx)) with
        | (vt_25, vf_26, otd_27) => (vt_25, vf_26, otd_27, 0, false)))
    else (match (R_make cw td (R_neg tx) fx (R_unit tx)) with
      | (vt_9, vf_10, otd_11) => (vt_9, vf_10, otd_11, 0, false)))
  else (match (R_make cw td (R_neg tx) fx (R_unit tx)) with
    | (vt_3, vf_4, otd_5) => (vt_3, vf_4, otd_5, 0, false))
theorem kS_X2_leftOver : yX2_leftOver.cls ≠ "java/lang/invoke/MethodHandle" ∧ yX2_leftOver.cls ≠ "java/lang/invoke/VarHandle" ∧ (parseMethodDescriptor yX2_leftOver.desc).map (fun d => d.parameters.length) = some 2 := by decide +kernel
theorem kV_X2_leftOver : yX2_leftOver.cls = RX2 ∧ yX2_leftOver.cls ≠ "java/lang/invoke/MethodHandle" ∧ yX2_leftOver.cls ≠ "java/lang/invoke/VarHandle" ∧ (parseMethodDescriptor yX2_leftOver.desc).map (fun d => d.parameters.length) = some 2 := ⟨rfl, kS_X2_leftOver⟩
set_option maxHeartbeats 4000000 in
set_option maxRecDepth 100000 in
theorem c_X2_leftOver (l : Launch) (D : va_G) (ad : Nat → Nat) (h : Nat) (q1 : Nat) (q2 : Nat) (cA : ClassId) (cB : ClassId) (tf : Nat → Int32) (ff : Nat → Int64) (cw : Int32) (td : Int32) (an : Bool) (qb : Int32) (pa : Bool) (x : Nat) (tx : Int32) (fx : Int64) (y : Nat) (ty : Int32) (fy : Int64) (sz : Nat) : Met l yX2_leftOver wsX2_leftOver ({ frames := 7, cells := 1, slots := 2, locals := 181 } : Room) (va_Pc [.ref h, .ref x, .ref y] (MRB D ad h q1 q2 (tRS cA cB) (cRS h q1 q2 cA cB tf ff cw td an qb pa) [cReal x tx fx, cReal y ty fy] sz)) (va_Qr (fun (_ : Unit) => True) (fun _ a t => ∃ (w_t : Int32) (w_f : Int64) (w_td : Int32) (w_qb : Int32) (w_pa : Bool), R_leftOver cw td tx fx ty fy = (w_t, w_f, w_td, w_qb, w_pa) ∧ va_P D vwCl (cRS h q1 q2 cA cB tf ff cw w_td an w_qb w_pa) t.heap ∧ va_D (va_A (cRS h q1 q2 cA cB tf ff cw td an qb pa) sz) (cRS h q1 q2 cA cB tf ff cw w_td an w_qb w_pa) ∧ va_P D vwCl [cReal a w_t w_f] t.heap ∧ ap3 a h q1 q2) (va_A (cRS h q1 q2 cA cB tf ff cw td an qb pa) sz)) 1 2 (va_A (cRS h q1 q2 cA cB tf ff cw td an qb pa) sz) := by
  refine Met.ofW (cc := cX2_leftOver) (maxL := 8) (ret := (some (.object "RealSteps$Real"))) (by decide) rfl ?_
  intro p e s m args below meth c s₁ B hml hv
  obtain ⟨rfl, hsz, hP, hK, hD0, hR0, hRp, hE⟩ := hv
  have hx := B.exec
  have hb := B.bytes
  have hr := B.returns
  have hts := atoms_spec (ws := wsX2_leftOver) B.pre
  have hown : s.vm.findClass RX2 = some m.cls := findClass_of_methodNamed B.named
  have hlocks := B.notSynchronized
  have w_1 := hts (.fieldLink RX2 28 "RealSteps" "quotientBits" "I") (by decide +kernel)
  have in_X2 : ∀ w ∈ wsX20, w ∈ wsX2_leftOver := by decide +kernel
  have w_3 := hts (.fieldLink RX2 31 "RealSteps" "partial" "Z") (by decide +kernel)
  have w_4 := hts (.initialized RX1) (by decide +kernel)
  have w_5 := hts (.instanceMethod yX1_isNegative) (by decide +kernel)
  have w_6 := hts (.selects RX1 yX1_isNegative yX1_isNegative) (by decide +kernel)
  have w_7 := hts (.instanceMethod yX1_exponent) (by decide +kernel)
  have w_8 := hts (.selects RX1 yX1_exponent yX1_exponent) (by decide +kernel)
  have w_9 := hts (.fieldLink RX2 106 "RealSteps$Kind" "INFINITE" "LRealSteps$Kind;") (by decide +kernel)
  have w_10 := hts (.instanceMethod yX1_isOf) (by decide +kernel)
  have w_11 := hts (.selects RX1 yX1_isOf yX1_isOf) (by decide +kernel)
  have in_X1 : ∀ w ∈ wsX10, w ∈ wsX2_leftOver := by decide +kernel
  have w_13 := hts (.instanceMethod yX1_unit) (by decide +kernel)
  have w_14 := hts (.selects RX1 yX1_unit yX1_unit) (by decide +kernel)
  have w_15 := hts (.instanceMethod yX1_isNought) (by decide +kernel)
  have w_16 := hts (.selects RX1 yX1_isNought yX1_isNought) (by decide +kernel)
  have w_17 := hts (.instanceMethod yX1_normalised) (by decide +kernel)
  have w_18 := hts (.selects RX1 yX1_normalised yX1_normalised) (by decide +kernel)
  subst hsz
  have hD := hD0.self (sz := s.heap.size)
  have hRA := rs_A hR0 hRp (e1 := .inr (1, [.ref q1, .ref q2, .int cw, .int td, .int (bI an), .int qb, .int (bI pa)])) (e2 := .inl (cA, 8, .inl tf)) (e3 := .inl (cB, 8, .inr (.inl ff)))
  generalize hAe : va_A (cRS h q1 q2 cA cB tf ff cw td an qb pa) s.heap.size = A at hD hE hRA ⊢
  have hA : ∀ q : Nat, s.heap.size ≤ q → A q := fun q h => by rw [← hAe]; exact Or.inr h
  have hS : va_S A s.heap s.heap [] := va_S.rf
  have hP : va_P D vwCl (cRS h q1 q2 cA cB tf ff cw td an qb pa) s.heap := hP
  have hl := lv_entry ([.ref h, .ref x, .ref y]) (n := 8) (Nat.le_of_ble_eq_true rfl)
  rw [lg_entry_eq]
  generalize (lg_sl ([.ref h, .ref x, .ref y]) ++ List.replicate (8 - (lg_sl ([.ref h, .ref x, .ref y])).length) Slot.unset).toArray = ls at hl ⊢
  have hl : lv_has ls 8 [(0, .ref h), (1, .ref x), (2, .ref y)] := hl
  refine lv_aload_n hx hb dX2_leftOver_0 rfl (lv_at hl 0 rfl) ?_
  refine lv_iconst (v := 0) hx hb dX2_leftOver_1 (by decide) ?_
  refine va_put (v := .int 0) (ty := .int) (C := RX2) (T := TX2) (N := 7) hx hb hts in_X2 tyX2 tyX2_ok nmX2 hown hK hP hD hS 0 rfl rfl 5 (by decide) w_1 (fun _ h9 => h9) rfl (tyX2_ok 5 (by decide)) rfl rfl (Nat.le_of_ble_eq_true rfl) dX2_leftOver_2 (fun H locs hP hD hS => ?_)
  have hP : va_P D vwCl (cRS h q1 q2 cA cB tf ff cw td an 0 pa) H := hP
  have hD : va_D A (cRS h q1 q2 cA cB tf ff cw td an 0 pa) := hD
  refine lv_aload_n hx hb dX2_leftOver_5 rfl (lv_at hl 0 rfl) ?_
  refine lv_iconst (v := 0) hx hb dX2_leftOver_6 (by decide) ?_
  refine va_put (v := .int 0) (ty := .boolean) (C := RX2) (T := TX2) (N := 7) hx hb hts in_X2 tyX2 tyX2_ok nmX2 hown hK hP hD hS 0 rfl rfl 6 (by decide) w_3 (fun _ h9 => h9) rfl (tyX2_ok 6 (by decide)) rfl rfl (Nat.le_of_ble_eq_true rfl) dX2_leftOver_7 (fun H locs hP hD hS => ?_)
  have hP : va_P D vwCl (cRS h q1 q2 cA cB tf ff cw td an 0 false) H := hP
  have hD : va_D A (cRS h q1 q2 cA cB tf ff cw td an 0 false) := hD
  refine lv_aload_n hx hb dX2_leftOver_10 rfl (lv_at hl 1 rfl) ?_
  refine vp_callSi (va_cr (va_runVN (As := []) (rest := []) ⟨hx, hb, hml, hown, hts⟩ (c_X1_isNegative l D ad x tx fx) ⟨va_cnB 0 hts gX2_leftOver_X1_isNegative_n137 rfl rfl rfl (hE.2.1 _ (List.mem_of_getElem? (i := 2) rfl)) w_4 kS_X1_isNegative ⟨Nat.le_of_ble_eq_true rfl, Nat.le_of_ble_eq_true rfl⟩, w_5, w_6⟩ ⟨EB.blind, va_recv hK (ro_now hR0 hRA hS) (ci := 0) (q0 := 0) rfl rfl, EB.pre (hK.sub [] rfl) ((ro_now hR0 hRA hS).sub [0] rfl) hE hS⟩ rfl rfl hl.1 rfl (lv_room (Nat.le_of_ble_eq_true rfl)) dX2_leftOver_11 ⟨Nat.le_of_ble_eq_true rfl, Nat.le_of_ble_eq_true rfl⟩)) (fun r9 e9 => ?_)
  rw [e9]
  refine lv_istore_n (lv' := [(3, .int (bI (R_neg tx))), (0, .ref h), (1, .ref x), (2, .ref y)]) hx hb dX2_leftOver_14 rfl hl (by decide) rfl (fun ls hl => ?_)
  refine lv_aload_n hx hb dX2_leftOver_15 rfl (lv_at hl 2 rfl) ?_
  refine vp_callSi (va_cr (va_runVN (As := []) (rest := []) ⟨hx, hb, hml, hown, hts⟩ (c_X1_exponent l D ad x tx fx) ⟨va_cnB 0 hts gX2_leftOver_X1_exponent_n223 rfl rfl rfl (hE.2.1 _ (List.mem_of_getElem? (i := 3) rfl)) w_4 kS_X1_exponent ⟨Nat.le_of_ble_eq_true rfl, Nat.le_of_ble_eq_true rfl⟩, w_7, w_8⟩ ⟨EB.blind, va_recv hK (ro_now hR0 hRA hS) (ci := 0) (q0 := 0) rfl rfl, EB.pre (hK.sub [] rfl) ((ro_now hR0 hRA hS).sub [0] rfl) hE hS⟩ rfl rfl hl.1 rfl (lv_room (Nat.le_of_ble_eq_true rfl)) dX2_leftOver_16 ⟨Nat.le_of_ble_eq_true rfl, Nat.le_of_ble_eq_true rfl⟩)) (fun r9 e9 => ?_)
  rw [e9]
  refine lv_aload_n hx hb dX2_leftOver_19 rfl (lv_at hl 3 rfl) ?_
  refine vp_callSi (va_cr (va_runVN (As := []) (rest := [.int (R_exp tx fx)]) ⟨hx, hb, hml, hown, hts⟩ (c_X1_exponent l D ad y ty fy) ⟨va_cnB 0 hts gX2_leftOver_X1_exponent_n223 rfl rfl rfl (hE.2.1 _ (List.mem_of_getElem? (i := 3) rfl)) w_4 kS_X1_exponent ⟨Nat.le_of_ble_eq_true rfl, Nat.le_of_ble_eq_true rfl⟩, w_7, w_8⟩ ⟨EB.blind, va_recv hK (ro_now hR0 hRA hS) (ci := 0) (q0 := 1) rfl rfl, EB.pre (hK.sub [] rfl) ((ro_now hR0 hRA hS).sub [1] rfl) hE hS⟩ rfl rfl hl.1 rfl (lv_room (Nat.le_of_ble_eq_true rfl)) dX2_leftOver_20 ⟨Nat.le_of_ble_eq_true rfl, Nat.le_of_ble_eq_true rfl⟩)) (fun r9 e9 => ?_)
  rw [e9]
  refine lv_isub hx hb dX2_leftOver_23 ?_
  refine lv_istore (lv' := [(4, .int ((R_exp tx fx) - (R_exp ty fy))), (3, .int (bI (R_neg tx))), (0, .ref h), (1, .ref x), (2, .ref y)]) hx hb dX2_leftOver_24 hl (by decide) rfl (fun ls hl => ?_)
  refine lv_aload_n hx hb dX2_leftOver_26 rfl (lv_at hl 4 rfl) ?_
  refine va_gets (v := .ref (ad 4)) hx hb (hE.1.1 4 (by decide)).1 hS hown w_9 (fun _ h9 => h9) dX2_leftOver_27 ?_
  refine vp_callSi (va_cr (va_runVN (As := [.ref (ad 4)]) (rest := []) ⟨hx, hb, hml, hown, hts⟩ (c_X1_isOf l D ad y ty fy 4 (by decide)) ⟨va_cnB 1 hts gX2_leftOver_X1_isOf_n112 rfl rfl rfl (hE.2.1 _ (List.mem_of_getElem? (i := 0) rfl)) w_4 kS_X1_isOf ⟨Nat.le_of_ble_eq_true rfl, Nat.le_of_ble_eq_true rfl⟩, w_10, w_11⟩ ⟨EB.blind, va_recv hK (ro_now hR0 hRA hS) (ci := 0) (q0 := 1) rfl rfl, EB.pre (hK.sub [] rfl) ((ro_now hR0 hRA hS).sub [1] rfl) hE hS⟩ rfl rfl hl.1 rfl (lv_room (Nat.le_of_ble_eq_true rfl)) dX2_leftOver_30 ⟨Nat.le_of_ble_eq_true rfl, Nat.le_of_ble_eq_true rfl⟩)) (fun r9 e9 => ?_)
  rw [e9]
  refine lv_if_ne (tgt := 48) hx hb dX2_leftOver_33 (by decide) (fun c_1 => ?_) (fun c_1 => ?_)
  · refine lv_aload_n hx hb dX2_leftOver_48 rfl (lv_at hl 2 rfl) ?_
    refine lv_iload_n hx hb dX2_leftOver_49 rfl (lv_at hl 1 rfl) ?_
    refine lv_aload_n hx hb dX2_leftOver_50 rfl (lv_at hl 3 rfl) ?_
    refine va_getN (v := .long fx) (C := RX1) (T := TX1) (N := 2) hx hb hts in_X1 hown hK (ro_now hR0 hRA hS) 0 rfl rfl 1 (by decide) (va_Nw.use rfl (hE.2.1 (.fieldLinkNest RX2 150 "RealSteps$Real" "fraction" "J" RX2) (by decide))) (fun _ h9 => h9) rfl dX2_leftOver_51 ?_
    refine lv_aload_n hx hb dX2_leftOver_54 rfl (lv_at hl 3 rfl) ?_
    refine vp_callSi (va_cr (va_runVN (As := []) (rest := [.long fx, .int (bI (R_neg tx)), .ref h]) ⟨hx, hb, hml, hown, hts⟩ (c_X1_unit l D ad x tx fx) ⟨va_cnB 0 hts gX2_leftOver_X1_unit_n226 rfl rfl rfl (hE.2.1 _ (List.mem_of_getElem? (i := 4) rfl)) w_4 kS_X1_unit ⟨Nat.le_of_ble_eq_true rfl, Nat.le_of_ble_eq_true rfl⟩, w_13, w_14⟩ ⟨EB.blind, va_recv hK (ro_now hR0 hRA hS) (ci := 0) (q0 := 0) rfl rfl, EB.pre (hK.sub [] rfl) ((ro_now hR0 hRA hS).sub [0] rfl) hE hS⟩ rfl rfl hl.1 rfl (lv_room (Nat.le_of_ble_eq_true rfl)) dX2_leftOver_55 ⟨Nat.le_of_ble_eq_true rfl, Nat.le_of_ble_eq_true rfl⟩)) (fun r9 e9 => ?_)
    rw [e9]
    have hFc := va_free (wc := cRS h q1 q2 cA cB tf ff cw td an 0 false) hD hS hA [0, 1, 2] rfl
    refine va_callr (va_runV (As := [.int (bI (R_neg tx)), .long fx, .int (R_unit tx)]) (rest := []) ⟨hx, hb, hml, hown, hts⟩ (c_X2_make l D ad h q1 q2 cA cB tf ff cw td an 0 false (R_neg tx) fx (R_unit tx) H.size) (cwV 3 hts gX2_leftOver_X2_make rfl rfl rfl kV_X2_make ⟨Nat.le_of_ble_eq_true rfl, Nat.le_of_ble_eq_true rfl⟩) ⟨MRB.blind, va_recv hK hP (ci := 1) (q0 := 0) rfl rfl, MRB.pre hK hP hD vP_nil ap_nil hE hS hFc⟩ rfl rfl hl.1 rfl (lv_room (Nat.le_of_ble_eq_true rfl)) dX2_leftOver_58 ⟨Nat.le_of_ble_eq_true rfl, Nat.le_of_ble_eq_true rfl⟩) hS (fun q _ h9 => hFc q h9) hFc (fun u9 y_2 t9 H locs ht hvm hw hB hz1 hk1 hS => ?_)
    obtain ⟨vt_3, vf_4, otd_5, e_6, hP, hD9, hx_y_2, nx_y_2⟩ := hB
    rw [ht] at hP hx_y_2
    have hD : va_D A (cRS h q1 q2 cA cB tf ff cw otd_5 an 0 false) := hD9.weaken (fun _ _ _ h => hFc _ h)
    have hw : R_leftOver cw td tx fx ty fy = (vt_3, vf_4, otd_5, 0, false) := by unfold R_leftOver; rw [if_neg c_1, e_6]; try dsimp only; try rfl
    exact W.aret hx hb hr (Or.inl ⟨_, rfl⟩) (Or.inr ⟨_, rfl⟩) (fun t9 ht hW => ⟨⟨(), y_2, rfl, trivial, ⟨vt_3, vf_4, otd_5, 0, false, hw, by rw [ht]; exact hP, hD, by rw [ht]; exact hx_y_2, nx_y_2⟩⟩, hS.F ht⟩) hS.2.2 dX2_leftOver_61
  · refine lv_aload_n hx hb dX2_leftOver_36 rfl (lv_at hl 3 rfl) ?_
    refine vp_callSi (va_cr (va_runVN (As := []) (rest := []) ⟨hx, hb, hml, hown, hts⟩ (c_X1_isNought l D ad x tx fx) ⟨va_cnB 0 hts gX2_leftOver_X1_isNought_n96 rfl rfl rfl (hE.2.1 _ (List.mem_of_getElem? (i := 8) rfl)) w_4 kS_X1_isNought ⟨Nat.le_of_ble_eq_true rfl, Nat.le_of_ble_eq_true rfl⟩, w_15, w_16⟩ ⟨EB.blind, va_recv hK (ro_now hR0 hRA hS) (ci := 0) (q0 := 0) rfl rfl, EB.pre (hK.sub [] rfl) ((ro_now hR0 hRA hS).sub [0] rfl) hE hS⟩ rfl rfl hl.1 rfl (lv_room (Nat.le_of_ble_eq_true rfl)) dX2_leftOver_37 ⟨Nat.le_of_ble_eq_true rfl, Nat.le_of_ble_eq_true rfl⟩)) (fun r9 e9 => ?_)
    rw [e9]
    refine lv_if_ne (tgt := 48) hx hb dX2_leftOver_40 (by decide) (fun c_7 => ?_) (fun c_7 => ?_)
    · refine lv_aload_n hx hb dX2_leftOver_48 rfl (lv_at hl 2 rfl) ?_
      refine lv_iload_n hx hb dX2_leftOver_49 rfl (lv_at hl 1 rfl) ?_
      refine lv_aload_n hx hb dX2_leftOver_50 rfl (lv_at hl 3 rfl) ?_
      refine va_getN (v := .long fx) (C := RX1) (T := TX1) (N := 2) hx hb hts in_X1 hown hK (ro_now hR0 hRA hS) 0 rfl rfl 1 (by decide) (va_Nw.use rfl (hE.2.1 (.fieldLinkNest RX2 150 "RealSteps$Real" "fraction" "J" RX2) (by decide))) (fun _ h9 => h9) rfl dX2_leftOver_51 ?_
      refine lv_aload_n hx hb dX2_leftOver_54 rfl (lv_at hl 3 rfl) ?_
      refine vp_callSi (va_cr (va_runVN (As := []) (rest := [.long fx, .int (bI (R_neg tx)), .ref h]) ⟨hx, hb, hml, hown, hts⟩ (c_X1_unit l D ad x tx fx) ⟨va_cnB 0 hts gX2_leftOver_X1_unit_n226 rfl rfl rfl (hE.2.1 _ (List.mem_of_getElem? (i := 4) rfl)) w_4 kS_X1_unit ⟨Nat.le_of_ble_eq_true rfl, Nat.le_of_ble_eq_true rfl⟩, w_13, w_14⟩ ⟨EB.blind, va_recv hK (ro_now hR0 hRA hS) (ci := 0) (q0 := 0) rfl rfl, EB.pre (hK.sub [] rfl) ((ro_now hR0 hRA hS).sub [0] rfl) hE hS⟩ rfl rfl hl.1 rfl (lv_room (Nat.le_of_ble_eq_true rfl)) dX2_leftOver_55 ⟨Nat.le_of_ble_eq_true rfl, Nat.le_of_ble_eq_true rfl⟩)) (fun r9 e9 => ?_)
      rw [e9]
      have hFc := va_free (wc := cRS h q1 q2 cA cB tf ff cw td an 0 false) hD hS hA [0, 1, 2] rfl
      refine va_callr (va_runV (As := [.int (bI (R_neg tx)), .long fx, .int (R_unit tx)]) (rest := []) ⟨hx, hb, hml, hown, hts⟩ (c_X2_make l D ad h q1 q2 cA cB tf ff cw td an 0 false (R_neg tx) fx (R_unit tx) H.size) (cwV 3 hts gX2_leftOver_X2_make rfl rfl rfl kV_X2_make ⟨Nat.le_of_ble_eq_true rfl, Nat.le_of_ble_eq_true rfl⟩) ⟨MRB.blind, va_recv hK hP (ci := 1) (q0 := 0) rfl rfl, MRB.pre hK hP hD vP_nil ap_nil hE hS hFc⟩ rfl rfl hl.1 rfl (lv_room (Nat.le_of_ble_eq_true rfl)) dX2_leftOver_58 ⟨Nat.le_of_ble_eq_true rfl, Nat.le_of_ble_eq_true rfl⟩) hS (fun q _ h9 => hFc q h9) hFc (fun u9 y_8 t9 H locs ht hvm hw hB hz1 hk1 hS => ?_)
      obtain ⟨vt_9, vf_10, otd_11, e_12, hP, hD9, hx_y_8, nx_y_8⟩ := hB
      rw [ht] at hP hx_y_8
      have hD : va_D A (cRS h q1 q2 cA cB tf ff cw otd_11 an 0 false) := hD9.weaken (fun _ _ _ h => hFc _ h)
      have hw : R_leftOver cw td tx fx ty fy = (vt_9, vf_10, otd_11, 0, false) := by unfold R_leftOver; rw [if_pos c_1, if_neg c_7, e_12]; try dsimp only; try rfl
      exact W.aret hx hb hr (Or.inl ⟨_, rfl⟩) (Or.inr ⟨_, rfl⟩) (fun t9 ht hW => ⟨⟨(), y_8, rfl, trivial, ⟨vt_9, vf_10, otd_11, 0, false, hw, by rw [ht]; exact hP, hD, by rw [ht]; exact hx_y_8, nx_y_8⟩⟩, hS.F ht⟩) hS.2.2 dX2_leftOver_61
    · refine lv_iload hx hb dX2_leftOver_43 (lv_at hl 0 rfl) ?_
      refine lv_if_ge (tgt := 62) hx hb dX2_leftOver_45 (by decide) (fun c_13 => ?_) (fun c_13 => ?_)
      · refine lv_aload_n hx hb dX2_leftOver_62 rfl (lv_at hl 2 rfl) ?_
        refine lv_iload hx hb dX2_leftOver_63 (lv_at hl 0 rfl) ?_
        refine lv_bipush (v := 63) hx hb dX2_leftOver_65 (by decide) ?_
        refine q_cut (v := bI (if ((R_exp tx fx) - (R_exp ty fy)) ≤ 63 then false else true)) (pcJ := 75) (rest := [.ref h]) (fun J => ?_) ?_
        · refine lv_icmp_le (tgt := 74) hx hb dX2_leftOver_67 (by decide) (fun c_14 => ?_) (fun c_14 => ?_)
          · refine lv_iconst (v := 0) hx hb dX2_leftOver_74 (by decide) ?_
            exact J _ (by rw [if_pos c_14]; try rfl)
          · refine lv_iconst (v := 1) hx hb dX2_leftOver_70 (by decide) ?_
            refine lv_goto (tgt := 75) hx hb dX2_leftOver_71 (by decide) ?_
            exact J _ (by rw [if_neg c_14]; try rfl)
        refine va_put (v := .int (bI (if ((R_exp tx fx) - (R_exp ty fy)) ≤ 63 then false else true))) (ty := .boolean) (C := RX2) (T := TX2) (N := 7) hx hb hts in_X2 tyX2 tyX2_ok nmX2 hown hK hP hD hS 0 rfl rfl 6 (by decide) w_3 (fun _ h9 => h9) rfl (tyX2_ok 6 (by decide)) (bI_nar _) (bI_fit _) (Nat.le_of_ble_eq_true rfl) dX2_leftOver_75 (fun H locs hP hD hS => ?_)
        have hP : va_P D vwCl (cRS h q1 q2 cA cB tf ff cw td an 0 (if ((R_exp tx fx) - (R_exp ty fy)) ≤ 63 then false else true)) H := hP
        have hD : va_D A (cRS h q1 q2 cA cB tf ff cw td an 0 (if ((R_exp tx fx) - (R_exp ty fy)) ≤ 63 then false else true)) := hD
        refine lv_aload_n hx hb dX2_leftOver_78 rfl (lv_at hl 2 rfl) ?_
        refine va_get (v := .int (bI (if ((R_exp tx fx) - (R_exp ty fy)) ≤ 63 then false else true))) (C := RX2) (T := TX2) (N := 7) hx hb hts in_X2 hown hK hP 0 rfl rfl 6 (by decide) w_3 (fun _ h9 => h9) rfl dX2_leftOver_79 ?_
        refine q_cut (v := (if bI (if ((R_exp tx fx) - (R_exp ty fy)) ≤ 63 then false else true) = 0 then ((R_exp tx fx) - (R_exp ty fy)) else 63)) (pcJ := 92) (rest := []) (fun J => ?_) ?_
        · refine lv_if_eq (tgt := 90) hx hb dX2_leftOver_82 (by decide) (fun c_15 => ?_) (fun c_15 => ?_)
          · refine lv_iload hx hb dX2_leftOver_90 (lv_at hl 0 rfl) ?_
            exact J _ (by rw [if_pos c_15]; try rfl)
          · refine lv_bipush (v := 63) hx hb dX2_leftOver_85 (by decide) ?_
            refine lv_goto (tgt := 92) hx hb dX2_leftOver_87 (by decide) ?_
            exact J _ (by rw [if_neg c_15]; try rfl)
        refine lv_istore (lv' := [(5, .int (if bI (if ((R_exp tx fx) - (R_exp ty fy)) ≤ 63 then false else true) = 0 then ((R_exp tx fx) - (R_exp ty fy)) else 63)), (4, .int ((R_exp tx fx) - (R_exp ty fy))), (3, .int (bI (R_neg tx))), (0, .ref h), (1, .ref x), (2, .ref y)]) hx hb dX2_leftOver_92 hl (by decide) rfl (fun ls hl => ?_)
        refine lv_aload_n hx hb dX2_leftOver_94 rfl (lv_at hl 3 rfl) ?_
        refine lv_aload_n hx hb dX2_leftOver_95 rfl (lv_at hl 4 rfl) ?_
        refine vp_callSl (va_cr (va_runVN (As := []) (rest := [.ref h]) ⟨hx, hb, hml, hown, hts⟩ (c_X1_normalised l D ad x tx fx) ⟨va_cnB 0 hts gX2_leftOver_X1_normalised_n233 rfl rfl rfl (hE.2.1 _ (List.mem_of_getElem? (i := 5) rfl)) w_4 kS_X1_normalised ⟨Nat.le_of_ble_eq_true rfl, Nat.le_of_ble_eq_true rfl⟩, w_17, w_18⟩ ⟨EB.blind, va_recv hK (ro_now hR0 hRA hS) (ci := 0) (q0 := 0) rfl rfl, EB.pre (hK.sub [] rfl) ((ro_now hR0 hRA hS).sub [0] rfl) hE hS⟩ rfl rfl hl.1 rfl (lv_room (Nat.le_of_ble_eq_true rfl)) dX2_leftOver_96 ⟨Nat.le_of_ble_eq_true rfl, Nat.le_of_ble_eq_true rfl⟩)) (fun r9 e9 => ?_)
        rw [e9]
        refine lv_aload_n hx hb dX2_leftOver_99 rfl (lv_at hl 5 rfl) ?_
        refine vp_callSl (va_cr (va_runVN (As := []) (rest := [.long (R_norm fx), .ref h]) ⟨hx, hb, hml, hown, hts⟩ (c_X1_normalised l D ad y ty fy) ⟨va_cnB 0 hts gX2_leftOver_X1_normalised_n233 rfl rfl rfl (hE.2.1 _ (List.mem_of_getElem? (i := 5) rfl)) w_4 kS_X1_normalised ⟨Nat.le_of_ble_eq_true rfl, Nat.le_of_ble_eq_true rfl⟩, w_17, w_18⟩ ⟨EB.blind, va_recv hK (ro_now hR0 hRA hS) (ci := 0) (q0 := 1) rfl rfl, EB.pre (hK.sub [] rfl) ((ro_now hR0 hRA hS).sub [1] rfl) hE hS⟩ rfl rfl hl.1 rfl (lv_room (Nat.le_of_ble_eq_true rfl)) dX2_leftOver_100 ⟨Nat.le_of_ble_eq_true rfl, Nat.le_of_ble_eq_true rfl⟩)) (fun r9 e9 => ?_)
        rw [e9]
        refine lv_iload hx hb dX2_leftOver_103 (lv_at hl 0 rfl) ?_
        have hFc := va_free (wc := cRS h q1 q2 cA cB tf ff cw td an 0 (if ((R_exp tx fx) - (R_exp ty fy)) ≤ 63 then false else true)) hD hS hA [0, 1, 2] rfl
        refine va_calll (va_runV (As := [.long (R_norm fx), .long (R_norm fy), .int (if bI (if ((R_exp tx fx) - (R_exp ty fy)) ≤ 63 then false else true) = 0 then ((R_exp tx fx) - (R_exp ty fy)) else 63)]) (rest := []) ⟨hx, hb, hml, hown, hts⟩ (c_X2_divide l D ad h q1 q2 cA cB tf ff cw td an 0 (if ((R_exp tx fx) - (R_exp ty fy)) ≤ 63 then false else true) (R_norm fx) (R_norm fy) (if bI (if ((R_exp tx fx) - (R_exp ty fy)) ≤ 63 then false else true) = 0 then ((R_exp tx fx) - (R_exp ty fy)) else 63) H.size) (cwV 3 hts gX2_leftOver_X2_divide rfl rfl rfl kV_X2_divide ⟨Nat.le_of_ble_eq_true rfl, Nat.le_of_ble_eq_true rfl⟩) ⟨MRB.blind, va_recv hK hP (ci := 1) (q0 := 0) rfl rfl, MRB.pre hK hP hD vP_nil ap_nil hE hS hFc⟩ rfl rfl hl.1 rfl (lv_room (Nat.le_of_ble_eq_true rfl)) dX2_leftOver_105 ⟨Nat.le_of_ble_eq_true rfl, Nat.le_of_ble_eq_true rfl⟩) hS (fun q _ h9 => hFc q h9) hFc (fun v_16 u9 t9 H locs ht hvm hw hB hz1 hk1 hS => ?_)
        obtain rfl := hw
        obtain ⟨oqb_17, e_18, hP, hD9⟩ := hB
        rw [ht] at hP
        have hD : va_D A (cRS h q1 q2 cA cB tf ff cw td an oqb_17 (if ((R_exp tx fx) - (R_exp ty fy)) ≤ 63 then false else true)) := hD9.weaken (fun _ _ _ h => hFc _ h)
        refine lv_lstore (lv' := [(6, .long v_16), (5, .int (if bI (if ((R_exp tx fx) - (R_exp ty fy)) ≤ 63 then false else true) = 0 then ((R_exp tx fx) - (R_exp ty fy)) else 63)), (4, .int ((R_exp tx fx) - (R_exp ty fy))), (3, .int (bI (R_neg tx))), (0, .ref h), (1, .ref x), (2, .ref y)]) hx hb dX2_leftOver_108 hl (by decide) rfl (fun ls hl => ?_)
        refine lv_aload_n hx hb dX2_leftOver_110 rfl (lv_at hl 4 rfl) ?_
        refine lv_iload_n hx hb dX2_leftOver_111 rfl (lv_at hl 3 rfl) ?_
        refine lv_lload hx hb dX2_leftOver_112 (lv_at hl 0 rfl) ?_
        refine lv_aload_n hx hb dX2_leftOver_114 rfl (lv_at hl 5 rfl) ?_
        refine vp_callSi (va_cr (va_runVN (As := []) (rest := [.long v_16, .int (bI (R_neg tx)), .ref h]) ⟨hx, hb, hml, hown, hts⟩ (c_X1_exponent l D ad x tx fx) ⟨va_cnB 0 hts gX2_leftOver_X1_exponent_n223 rfl rfl rfl (hE.2.1 _ (List.mem_of_getElem? (i := 3) rfl)) w_4 kS_X1_exponent ⟨Nat.le_of_ble_eq_true rfl, Nat.le_of_ble_eq_true rfl⟩, w_7, w_8⟩ ⟨EB.blind, va_recv hK (ro_now hR0 hRA hS) (ci := 0) (q0 := 0) rfl rfl, EB.pre (hK.sub [] rfl) ((ro_now hR0 hRA hS).sub [0] rfl) hE hS⟩ rfl rfl hl.1 rfl (lv_room (Nat.le_of_ble_eq_true rfl)) dX2_leftOver_115 ⟨Nat.le_of_ble_eq_true rfl, Nat.le_of_ble_eq_true rfl⟩)) (fun r9 e9 => ?_)
        rw [e9]
        refine lv_bipush (v := 63) hx hb dX2_leftOver_118 (by decide) ?_
        refine lv_isub hx hb dX2_leftOver_120 ?_
        refine lv_iload hx hb dX2_leftOver_121 (lv_at hl 1 rfl) ?_
        refine lv_isub hx hb dX2_leftOver_123 ?_
        have hFc := va_free (wc := cRS h q1 q2 cA cB tf ff cw td an oqb_17 (if ((R_exp tx fx) - (R_exp ty fy)) ≤ 63 then false else true)) hD hS hA [0, 1, 2] rfl
        refine va_callr (va_runV (As := [.int (bI (R_neg tx)), .long v_16, .int (((R_exp tx fx) - 63) - (if bI (if ((R_exp tx fx) - (R_exp ty fy)) ≤ 63 then false else true) = 0 then ((R_exp tx fx) - (R_exp ty fy)) else 63))]) (rest := []) ⟨hx, hb, hml, hown, hts⟩ (c_X2_make l D ad h q1 q2 cA cB tf ff cw td an oqb_17 (if ((R_exp tx fx) - (R_exp ty fy)) ≤ 63 then false else true) (R_neg tx) v_16 (((R_exp tx fx) - 63) - (if bI (if ((R_exp tx fx) - (R_exp ty fy)) ≤ 63 then false else true) = 0 then ((R_exp tx fx) - (R_exp ty fy)) else 63)) H.size) (cwV 3 hts gX2_leftOver_X2_make rfl rfl rfl kV_X2_make ⟨Nat.le_of_ble_eq_true rfl, Nat.le_of_ble_eq_true rfl⟩) ⟨MRB.blind, va_recv hK hP (ci := 1) (q0 := 0) rfl rfl, MRB.pre hK hP hD vP_nil ap_nil hE hS hFc⟩ rfl rfl hl.1 rfl (lv_room (Nat.le_of_ble_eq_true rfl)) dX2_leftOver_124 ⟨Nat.le_of_ble_eq_true rfl, Nat.le_of_ble_eq_true rfl⟩) hS (fun q _ h9 => hFc q h9) hFc (fun u9 y_19 t9 H locs ht hvm hw hB hz1 hk1 hS => ?_)
        obtain ⟨vt_20, vf_21, otd_22, e_23, hP, hD9, hx_y_19, nx_y_19⟩ := hB
        rw [ht] at hP hx_y_19
        have hD : va_D A (cRS h q1 q2 cA cB tf ff cw otd_22 an oqb_17 (if ((R_exp tx fx) - (R_exp ty fy)) ≤ 63 then false else true)) := hD9.weaken (fun _ _ _ h => hFc _ h)
        have hw : R_leftOver cw td tx fx ty fy = (vt_20, vf_21, otd_22, oqb_17, (if ((R_exp tx fx) - (R_exp ty fy)) ≤ 63 then false else true)) := by unfold R_leftOver; rw [if_pos c_1, if_pos c_7, if_pos c_13, e_18]; try dsimp only; rw [e_23]; try dsimp only; try rfl
        exact W.aret hx hb hr (Or.inl ⟨_, rfl⟩) (Or.inr ⟨_, rfl⟩) (fun t9 ht hW => ⟨⟨(), y_19, rfl, trivial, ⟨vt_20, vf_21, otd_22, oqb_17, (if ((R_exp tx fx) - (R_exp ty fy)) ≤ 63 then false else true), hw, by rw [ht]; exact hP, hD, by rw [ht]; exact hx_y_19, nx_y_19⟩⟩, hS.F ht⟩) hS.2.2 dX2_leftOver_127
      · refine lv_aload_n hx hb dX2_leftOver_48 rfl (lv_at hl 2 rfl) ?_
        refine lv_iload_n hx hb dX2_leftOver_49 rfl (lv_at hl 1 rfl) ?_
        refine lv_aload_n hx hb dX2_leftOver_50 rfl (lv_at hl 3 rfl) ?_
        refine va_getN (v := .long fx) (C := RX1) (T := TX1) (N := 2) hx hb hts in_X1 hown hK (ro_now hR0 hRA hS) 0 rfl rfl 1 (by decide) (va_Nw.use rfl (hE.2.1 (.fieldLinkNest RX2 150 "RealSteps$Real" "fraction" "J" RX2) (by decide))) (fun _ h9 => h9) rfl dX2_leftOver_51 ?_
        refine lv_aload_n hx hb dX2_leftOver_54 rfl (lv_at hl 3 rfl) ?_
        refine vp_callSi (va_cr (va_runVN (As := []) (rest := [.long fx, .int (bI (R_neg tx)), .ref h]) ⟨hx, hb, hml, hown, hts⟩ (c_X1_unit l D ad x tx fx) ⟨va_cnB 0 hts gX2_leftOver_X1_unit_n226 rfl rfl rfl (hE.2.1 _ (List.mem_of_getElem? (i := 4) rfl)) w_4 kS_X1_unit ⟨Nat.le_of_ble_eq_true rfl, Nat.le_of_ble_eq_true rfl⟩, w_13, w_14⟩ ⟨EB.blind, va_recv hK (ro_now hR0 hRA hS) (ci := 0) (q0 := 0) rfl rfl, EB.pre (hK.sub [] rfl) ((ro_now hR0 hRA hS).sub [0] rfl) hE hS⟩ rfl rfl hl.1 rfl (lv_room (Nat.le_of_ble_eq_true rfl)) dX2_leftOver_55 ⟨Nat.le_of_ble_eq_true rfl, Nat.le_of_ble_eq_true rfl⟩)) (fun r9 e9 => ?_)
        rw [e9]
        have hFc := va_free (wc := cRS h q1 q2 cA cB tf ff cw td an 0 false) hD hS hA [0, 1, 2] rfl
        refine va_callr (va_runV (As := [.int (bI (R_neg tx)), .long fx, .int (R_unit tx)]) (rest := []) ⟨hx, hb, hml, hown, hts⟩ (c_X2_make l D ad h q1 q2 cA cB tf ff cw td an 0 false (R_neg tx) fx (R_unit tx) H.size) (cwV 3 hts gX2_leftOver_X2_make rfl rfl rfl kV_X2_make ⟨Nat.le_of_ble_eq_true rfl, Nat.le_of_ble_eq_true rfl⟩) ⟨MRB.blind, va_recv hK hP (ci := 1) (q0 := 0) rfl rfl, MRB.pre hK hP hD vP_nil ap_nil hE hS hFc⟩ rfl rfl hl.1 rfl (lv_room (Nat.le_of_ble_eq_true rfl)) dX2_leftOver_58 ⟨Nat.le_of_ble_eq_true rfl, Nat.le_of_ble_eq_true rfl⟩) hS (fun q _ h9 => hFc q h9) hFc (fun u9 y_24 t9 H locs ht hvm hw hB hz1 hk1 hS => ?_)
        obtain ⟨vt_25, vf_26, otd_27, e_28, hP, hD9, hx_y_24, nx_y_24⟩ := hB
        rw [ht] at hP hx_y_24
        have hD : va_D A (cRS h q1 q2 cA cB tf ff cw otd_27 an 0 false) := hD9.weaken (fun _ _ _ h => hFc _ h)
        have hw : R_leftOver cw td tx fx ty fy = (vt_25, vf_26, otd_27, 0, false) := by unfold R_leftOver; rw [if_pos c_1, if_pos c_7, if_neg c_13, e_28]; try dsimp only; try rfl
        exact W.aret hx hb hr (Or.inl ⟨_, rfl⟩) (Or.inr ⟨_, rfl⟩) (fun t9 ht hW => ⟨⟨(), y_24, rfl, trivial, ⟨vt_25, vf_26, otd_27, 0, false, hw, by rw [ht]; exact hP, hD, by rw [ht]; exact hx_y_24, nx_y_24⟩⟩, hS.F ht⟩) hS.2.2 dX2_leftOver_61
end
section
theorem zz_look : True := trivial
end
