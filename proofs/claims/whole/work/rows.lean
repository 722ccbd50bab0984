section
-- ===== PART A: goes FIRST, ahead of the names: the tables' words, and 'selects' of the private methods out of them =====
/-- a private method of a class that the tables say can be made, by its rows of tables_1 -/
def lw_okq (q : MethodName × Nat) : Prop := (q.1.cls ≠ "java/lang/invoke/MethodHandle" ∧ q.1.cls ≠ "java/lang/invoke/VarHandle") ∧ Cond.instantiable q.1.cls q.2 ∈ tables_1 ∧ Cond.privateMethod q.1 ∈ tables_1 ∧ Cond.instanceMethod q.1 ∈ tables_1
theorem lw_p0 : lw_okq (⟨"PolyDrums", "songTicks", "()I"⟩, 5) := ⟨⟨by decide +kernel, by decide +kernel⟩, List.mem_of_getElem? (i := 14) (by decide +kernel), List.mem_of_getElem? (i := 50) (by decide +kernel), List.mem_of_getElem? (i := 51) (by decide +kernel)⟩
theorem lw_p1 : lw_okq (⟨"PolyDrums", "sectionOrNull", "(I)LPolyDrums$Section;"⟩, 5) := ⟨⟨by decide +kernel, by decide +kernel⟩, List.mem_of_getElem? (i := 14) (by decide +kernel), List.mem_of_getElem? (i := 54) (by decide +kernel), List.mem_of_getElem? (i := 55) (by decide +kernel)⟩
theorem lw_p2 : lw_okq (⟨"PolyDrums", "trackOrNull", "(I)LPolyDrums$Track;"⟩, 5) := ⟨⟨by decide +kernel, by decide +kernel⟩, List.mem_of_getElem? (i := 14) (by decide +kernel), List.mem_of_getElem? (i := 62) (by decide +kernel), List.mem_of_getElem? (i := 63) (by decide +kernel)⟩
theorem lw_p3 : lw_okq (⟨"PolyDrums$Track", "roundTicks", "()I"⟩, 10) := ⟨⟨by decide +kernel, by decide +kernel⟩, List.mem_of_getElem? (i := 68) (by decide +kernel), List.mem_of_getElem? (i := 66) (by decide +kernel), List.mem_of_getElem? (i := 67) (by decide +kernel)⟩
theorem lw_p4 : lw_okq (⟨"PolyDrums$Track", "roundsOfTurns", "()I"⟩, 10) := ⟨⟨by decide +kernel, by decide +kernel⟩, List.mem_of_getElem? (i := 68) (by decide +kernel), List.mem_of_getElem? (i := 71) (by decide +kernel), List.mem_of_getElem? (i := 72) (by decide +kernel)⟩
theorem lw_p5 : lw_okq (⟨"PolyDrums$Track", "cell", "(II)I"⟩, 10) := ⟨⟨by decide +kernel, by decide +kernel⟩, List.mem_of_getElem? (i := 68) (by decide +kernel), List.mem_of_getElem? (i := 75) (by decide +kernel), List.mem_of_getElem? (i := 76) (by decide +kernel)⟩
theorem lw_p6 : lw_okq (⟨"PolyDrums$Track", "mixInto", "(J)J"⟩, 10) := ⟨⟨by decide +kernel, by decide +kernel⟩, List.mem_of_getElem? (i := 68) (by decide +kernel), List.mem_of_getElem? (i := 101) (by decide +kernel), List.mem_of_getElem? (i := 102) (by decide +kernel)⟩
theorem lw_p7 : lw_okq (⟨"PolyDrums$Track", "setting", "(I)I"⟩, 10) := ⟨⟨by decide +kernel, by decide +kernel⟩, List.mem_of_getElem? (i := 68) (by decide +kernel), List.mem_of_getElem? (i := 105) (by decide +kernel), List.mem_of_getElem? (i := 106) (by decide +kernel)⟩
theorem lw_p8 : lw_okq (⟨"java/lang/Throwable", "fillInStackTrace", "(I)Ljava/lang/Throwable;"⟩, 6) := ⟨⟨by decide +kernel, by decide +kernel⟩, List.mem_of_getElem? (i := 163) (by decide +kernel), List.mem_of_getElem? (i := 161) (by decide +kernel), List.mem_of_getElem? (i := 162) (by decide +kernel)⟩
theorem lw_p9 : lw_okq (⟨"PolyDrums$Track", "clearStep", "(II)V"⟩, 10) := ⟨⟨by decide +kernel, by decide +kernel⟩, List.mem_of_getElem? (i := 68) (by decide +kernel), List.mem_of_getElem? (i := 213) (by decide +kernel), List.mem_of_getElem? (i := 214) (by decide +kernel)⟩
theorem lw_p10 : lw_okq (⟨"PolyDrums$Track", "putCell", "(III)V"⟩, 10) := ⟨⟨by decide +kernel, by decide +kernel⟩, List.mem_of_getElem? (i := 68) (by decide +kernel), List.mem_of_getElem? (i := 217) (by decide +kernel), List.mem_of_getElem? (i := 218) (by decide +kernel)⟩
theorem lw_p11 : lw_okq (⟨"PolyDrums", "trackWithStep", "(II)LPolyDrums$Track;"⟩, 5) := ⟨⟨by decide +kernel, by decide +kernel⟩, List.mem_of_getElem? (i := 14) (by decide +kernel), List.mem_of_getElem? (i := 272) (by decide +kernel), List.mem_of_getElem? (i := 273) (by decide +kernel)⟩
theorem lw_p12 : lw_okq (⟨"PolyDrums", "existingTrack", "(I)LPolyDrums$Track;"⟩, 5) := ⟨⟨by decide +kernel, by decide +kernel⟩, List.mem_of_getElem? (i := 14) (by decide +kernel), List.mem_of_getElem? (i := 276) (by decide +kernel), List.mem_of_getElem? (i := 277) (by decide +kernel)⟩
theorem lw_p13 : lw_okq (⟨"PolyDrums$Track", "delay", "(I)I"⟩, 10) := ⟨⟨by decide +kernel, by decide +kernel⟩, List.mem_of_getElem? (i := 68) (by decide +kernel), List.mem_of_getElem? (i := 316) (by decide +kernel), List.mem_of_getElem? (i := 317) (by decide +kernel)⟩
theorem lw_p14 : lw_okq (⟨"PolyDrums$Track", "switchTo", "(IZ)V"⟩, 10) := ⟨⟨by decide +kernel, by decide +kernel⟩, List.mem_of_getElem? (i := 68) (by decide +kernel), List.mem_of_getElem? (i := 342) (by decide +kernel), List.mem_of_getElem? (i := 343) (by decide +kernel)⟩
theorem lw_p15 : lw_okq (⟨"PolyDrums$Track", "spreadHits", "(II)I"⟩, 10) := ⟨⟨by decide +kernel, by decide +kernel⟩, List.mem_of_getElem? (i := 68) (by decide +kernel), List.mem_of_getElem? (i := 353) (by decide +kernel), List.mem_of_getElem? (i := 354) (by decide +kernel)⟩
def lw_privs_1 : List (MethodName × Nat) := [(⟨"PolyDrums", "songTicks", "()I"⟩, 5), (⟨"PolyDrums", "sectionOrNull", "(I)LPolyDrums$Section;"⟩, 5), (⟨"PolyDrums", "trackOrNull", "(I)LPolyDrums$Track;"⟩, 5), (⟨"PolyDrums$Track", "roundTicks", "()I"⟩, 10), (⟨"PolyDrums$Track", "roundsOfTurns", "()I"⟩, 10), (⟨"PolyDrums$Track", "cell", "(II)I"⟩, 10), (⟨"PolyDrums$Track", "mixInto", "(J)J"⟩, 10), (⟨"PolyDrums$Track", "setting", "(I)I"⟩, 10), (⟨"java/lang/Throwable", "fillInStackTrace", "(I)Ljava/lang/Throwable;"⟩, 6), (⟨"PolyDrums$Track", "clearStep", "(II)V"⟩, 10), (⟨"PolyDrums$Track", "putCell", "(III)V"⟩, 10), (⟨"PolyDrums", "trackWithStep", "(II)LPolyDrums$Track;"⟩, 5), (⟨"PolyDrums", "existingTrack", "(I)LPolyDrums$Track;"⟩, 5), (⟨"PolyDrums$Track", "delay", "(I)I"⟩, 10), (⟨"PolyDrums$Track", "switchTo", "(IZ)V"⟩, 10), (⟨"PolyDrums$Track", "spreadHits", "(II)I"⟩, 10)]
theorem lw_r1 : ∀ q ∈ lw_privs_1, lw_okq q := List.forall_mem_cons.mpr ⟨lw_p0, List.forall_mem_cons.mpr ⟨lw_p1, List.forall_mem_cons.mpr ⟨lw_p2, List.forall_mem_cons.mpr ⟨lw_p3, List.forall_mem_cons.mpr ⟨lw_p4, List.forall_mem_cons.mpr ⟨lw_p5, List.forall_mem_cons.mpr ⟨lw_p6, List.forall_mem_cons.mpr ⟨lw_p7, List.forall_mem_cons.mpr ⟨lw_p8, List.forall_mem_cons.mpr ⟨lw_p9, List.forall_mem_cons.mpr ⟨lw_p10, List.forall_mem_cons.mpr ⟨lw_p11, List.forall_mem_cons.mpr ⟨lw_p12, List.forall_mem_cons.mpr ⟨lw_p13, List.forall_mem_cons.mpr ⟨lw_p14, List.forall_mem_cons.mpr ⟨lw_p15, fun _ h => absurd h List.not_mem_nil⟩⟩⟩⟩⟩⟩⟩⟩⟩⟩⟩⟩⟩⟩⟩⟩
theorem lw_p16 : lw_okq (⟨"PolyDrums$Track", "moveSteps", "(I)V"⟩, 10) := ⟨⟨by decide +kernel, by decide +kernel⟩, List.mem_of_getElem? (i := 68) (by decide +kernel), List.mem_of_getElem? (i := 367) (by decide +kernel), List.mem_of_getElem? (i := 368) (by decide +kernel)⟩
theorem lw_p17 : lw_okq (⟨"PolyDrums$Track", "copyStep", "([III)V"⟩, 10) := ⟨⟨by decide +kernel, by decide +kernel⟩, List.mem_of_getElem? (i := 68) (by decide +kernel), List.mem_of_getElem? (i := 374) (by decide +kernel), List.mem_of_getElem? (i := 375) (by decide +kernel)⟩
theorem lw_p18 : lw_okq (⟨"PolyDrums$Track", "stepsWithForce", "()I"⟩, 10) := ⟨⟨by decide +kernel, by decide +kernel⟩, List.mem_of_getElem? (i := 68) (by decide +kernel), List.mem_of_getElem? (i := 378) (by decide +kernel), List.mem_of_getElem? (i := 379) (by decide +kernel)⟩
theorem lw_p19 : lw_okq (⟨"PolyDrums$Track", "resize", "(I)V"⟩, 10) := ⟨⟨by decide +kernel, by decide +kernel⟩, List.mem_of_getElem? (i := 68) (by decide +kernel), List.mem_of_getElem? (i := 389) (by decide +kernel), List.mem_of_getElem? (i := 390) (by decide +kernel)⟩
theorem lw_p20 : lw_okq (⟨"PolyDrums$Track", "nearestStep", "(I)I"⟩, 10) := ⟨⟨by decide +kernel, by decide +kernel⟩, List.mem_of_getElem? (i := 68) (by decide +kernel), List.mem_of_getElem? (i := 404) (by decide +kernel), List.mem_of_getElem? (i := 405) (by decide +kernel)⟩
theorem lw_p21 : lw_okq (⟨"PolyDrums", "sectionNumber", "(I)I"⟩, 5) := ⟨⟨by decide +kernel, by decide +kernel⟩, List.mem_of_getElem? (i := 14) (by decide +kernel), List.mem_of_getElem? (i := 461) (by decide +kernel), List.mem_of_getElem? (i := 462) (by decide +kernel)⟩
theorem lw_p22 : lw_okq (⟨"PolyDrums", "makesHit", "(II)Z"⟩, 5) := ⟨⟨by decide +kernel, by decide +kernel⟩, List.mem_of_getElem? (i := 14) (by decide +kernel), List.mem_of_getElem? (i := 472) (by decide +kernel), List.mem_of_getElem? (i := 473) (by decide +kernel)⟩
theorem lw_p23 : lw_okq (⟨"PolyDrums", "struckForce", "(II)I"⟩, 5) := ⟨⟨by decide +kernel, by decide +kernel⟩, List.mem_of_getElem? (i := 14) (by decide +kernel), List.mem_of_getElem? (i := 476) (by decide +kernel), List.mem_of_getElem? (i := 477) (by decide +kernel)⟩
theorem lw_p24 : lw_okq (⟨"PolyDrums", "isSilenced", "(LPolyDrums$Track;)Z"⟩, 5) := ⟨⟨by decide +kernel, by decide +kernel⟩, List.mem_of_getElem? (i := 14) (by decide +kernel), List.mem_of_getElem? (i := 480) (by decide +kernel), List.mem_of_getElem? (i := 481) (by decide +kernel)⟩
theorem lw_p25 : lw_okq (⟨"PolyDrums", "isAnySolo", "()Z"⟩, 5) := ⟨⟨by decide +kernel, by decide +kernel⟩, List.mem_of_getElem? (i := 14) (by decide +kernel), List.mem_of_getElem? (i := 484) (by decide +kernel), List.mem_of_getElem? (i := 485) (by decide +kernel)⟩
theorem lw_p26 : lw_okq (⟨"PolyDrums", "localTime", "(II)I"⟩, 5) := ⟨⟨by decide +kernel, by decide +kernel⟩, List.mem_of_getElem? (i := 14) (by decide +kernel), List.mem_of_getElem? (i := 488) (by decide +kernel), List.mem_of_getElem? (i := 489) (by decide +kernel)⟩
theorem lw_p27 : lw_okq (⟨"PolyDrums$Track", "forceAt", "(I)I"⟩, 10) := ⟨⟨by decide +kernel, by decide +kernel⟩, List.mem_of_getElem? (i := 68) (by decide +kernel), List.mem_of_getElem? (i := 495) (by decide +kernel), List.mem_of_getElem? (i := 496) (by decide +kernel)⟩
theorem lw_p28 : lw_okq (⟨"PolyDrums", "accentForce", "(I)I"⟩, 5) := ⟨⟨by decide +kernel, by decide +kernel⟩, List.mem_of_getElem? (i := 14) (by decide +kernel), List.mem_of_getElem? (i := 505) (by decide +kernel), List.mem_of_getElem? (i := 506) (by decide +kernel)⟩
theorem lw_p29 : lw_okq (⟨"PolyDrums", "hitSet", "(I)I"⟩, 5) := ⟨⟨by decide +kernel, by decide +kernel⟩, List.mem_of_getElem? (i := 14) (by decide +kernel), List.mem_of_getElem? (i := 517) (by decide +kernel), List.mem_of_getElem? (i := 518) (by decide +kernel)⟩
theorem lw_p30 : lw_okq (⟨"PolyDrums", "groupSet", "(I)I"⟩, 5) := ⟨⟨by decide +kernel, by decide +kernel⟩, List.mem_of_getElem? (i := 14) (by decide +kernel), List.mem_of_getElem? (i := 528) (by decide +kernel), List.mem_of_getElem? (i := 529) (by decide +kernel)⟩
theorem lw_p31 : lw_okq (⟨"PolyDrums", "commonHits", "(IIII)I"⟩, 5) := ⟨⟨by decide +kernel, by decide +kernel⟩, List.mem_of_getElem? (i := 14) (by decide +kernel), List.mem_of_getElem? (i := 549) (by decide +kernel), List.mem_of_getElem? (i := 550) (by decide +kernel)⟩
def lw_privs_2 : List (MethodName × Nat) := [(⟨"PolyDrums$Track", "moveSteps", "(I)V"⟩, 10), (⟨"PolyDrums$Track", "copyStep", "([III)V"⟩, 10), (⟨"PolyDrums$Track", "stepsWithForce", "()I"⟩, 10), (⟨"PolyDrums$Track", "resize", "(I)V"⟩, 10), (⟨"PolyDrums$Track", "nearestStep", "(I)I"⟩, 10), (⟨"PolyDrums", "sectionNumber", "(I)I"⟩, 5), (⟨"PolyDrums", "makesHit", "(II)Z"⟩, 5), (⟨"PolyDrums", "struckForce", "(II)I"⟩, 5), (⟨"PolyDrums", "isSilenced", "(LPolyDrums$Track;)Z"⟩, 5), (⟨"PolyDrums", "isAnySolo", "()Z"⟩, 5), (⟨"PolyDrums", "localTime", "(II)I"⟩, 5), (⟨"PolyDrums$Track", "forceAt", "(I)I"⟩, 10), (⟨"PolyDrums", "accentForce", "(I)I"⟩, 5), (⟨"PolyDrums", "hitSet", "(I)I"⟩, 5), (⟨"PolyDrums", "groupSet", "(I)I"⟩, 5), (⟨"PolyDrums", "commonHits", "(IIII)I"⟩, 5)]
theorem lw_r2 : ∀ q ∈ lw_privs_2, lw_okq q := List.forall_mem_cons.mpr ⟨lw_p16, List.forall_mem_cons.mpr ⟨lw_p17, List.forall_mem_cons.mpr ⟨lw_p18, List.forall_mem_cons.mpr ⟨lw_p19, List.forall_mem_cons.mpr ⟨lw_p20, List.forall_mem_cons.mpr ⟨lw_p21, List.forall_mem_cons.mpr ⟨lw_p22, List.forall_mem_cons.mpr ⟨lw_p23, List.forall_mem_cons.mpr ⟨lw_p24, List.forall_mem_cons.mpr ⟨lw_p25, List.forall_mem_cons.mpr ⟨lw_p26, List.forall_mem_cons.mpr ⟨lw_p27, List.forall_mem_cons.mpr ⟨lw_p28, List.forall_mem_cons.mpr ⟨lw_p29, List.forall_mem_cons.mpr ⟨lw_p30, List.forall_mem_cons.mpr ⟨lw_p31, fun _ h => absurd h List.not_mem_nil⟩⟩⟩⟩⟩⟩⟩⟩⟩⟩⟩⟩⟩⟩⟩⟩
theorem lw_p32 : lw_okq (⟨"PolyDrums$Track", "strokesPerRound", "()D"⟩, 10) := ⟨⟨by decide +kernel, by decide +kernel⟩, List.mem_of_getElem? (i := 68) (by decide +kernel), List.mem_of_getElem? (i := 574) (by decide +kernel), List.mem_of_getElem? (i := 575) (by decide +kernel)⟩
theorem lw_p33 : lw_okq (⟨"PolyDrumsModel", "no", "(I)I"⟩, 14) := ⟨⟨by decide +kernel, by decide +kernel⟩, List.mem_of_getElem? (i := 594) (by decide +kernel), List.mem_of_getElem? (i := 655) (by decide +kernel), List.mem_of_getElem? (i := 656) (by decide +kernel)⟩
theorem lw_p34 : lw_okq (⟨"PolyDrumsModel", "plain", "(III)V"⟩, 14) := ⟨⟨by decide +kernel, by decide +kernel⟩, List.mem_of_getElem? (i := 594) (by decide +kernel), List.mem_of_getElem? (i := 659) (by decide +kernel), List.mem_of_getElem? (i := 660) (by decide +kernel)⟩
theorem lw_p35 : lw_okq (⟨"PolyDrumsModel", "isStep", "(II)Z"⟩, 14) := ⟨⟨by decide +kernel, by decide +kernel⟩, List.mem_of_getElem? (i := 594) (by decide +kernel), List.mem_of_getElem? (i := 670) (by decide +kernel), List.mem_of_getElem? (i := 671) (by decide +kernel)⟩
theorem lw_p36 : lw_okq (⟨"PolyDrumsModel", "isTrack", "(I)Z"⟩, 14) := ⟨⟨by decide +kernel, by decide +kernel⟩, List.mem_of_getElem? (i := 594) (by decide +kernel), List.mem_of_getElem? (i := 674) (by decide +kernel), List.mem_of_getElem? (i := 675) (by decide +kernel)⟩
theorem lw_p37 : lw_okq (⟨"PolyDrumsModel", "delay", "(II)I"⟩, 14) := ⟨⟨by decide +kernel, by decide +kernel⟩, List.mem_of_getElem? (i := 594) (by decide +kernel), List.mem_of_getElem? (i := 686) (by decide +kernel), List.mem_of_getElem? (i := 687) (by decide +kernel)⟩
theorem lw_p38 : lw_okq (⟨"PolyDrumsModel", "told", "(II)I"⟩, 14) := ⟨⟨by decide +kernel, by decide +kernel⟩, List.mem_of_getElem? (i := 594) (by decide +kernel), List.mem_of_getElem? (i := 694) (by decide +kernel), List.mem_of_getElem? (i := 695) (by decide +kernel)⟩
theorem lw_p39 : lw_okq (⟨"PolyDrumsModel", "take", "(I[III)V"⟩, 14) := ⟨⟨by decide +kernel, by decide +kernel⟩, List.mem_of_getElem? (i := 594) (by decide +kernel), List.mem_of_getElem? (i := 721) (by decide +kernel), List.mem_of_getElem? (i := 722) (by decide +kernel)⟩
theorem lw_p40 : lw_okq (⟨"PolyDrumsModel", "loud", "(I)I"⟩, 14) := ⟨⟨by decide +kernel, by decide +kernel⟩, List.mem_of_getElem? (i := 594) (by decide +kernel), List.mem_of_getElem? (i := 726) (by decide +kernel), List.mem_of_getElem? (i := 727) (by decide +kernel)⟩
theorem lw_p41 : lw_okq (⟨"PolyDrumsModel", "section", "(I)I"⟩, 14) := ⟨⟨by decide +kernel, by decide +kernel⟩, List.mem_of_getElem? (i := 594) (by decide +kernel), List.mem_of_getElem? (i := 760) (by decide +kernel), List.mem_of_getElem? (i := 761) (by decide +kernel)⟩
theorem lw_p42 : lw_okq (⟨"PolyDrumsModel", "loud", "(II)I"⟩, 14) := ⟨⟨by decide +kernel, by decide +kernel⟩, List.mem_of_getElem? (i := 594) (by decide +kernel), List.mem_of_getElem? (i := 772) (by decide +kernel), List.mem_of_getElem? (i := 773) (by decide +kernel)⟩
theorem lw_p43 : lw_okq (⟨"PolyDrumsModel", "strike", "(II)I"⟩, 14) := ⟨⟨by decide +kernel, by decide +kernel⟩, List.mem_of_getElem? (i := 594) (by decide +kernel), List.mem_of_getElem? (i := 776) (by decide +kernel), List.mem_of_getElem? (i := 777) (by decide +kernel)⟩
theorem lw_p44 : lw_okq (⟨"PolyDrumsModel", "isSilent", "(I)Z"⟩, 14) := ⟨⟨by decide +kernel, by decide +kernel⟩, List.mem_of_getElem? (i := 594) (by decide +kernel), List.mem_of_getElem? (i := 780) (by decide +kernel), List.mem_of_getElem? (i := 781) (by decide +kernel)⟩
theorem lw_p45 : lw_okq (⟨"PolyDrumsModel", "hits", "(II)Z"⟩, 14) := ⟨⟨by decide +kernel, by decide +kernel⟩, List.mem_of_getElem? (i := 594) (by decide +kernel), List.mem_of_getElem? (i := 788) (by decide +kernel), List.mem_of_getElem? (i := 789) (by decide +kernel)⟩
theorem lw_p46 : lw_okq (⟨"PolyDrumsModel", "sounds", "(II)Z"⟩, 14) := ⟨⟨by decide +kernel, by decide +kernel⟩, List.mem_of_getElem? (i := 594) (by decide +kernel), List.mem_of_getElem? (i := 796) (by decide +kernel), List.mem_of_getElem? (i := 797) (by decide +kernel)⟩
theorem lw_p47 : lw_okq (⟨"PolyDrumsModel", "roundsOf", "(I)I"⟩, 14) := ⟨⟨by decide +kernel, by decide +kernel⟩, List.mem_of_getElem? (i := 594) (by decide +kernel), List.mem_of_getElem? (i := 819) (by decide +kernel), List.mem_of_getElem? (i := 820) (by decide +kernel)⟩
def lw_privs_3 : List (MethodName × Nat) := [(⟨"PolyDrums$Track", "strokesPerRound", "()D"⟩, 10), (⟨"PolyDrumsModel", "no", "(I)I"⟩, 14), (⟨"PolyDrumsModel", "plain", "(III)V"⟩, 14), (⟨"PolyDrumsModel", "isStep", "(II)Z"⟩, 14), (⟨"PolyDrumsModel", "isTrack", "(I)Z"⟩, 14), (⟨"PolyDrumsModel", "delay", "(II)I"⟩, 14), (⟨"PolyDrumsModel", "told", "(II)I"⟩, 14), (⟨"PolyDrumsModel", "take", "(I[III)V"⟩, 14), (⟨"PolyDrumsModel", "loud", "(I)I"⟩, 14), (⟨"PolyDrumsModel", "section", "(I)I"⟩, 14), (⟨"PolyDrumsModel", "loud", "(II)I"⟩, 14), (⟨"PolyDrumsModel", "strike", "(II)I"⟩, 14), (⟨"PolyDrumsModel", "isSilent", "(I)Z"⟩, 14), (⟨"PolyDrumsModel", "hits", "(II)Z"⟩, 14), (⟨"PolyDrumsModel", "sounds", "(II)Z"⟩, 14), (⟨"PolyDrumsModel", "roundsOf", "(I)I"⟩, 14)]
theorem lw_r3 : ∀ q ∈ lw_privs_3, lw_okq q := List.forall_mem_cons.mpr ⟨lw_p32, List.forall_mem_cons.mpr ⟨lw_p33, List.forall_mem_cons.mpr ⟨lw_p34, List.forall_mem_cons.mpr ⟨lw_p35, List.forall_mem_cons.mpr ⟨lw_p36, List.forall_mem_cons.mpr ⟨lw_p37, List.forall_mem_cons.mpr ⟨lw_p38, List.forall_mem_cons.mpr ⟨lw_p39, List.forall_mem_cons.mpr ⟨lw_p40, List.forall_mem_cons.mpr ⟨lw_p41, List.forall_mem_cons.mpr ⟨lw_p42, List.forall_mem_cons.mpr ⟨lw_p43, List.forall_mem_cons.mpr ⟨lw_p44, List.forall_mem_cons.mpr ⟨lw_p45, List.forall_mem_cons.mpr ⟨lw_p46, List.forall_mem_cons.mpr ⟨lw_p47, fun _ h => absurd h List.not_mem_nil⟩⟩⟩⟩⟩⟩⟩⟩⟩⟩⟩⟩⟩⟩⟩⟩
def lw_privs : List (MethodName × Nat) := lw_privs_1 ++ (lw_privs_2 ++ (lw_privs_3))
def lw_tbl : List Cond := k2_sels lw_privs ++ tables_1
theorem lw_privs_ok : ∀ q ∈ lw_privs, lw_okq q := by
  show ∀ q ∈ lw_privs_1 ++ (lw_privs_2 ++ (lw_privs_3)), lw_okq q
  exact List.forall_mem_append.mpr ⟨lw_r1, List.forall_mem_append.mpr ⟨lw_r2, lw_r3⟩⟩
/-- the streams that the claim lets the run draw from -/
abbrev lw_cs : List Choice := [Jvm.Choice.named "NaN.bits"]
theorem lw_bits : nanBits ∈ lw_cs := by first | decide | exact List.mem_cons_self | simp [lw_cs, nanBits]
-- ===== end of PART A; then your names; then what follows =====
end
section
/-! ===== BEGIN words of one list among another's, by their places ===== -/
theorem goodIn_r {big : List Cond} (ws : List Cond) (ps : List Nat) (hp : ws = ps.filterMap (fun i => big[i]?)) (h : ws.all goodWord = true) : GoodIn big ws := by
  intro w hw
  have h1 := List.all_eq_true.mp h w hw
  rw [hp] at hw
  obtain ⟨i, -, hi⟩ := List.mem_filterMap.mp hw
  have hm : w ∈ big := by first | exact List.mem_of_getElem? hi | exact List.getElem?_mem hi
  exact ⟨hm, good_of_word h1⟩
theorem goodIn_app {big a b : List Cond} (ha : GoodIn big a) (hb : GoodIn big b) : GoodIn big (a ++ b) := fun w h => (List.mem_append.mp h).elim (ha w) (hb w)
theorem goodIn_ca {big a b : List Cond} {c : Cond} (ha : GoodIn big (c :: a)) (hb : GoodIn big b) : GoodIn big (c :: (a ++ b)) := fun w h => (List.mem_cons.mp h).elim (fun e => ha w (List.mem_cons.mpr (Or.inl e))) (fun h => (List.mem_append.mp h).elim (fun h => ha w (List.mem_cons.mpr (Or.inr h))) (hb w))
theorem goodIn_sub {big ws : List Cond} (hm : ∀ w ∈ ws, w ∈ big) (h : ws.all goodWord = true) : GoodIn big ws := fun w hw => ⟨hm w hw, good_of_word (List.all_eq_true.mp h w hw)⟩
/-! ===== END ===== -/

/-! ===== BEGIN exceptions that leave a method, and their catching by the caller (launches without stack traces) ===== -/
section VXA
/-! The laws vx_back, vx_callV, vx_callS, vx_callSW, vx_throw0, vx_throwS follow proofs of the library, with one case more: JvmDerived/Free/Laws.lean (Back.of_free), Shelf42/LK1.lean (callV, callS), Shelf/KitTraced.lean (throwNew0V, throwNewS). -/
/-- where a method has thrown q: the class by its name, the cell, what was written, the world -/
def vx_T (XC : String → State → State → Prop) (st : State) (q : Addr) (t : State) (mc ms : Nat) (free : Addr → Prop) : Prop :=
  ∃ (E : String) (ce : Cell) (L : List Loc), XC E st t ∧ t.heap[q]? = some ce ∧ ce.vm = .none ∧ st.vm.findClass E = some ce.cls ∧ st.WarmedH t.vm ∧ st.sameButNew ({ t with vm := st.vm } : State) L mc ms ∧ ∀ z ∈ L, free z.base
def vx_Q (Qc : Array Value → State → Outcome → State → Prop) (XC : String → State → State → Prop) (mc ms : Nat) (free : Addr → Prop) : Array Value → State → Outcome → State → Prop := fun a st o t =>
  (Qc a st o t ∧ ∃ L, FrameEnd st o t L mc ms ∧ ∀ q ∈ L, free q.base) ∨ ∃ q, o = .threw q ∧ vx_T XC st q t mc ms free
/-- a callee that returns or throws -/
def vx_Met (l : Launch) (y : MethodName) (ws : List Cond) (rm : Room) (Pc : Array Value → State → Prop) (Qc : Array Value → State → Outcome → State → Prop) (XC : String → State → State → Prop) (mc ms : Nat) (free : Addr → Prop) : Prop :=
  MetFree l y (headSpec ws rm) Pc (fun _ _ _ _ _ => True) (vx_Q Qc XC mc ms free)
def vx_Post (XC : String → State → State → Prop) (mc ms : Nat) (free : Addr → Prop) : Pt → Array Value → Addr → Pt → Prop := fun A a q B =>
  ∃ (g : JFrame) (mk : MethodId) (t : State) (L : List Loc) (E : String) (ce : Cell), B.U.heap = t.heap ∧ B.U.vm = t.vm ∧ XC E (A.U.calling g mk a) t ∧ t.heap[q]? = some ce ∧ ce.vm = .none ∧ A.U.vm.findClass E = some ce.cls ∧ B.locs = A.locs ++ L ∧ (∀ z ∈ L, free z.base) ∧ B.cells = A.cells + mc ∧ B.slots = A.slots + ms
def vx_Back (l : Launch) (R : Room) (p : Program) (e : Env) (below : List Frame) (s : State) (sargs : Array Value) (y : MethodName) (len W9 : Nat)
    (Pre : Pt → Array Value → Prop) (Post : Pt → Array Value → Option Value → Pt → Prop) (PostX : Pt → Array Value → Addr → Pt → Prop) : Prop :=
  ∀ (m : MethodId) (meth : Method) (c : Code) (A : Pt) (g : JFrame) (ig : Instr) (mk : MethodId) (a : Array Value),
    Stand p l e R s m sargs below meth c A.U A.locs A.cells A.slots → g.method = m → g.locals.size = c.maxLocals → decode c.code g.pc = .ok (ig, len) →
    2 * g.monitorRoom + (g.stack.map fun v => v.category).sum ≤ W9 → A.U.methodNamed? y = some mk → Pre A a →
    (∃ (v : Option Value) (B : Pt), Stand p l e R s m sargs below meth c B.U B.locs B.cells B.slots ∧ Post A a v B ∧
      Steps p.tables e below (doInvoke e (A.U.setTop g) [] mk a).1 (B.U.setTop { g with pc := g.pc + len, stack := v.toList ++ g.stack })) ∨
    (∃ (q : Addr) (B : Pt), Stand p l e R s m sargs below meth c B.U B.locs B.cells B.slots ∧ PostX A a q B ∧
      Steps p.tables e below (doInvoke e (A.U.setTop g) [] mk a).1 ((B.U.setTop g).pushFrame (.throwing q)))
section Payer
variable {l : Launch} {R : Room} {p : Program} {e : Env} {below : List Frame} {s : State} {sargs : Array Value} {y : MethodName} {len W9 : Nat}
theorem vx_back {ws : List Cond} {rm : Room} {Pc : Array Value → State → Prop} {Qc : Array Value → State → Outcome → State → Prop} {XC : String → State → State → Prop} {mc ms : Nat} {free : Addr → Prop} {bytes : ByteArray} {maxL : Nat} {ret : Option FieldType}
    (hM : vx_Met l y ws rm Pc Qc XC mc ms free) (hblind : FrameBlind Pc) (hrc : rm.cells = mc) (hrs : rm.slots = ms)
    (hframes : rm.frames + 1 ≤ R.frames) (hlocals : W9 + (maxL + 11) + rm.locals ≤ R.locals)
    (hws : ∀ w ∈ ws, ∀ a' U, s.WarmedH U.vm → w.before a' U = true) (hcode : Cond.code y bytes maxL ret ∈ ws) (hinit : ∀ a' U, s.WarmedH U.vm → (Cond.initialized y.cls).before a' U = true) :
    vx_Back l R p e below s sargs y len W9 (PreOf R mc ms Pc) (PostOf Qc mc ms free) (vx_Post XC mc ms free) := by
  intro m meth c A g ig mk a X hg hsize hdg hW hn hp
  have h1 : (headSpec ws rm).pre.before a A.U = true := atoms_intro fun w hw => hws w hw _ _ X.warmed
  have h2 : (Cond.code y bytes maxL ret).before a A.U = true := hws _ hcode _ _ X.warmed
  have h3 : (Cond.initialized y.cls).before a A.U = true := hinit _ _ X.warmed
  have h4 : A.cells + (headSpec ws rm).room.cells ≤ R.cells := by rw [show (headSpec ws rm).room.cells = mc from hrc]; exact hp.1
  have h5 : A.slots + (headSpec ws rm).room.slots ≤ R.slots := by rw [show (headSpec ws rm).room.slots = ms from hrs]; exact hp.2.1
  have hPc : Pc a (A.U.calling g mk a) := hblind _ _ _ _ hp.2.2
  obtain ⟨U, Ls, c0, s0⟩ := A
  dsimp only [Pt.U, Pt.locs, Pt.cells, Pt.slots] at h1 h2 h3 h4 h5 X hn hPc ⊢
  obtain ⟨methY, cY, hmY, hcY, -, hlY, -, -, -, -⟩ := Cond.code_spec hn h2
  obtain ⟨kY, hkY, -⟩ := className_of_methodNamed hn
  have hinitY : kY.init = .initialized := Cond.initialized_spec (findClass_of_methodNamed hn) hkY h3
  have h : At U g.method c below := by rw [hg]; exact X.here
  have hlocals9 : W9 + (maxL + 11) + (headSpec ws rm).room.locals ≤ R.locals := hlocals
  have happ : (headSpec ws rm).appliesLoose y e.platform (U.calling g mk a) = true :=
    Spec.appliesLoose_calling (g := g) h hdg hn hkY hinitY
      (X.room_calling (g := g) (R' := (headSpec ws rm).room) hsize hmY hcY hframes (by rw [hlY]; omega) h4 h5) h1
  obtain ⟨mid, hmid⟩ := h.above
  have hfr : (U.setTop g).frames = (.java g :: mid) ++ below := by rw [State.frames_setTop' g h.top, hmid]; rfl
  obtain ⟨o, s₂, hsteps, -, hend, hq⟩ := Steps.callFree hM p X.admits X.cas X.clock (acts := []) hfr happ hPc trivial
  have hq' : vx_Q Qc XC mc ms free a (U.calling g mk a) o s₂ := hq
  rw [State.frames_setTop' g h.top] at hend
  obtain ⟨g₀, hg0⟩ := Option.isSome_iff_exists.mp h.top
  obtain ⟨r, hr⟩ := State.topJava?_eq_some.mp hg0
  have hr' : (({ U with heap := s₂.heap, slotsUsed := s₂.slotsUsed } : State).setVm s₂.vm).frames = .java g₀ :: r := hr
  rcases hq' with ⟨hqc, L, hfe, hL⟩ | ⟨q, rfl, E, ce, L, hx, hce, hcv, hcl, hW₂, hsm, hL⟩
  · obtain ⟨⟨v, rfl⟩, hW₂, e2, q2, q3, q4, q5, q6⟩ := id hfe
    have e3 : s₂ = ({ (U.calling g mk a).setFrames s₂.frames with heap := s₂.heap, slotsUsed := s₂.slotsUsed } : State).setVm s₂.vm := by
      have : s₂ = ({ s₂ with vm := (U.calling g mk a).vm } : State).setVm s₂.vm := rfl
      rw [e2] at this
      exact this
    obtain ⟨c₂, i₂, len₂, hc₂, hd₂, hf₂⟩ := hend
    have hW' : U.WarmedH s₂.vm := hW₂
    have hcc : c₂ = c := by
      have h1 : s₂.code? g.method = U.code? g.method := by
        rw [State.code?_eq, State.code?_eq, hW'.alike.method?]
      exact Option.some.inj (hc₂.symm.trans (h1.trans h.code))
    subst hcc
    have hlen : len₂ = len := by rw [hdg] at hd₂; cases hd₂; rfl
    subst hlen
    have hs₂ : s₂ = (({ U with heap := s₂.heap, slotsUsed := s₂.slotsUsed } : State).setVm s₂.vm).setTop { g with pc := g.pc + len₂, stack := v.toList ++ g.stack } := by
      refine e3.trans ?_
      rw [hf₂, State.calling_eq h.top, State.setFrames_setFrames, State.setTop_of_frames _ hr', hr]
      rfl
    have hsame : U.sameButNew ({ U with heap := s₂.heap, slotsUsed := s₂.slotsUsed } : State) L mc ms := by
      refine ⟨?_, q2, q3, q4, q5, q6⟩
      obtain ⟨t, ht, -⟩ := State.frames_cons hr
      show ({ U with heap := s₂.heap, slotsUsed := s₂.slotsUsed } : State) = { U.setFrames U.frames with heap := s₂.heap, slotsUsed := s₂.slotsUsed }
      rw [State.setFrames_self ht]
    subst hg
    refine Or.inl ⟨v, ⟨(({ U with heap := s₂.heap, slotsUsed := s₂.slotsUsed } : State).setVm s₂.vm), Ls ++ L, c0 + mc, s0 + ms⟩,
      ⟨X.admits, X.cas, X.clock, X.frames, X.room, X.hears, X.method, X.code, (X.here.setHeapUsed s₂.heap s₂.slotsUsed).setVm hW'.alike, X.tail, State.WarmedH.trans X.warmed hW', X.limits, X.bytes, X.same.trans (hsame.setVm s.vm)⟩,
      ⟨g, mk, s₂, L, rfl, rfl, hqc, rfl, hL, rfl, rfl⟩, ?_⟩
    show Steps p.tables e below _ ((({ U with heap := s₂.heap, slotsUsed := s₂.slotsUsed } : State).setVm s₂.vm).setTop { g with pc := g.pc + len₂, stack := v.toList ++ g.stack })
    rw [← hs₂]
    exact hsteps
  · obtain ⟨e2, q2, q3, q4, q5, q6⟩ := id hsm
    have e3 : s₂ = ({ (U.calling g mk a).setFrames s₂.frames with heap := s₂.heap, slotsUsed := s₂.slotsUsed } : State).setVm s₂.vm := by
      have : s₂ = ({ s₂ with vm := (U.calling g mk a).vm } : State).setVm s₂.vm := rfl
      rw [e2] at this
      exact this
    have hf₂ : s₂.frames = .throwing q :: .java g :: U.frames.tail := hend
    have hW' : U.WarmedH s₂.vm := hW₂
    have hs₂ : s₂ = ((({ U with heap := s₂.heap, slotsUsed := s₂.slotsUsed } : State).setVm s₂.vm).setTop g).pushFrame (.throwing q) := by
      refine e3.trans ?_
      rw [hf₂, State.calling_eq h.top, State.setFrames_setFrames, State.pushFrame, State.frames_setTop _ hr', State.setTop_of_frames _ hr', State.setFrames_setFrames, hr]
      rfl
    have hsame : U.sameButNew ({ U with heap := s₂.heap, slotsUsed := s₂.slotsUsed } : State) L mc ms := by
      refine ⟨?_, q2, q3, q4, q5, q6⟩
      obtain ⟨t, ht, -⟩ := State.frames_cons hr
      show ({ U with heap := s₂.heap, slotsUsed := s₂.slotsUsed } : State) = { U.setFrames U.frames with heap := s₂.heap, slotsUsed := s₂.slotsUsed }
      rw [State.setFrames_self ht]
    subst hg
    refine Or.inr ⟨q, ⟨(({ U with heap := s₂.heap, slotsUsed := s₂.slotsUsed } : State).setVm s₂.vm), Ls ++ L, c0 + mc, s0 + ms⟩,
      ⟨X.admits, X.cas, X.clock, X.frames, X.room, X.hears, X.method, X.code, (X.here.setHeapUsed s₂.heap s₂.slotsUsed).setVm hW'.alike, X.tail, State.WarmedH.trans X.warmed hW', X.limits, X.bytes, X.same.trans (hsame.setVm s.vm)⟩,
      ⟨g, mk, s₂, L, E, ce, rfl, rfl, hx, hce, hcv, hcl, rfl, hL, rfl, rfl⟩, ?_⟩
    show Steps p.tables e below _ (((({ U with heap := s₂.heap, slotsUsed := s₂.slotsUsed } : State).setVm s₂.vm).setTop g).pushFrame (.throwing q))
    rw [← hs₂]
    exact hsteps
end Payer
section Calls
variable {p : Program} {l : Launch} {e : Env} {R : Room} {s : State} {m : MethodId} {args : Array Value} {below : List Frame} {meth : Method} {c : Code} {T : State} {locs : List Loc} {cells slots : Nat}
theorem vx_callV (X : Stand p l e R s m args below meth c T locs cells slots) (hexec : p.tables.exec = Jvm.exec) {own C : String} {index : Nat} {y : MethodName} {bytes : ByteArray} {maxL : Nat} {ret : Option FieldType}
    (hown : s.vm.findClass own = some m.cls) (hlink : (Cond.methodLink own index y).before args s = true) (hinst : (Cond.instanceMethod y).before args s = true) (hsel : (Cond.selects C y y).before args s = true)
    (hcode : (Cond.code y bytes maxL ret).before args s = true) (hy : y.cls ≠ "java/lang/invoke/MethodHandle" ∧ y.cls ≠ "java/lang/invoke/VarHandle")
    {W9 : Nat} {Pre : Pt → Array Value → Prop} {Post : Pt → Array Value → Option Value → Pt → Prop} {PostX : Pt → Array Value → Addr → Pt → Prop} (hK : vx_Back l R p e below s args y 3 W9 Pre Post PostX)
    {b : Addr} {cellB : Cell} (hcell : T.heap[b]? = some cellB) (hobj : cellB.vm.isStatics = false) (hcls : s.vm.findClass C = some cellB.cls)
    {g : JFrame} (hg : g.method = m) (hsize : g.locals.size = c.maxLocals) {argsL rest : List Value} (hlen : ∀ sig, parseMethodDescriptor y.desc = some sig → argsL.length = sig.parameters.length)
    (hstack : g.stack = argsL.reverse ++ .ref b :: rest) (hW : 2 * g.monitorRoom + (rest.map fun v => v.category).sum ≤ W9) (hdg : decode c.code g.pc = .ok (.invokevirtual index, 3))
    (hpre : ∀ vm₁, s.WarmedH vm₁ → Pre ⟨T.setVm vm₁, locs, cells, slots⟩ (Value.ref b :: argsL).toArray) :
    (∃ (v : Option Value) (vm₁ : Vm) (B : Pt), s.WarmedH vm₁ ∧ Stand p l e R s m args below meth c B.U B.locs B.cells B.slots ∧ Post ⟨T.setVm vm₁, locs, cells, slots⟩ (Value.ref b :: argsL).toArray v B ∧
      ∀ target, Steps p.tables e below (B.U.setTop { g with pc := g.pc + 3, stack := v.toList ++ rest }) target → Steps p.tables e below (T.setTop g) target) ∨
    (∃ (q : Addr) (vm₁ : Vm) (B : Pt), s.WarmedH vm₁ ∧ Stand p l e R s m args below meth c B.U B.locs B.cells B.slots ∧ PostX ⟨T.setVm vm₁, locs, cells, slots⟩ (Value.ref b :: argsL).toArray q B ∧
      Steps p.tables e below (T.setTop g) ((B.U.setTop { g with stack := rest }).pushFrame (.throwing q))) := by
  obtain ⟨mk, methM, hnamed, hmethM, hstM, habM⟩ := Cond.instanceMethod_spec hinst
  obtain ⟨methM', cM, hmethM', -, -, -, -, -, -, hsigM⟩ := Cond.code_spec hnamed hcode
  cases hmethM.symm.trans hmethM'
  obtain ⟨c2, r2, m2, q1, q2, q3, q4, kP, hkP, hkPi⟩ := Cond.selects_spec hsel
  cases hcls.symm.trans q1
  cases (State.methodFound?_of_named hnamed hy).symm.trans q2
  cases hnamed.symm.trans q3
  have hselP : selectMethod e.platform s.vm cellB.cls mk = .method mk := by rw [Launch.admits_selectMethod X.admits]; exact q4
  obtain ⟨vm₁, X₁, hstep₁⟩ := X.invokevirtual hexec hown hlink hnamed hmethM hstM hkP hkPi hy (a := b) (cell := cellB) hcell
    (fun z h => by rw [h] at hobj; cases hobj) hselP hmethM habM hkP hkPi (g := g) hg (argsL := argsL) (rest := rest) (hlen _ hsigM) hstack hdg
  rcases hK m meth c ⟨T.setVm vm₁, locs, cells, slots⟩ { g with stack := rest } (.invokevirtual index) mk (Value.ref b :: argsL).toArray X₁ hg hsize hdg hW (X₁.named hnamed) (hpre vm₁ X₁.warmed) with ⟨v, B, X', hpost, hsteps⟩ | ⟨q, B, X', hpost, hsteps⟩
  · exact Or.inl ⟨v, vm₁, B, X₁.warmed, X', hpost, fun target h => hstep₁ _ fun acts => by rw [doInvoke_state]; exact hsteps.trans h⟩
  · exact Or.inr ⟨q, vm₁, B, X₁.warmed, X', hpost, hstep₁ _ fun acts => by rw [doInvoke_state]; exact hsteps⟩
theorem vx_callS (X : Stand p l e R s m args below meth c T locs cells slots) (hexec : p.tables.exec = Jvm.exec) {own : String} {index : Nat} {y : MethodName} {bytes : ByteArray} {maxL : Nat} {ret : Option FieldType}
    (hown : s.vm.findClass own = some m.cls) (hlink : (Cond.methodLink own index y).before args s = true) (hstat : (Cond.static y).before args s = true) (hinit : (Cond.initialized y.cls).before args s = true)
    (hcode : (Cond.code y bytes maxL ret).before args s = true) (hy : y.cls ≠ "java/lang/invoke/MethodHandle" ∧ y.cls ≠ "java/lang/invoke/VarHandle")
    {W9 : Nat} {Pre : Pt → Array Value → Prop} {Post : Pt → Array Value → Option Value → Pt → Prop} {PostX : Pt → Array Value → Addr → Pt → Prop} (hK : vx_Back l R p e below s args y 3 W9 Pre Post PostX)
    {g : JFrame} (hg : g.method = m) (hsize : g.locals.size = c.maxLocals) {argsL rest : List Value} (hlen : ∀ sig, parseMethodDescriptor y.desc = some sig → argsL.length = sig.parameters.length)
    (hstack : g.stack = argsL.reverse ++ rest) (hW : 2 * g.monitorRoom + (rest.map fun v => v.category).sum ≤ W9) (hdg : decode c.code g.pc = .ok (.invokestatic index, 3))
    (hpre : ∀ vm₁, s.WarmedH vm₁ → Pre ⟨T.setVm vm₁, locs, cells, slots⟩ argsL.toArray) :
    (∃ (v : Option Value) (vm₁ : Vm) (B : Pt), s.WarmedH vm₁ ∧ Stand p l e R s m args below meth c B.U B.locs B.cells B.slots ∧ Post ⟨T.setVm vm₁, locs, cells, slots⟩ argsL.toArray v B ∧
      ∀ target, Steps p.tables e below (B.U.setTop { g with pc := g.pc + 3, stack := v.toList ++ rest }) target → Steps p.tables e below (T.setTop g) target) ∨
    (∃ (q : Addr) (vm₁ : Vm) (B : Pt), s.WarmedH vm₁ ∧ Stand p l e R s m args below meth c B.U B.locs B.cells B.slots ∧ PostX ⟨T.setVm vm₁, locs, cells, slots⟩ argsL.toArray q B ∧
      Steps p.tables e below (T.setTop g) ((B.U.setTop { g with stack := rest }).pushFrame (.throwing q))) := by
  obtain ⟨mk, hnamed⟩ := Cond.code_named hcode
  obtain ⟨methM, cM, hmethM, -, -, -, -, -, -, hsigM⟩ := Cond.code_spec hnamed hcode
  have hstatic : methM.isStatic = true := Cond.static_spec hnamed hmethM hstat
  obtain ⟨kP, hkP, -⟩ := className_of_methodNamed hnamed
  have hinitP : kP.init = .initialized := Cond.initialized_spec (findClass_of_methodNamed hnamed) hkP hinit
  obtain ⟨vm₁, X₁, hstep₁⟩ := X.invokestatic hexec hown hlink hnamed hmethM hstatic hkP hinitP hy (g := g) hg (argsL := argsL) (rest := rest) (hlen _ hsigM) hstack hdg
  rcases hK m meth c ⟨T.setVm vm₁, locs, cells, slots⟩ { g with stack := rest } (.invokestatic index) mk argsL.toArray X₁ hg hsize hdg hW (X₁.named hnamed) (hpre vm₁ X₁.warmed) with ⟨v, B, X', hpost, hsteps⟩ | ⟨q, B, X', hpost, hsteps⟩
  · exact Or.inl ⟨v, vm₁, B, X₁.warmed, X', hpost, fun target h => hstep₁ _ fun acts => by rw [doInvoke_state]; exact hsteps.trans h⟩
  · exact Or.inr ⟨q, vm₁, B, X₁.warmed, X', hpost, hstep₁ _ fun acts => by rw [doInvoke_state]; exact hsteps⟩
end Calls
theorem vx_cls {s : State} {T : State} {vm₁ : Vm} {E : String} {k : ClassId} (hW : s.WarmedH vm₁) (h : (T.setVm vm₁).vm.findClass E = some k) : s.vm.findClass E = some k := by
  have h1 : vm₁.findClass E = some k := h
  rw [hW.alike.findClass] at h1
  exact h1
/-- the method's frame g, with q thrown over it -/
def vx_W (p : Program) (l : Launch) (e : Env) (R : Room) (s : State) (m : MethodId) (args : Array Value) (below : List Frame) (meth : Method) (c : Code) (H : Heap) (locs : List Loc) (cells slots : Nat) (Q : State → Prop) (g : JFrame) (q : Addr) : Prop :=
  ∀ T : State, T.heap = H → Stand p l e R s m args below meth c T locs cells slots → ∃ t, Steps p.tables e below ((T.setTop g).pushFrame (.throwing q)) t ∧ Q t
def vx_Run (p : Program) (l : Launch) (e : Env) (R : Room) (s : State) (m : MethodId) (args : Array Value) (below : List Frame) (meth : Method) (c : Code) (H : Heap) (locs : List Loc) (cells slots mc ms : Nat) (g : JFrame) (rest : List Value) (Qa : State → Outcome → State → Prop) (XC : String → State → State → Prop) (free : Addr → Prop) : Prop :=
  ∀ T : State, T.heap = H → Stand p l e R s m args below meth c T locs cells slots →
    (∃ (v : Option Value) (st₀ t T' : State) (L : List Loc), st₀.heap = H ∧ Stand p l e R s m args below meth c T' (locs ++ L) (cells + mc) (slots + ms) ∧ (∀ q ∈ L, free q.base) ∧ T'.heap = t.heap ∧ T'.vm = t.vm ∧ Qa st₀ (.returned v) t ∧
      Goes p e below T g T' { g with pc := g.pc + 3, stack := v.toList ++ rest }) ∨
    (∃ (q : Addr) (st₀ t T' : State) (L : List Loc) (E : String) (ce : Cell), st₀.heap = H ∧ Stand p l e R s m args below meth c T' (locs ++ L) (cells + mc) (slots + ms) ∧ (∀ z ∈ L, free z.base) ∧ T'.heap = t.heap ∧ T'.vm = t.vm ∧ XC E st₀ t ∧ t.heap[q]? = some ce ∧ ce.vm = .none ∧ s.vm.findClass E = some ce.cls ∧
      Steps p.tables e below (T.setTop g) ((T'.setTop { g with stack := rest }).pushFrame (.throwing q)))
def vx_X {S : Type} (px : S → Prop) (B : String → S → State → Prop) (A : Nat → Prop) : String → State → State → Prop := fun E st t => ∃ u : S, px u ∧ B E u t ∧ va_F A st t
section Runs
variable {p : Program} {l : Launch} {e : Env} {R : Room} {s : State} {m : MethodId} {args : Array Value} {below : List Frame} {meth : Method} {c : Code} {H : Heap} {locs : List Loc} {cells slots : Nat}
variable {y : MethodName} {bytes cc : ByteArray} {maxL nL mc ms n index : Nat} {ret : Option FieldType} {ws : List Cond} {rm : Room} {Pc : Array Value → State → Prop} {Qc : Array Value → State → Outcome → State → Prop} {XC : String → State → State → Prop} {free : Addr → Prop} {Ts : List Cond} {own C : String} {b : Addr} {As rest : List Value} {g : JFrame}
theorem vx_callBack (cb : CallB R s args own index y bytes maxL ret ws rm mc ms n) (hM : vx_Met l y ws rm Pc Qc XC mc ms free) (hbl : FrameBlind Pc) : vx_Back l R p e below s args y 3 8 (PreOf R mc ms Pc) (PostOf Qc mc ms free) (vx_Post XC mc ms free) := by
  obtain ⟨hrc, hrs, hfr, hlo, hws, hcw, -, hini, -⟩ := cb
  exact vx_back (bytes := bytes) (maxL := maxL) (ret := ret) hM hbl hrc hrs hfr hlo hws hcw (fun a' U hW => word_at hW (Or.inl (by first | rfl | simp [Cond.onTables, Cond.keeps, Cond.steady])) hini)
theorem vx_runV (S : CallFix p m c cc nL s args Ts own) (hM : vx_Met l y ws rm Pc Qc XC mc ms free) (cw : CallW R s args own C index y bytes maxL ret ws rm mc ms n) (hp : PreV s H C b Pc As)
    (hg : g.method = m) (hn : As.length = n) (hsize : g.locals.size = nL) (hstack : g.stack = As.reverse ++ .ref b :: rest) (hW : 2 * g.monitorRoom + (rest.map fun v => v.category).sum ≤ 8) (hdg : decode cc g.pc = .ok (.invokevirtual index, 3)) (hf : cells + mc ≤ R.cells ∧ slots + ms ≤ R.slots) :
    vx_Run p l e R s m args below meth c H locs cells slots mc ms g rest (Qc (Value.ref b :: As).toArray) XC free := by
  have hK : vx_Back l R p e below s args y 3 8 (PreOf R mc ms Pc) (PostOf Qc mc ms free) (vx_Post XC mc ms free) := vx_callBack cw.1 hM hp.1
  obtain ⟨⟨-, -, -, -, -, -, hcode, -, hy, hlen, hl⟩, hin, hse⟩ := cw
  obtain ⟨hx, hb, hml, ho, -⟩ := S
  obtain ⟨-, ⟨cellB, hcB, hoB, hclB⟩, hPc⟩ := hp
  intro T hT X
  rcases vx_callV X hx (C := C) (bytes := bytes) (maxL := maxL) (ret := ret) ho hl hin hse hcode hy hK (by rw [hT]; exact hcB) hoB hclB hg (hsize.trans hml.symm) (argsL := As) (rest := rest) (fun sig h => hn.trans (hlen sig h)) hstack hW (by rw [hb]; exact hdg)
    (fun vm₁ hW₁ => ⟨hf.1, hf.2, hPc (T.setVm vm₁) hT hW₁⟩) with ⟨v, vm₁, ⟨U', l2, c2, s2⟩, hW₁, X', ⟨g', mk, t, L, e1, e2, hq, h1, hL, h2, h3⟩, st⟩ | ⟨q, vm₁, ⟨U', l2, c2, s2⟩, hW₁, X', ⟨g', mk, t, L, E, ce, e1, e2, hq, hce, hcv, hcl, h1, hL, h2, h3⟩, st⟩
  · dsimp only [Pt.U, Pt.locs, Pt.cells, Pt.slots] at X' e1 e2 h1 h2 h3 st
    subst h1; subst h2; subst h3
    exact Or.inl ⟨v, (T.setVm vm₁).calling g' mk (Value.ref b :: As).toArray, t, U', L, hT, X', hL, e1, e2, hq, st⟩
  · dsimp only [Pt.U, Pt.locs, Pt.cells, Pt.slots] at X' e1 e2 h1 h2 h3 st hcl
    subst h1; subst h2; subst h3
    exact Or.inr ⟨q, (T.setVm vm₁).calling g' mk (Value.ref b :: As).toArray, t, U', L, E, ce, hT, X', hL, e1, e2, hq, hce, hcv, vx_cls hW₁ hcl, st⟩
theorem vx_runS (S : CallFix p m c cc nL s args Ts own) (hM : vx_Met l y ws rm Pc Qc XC mc ms free) (cw : CallB R s args own index y bytes maxL ret ws rm mc ms n ∧ (Cond.static y).before args s = true) (hp : PreS s H Pc As)
    (hg : g.method = m) (hn : As.length = n) (hsize : g.locals.size = nL) (hstack : g.stack = As.reverse ++ rest) (hW : 2 * g.monitorRoom + (rest.map fun v => v.category).sum ≤ 8) (hdg : decode cc g.pc = .ok (.invokestatic index, 3)) (hf : cells + mc ≤ R.cells ∧ slots + ms ≤ R.slots) :
    vx_Run p l e R s m args below meth c H locs cells slots mc ms g rest (Qc As.toArray) XC free := by
  have hK : vx_Back l R p e below s args y 3 8 (PreOf R mc ms Pc) (PostOf Qc mc ms free) (vx_Post XC mc ms free) := vx_callBack cw.1 hM hp.1
  obtain ⟨⟨-, -, -, -, -, -, hcode, hini, hy, hlen, hl⟩, hstt⟩ := cw
  obtain ⟨hx, hb, hml, ho, -⟩ := S
  intro T hT X
  rcases vx_callS X hx (bytes := bytes) (maxL := maxL) (ret := ret) ho hl hstt hini hcode hy hK hg (hsize.trans hml.symm) (argsL := As) (rest := rest) (fun sig h => hn.trans (hlen sig h)) hstack hW (by rw [hb]; exact hdg)
    (fun vm₁ hW₁ => ⟨hf.1, hf.2, hp.2 (T.setVm vm₁) hT hW₁⟩) with ⟨v, vm₁, ⟨U', l2, c2, s2⟩, hW₁, X', ⟨g', mk, t, L, e1, e2, hq, h1, hL, h2, h3⟩, st⟩ | ⟨q, vm₁, ⟨U', l2, c2, s2⟩, hW₁, X', ⟨g', mk, t, L, E, ce, e1, e2, hq, hce, hcv, hcl, h1, hL, h2, h3⟩, st⟩
  · dsimp only [Pt.U, Pt.locs, Pt.cells, Pt.slots] at X' e1 e2 h1 h2 h3 st
    subst h1; subst h2; subst h3
    exact Or.inl ⟨v, (T.setVm vm₁).calling g' mk As.toArray, t, U', L, hT, X', hL, e1, e2, hq, st⟩
  · dsimp only [Pt.U, Pt.locs, Pt.cells, Pt.slots] at X' e1 e2 h1 h2 h3 st hcl
    subst h1; subst h2; subst h3
    exact Or.inr ⟨q, (T.setVm vm₁).calling g' mk As.toArray, t, U', L, E, ce, hT, X', hL, e1, e2, hq, hce, hcv, vx_cls hW₁ hcl, st⟩
end Runs
section Rows
variable {p : Program} {l : Launch} {e : Env} {R : Room} {s : State} {m : MethodId} {args : Array Value} {below : List Frame} {meth : Method} {c : Code} {H : Heap} {locs : List Loc} {cells slots : Nat} {Q : State → Prop}
variable {mc ms : Nat} {free : Addr → Prop} {A0 A1 : Nat → Prop} {H0 : Heap} {a : Array Value} {pc : Nat} {ls : Array Slot} {st0 rest : List Value}
theorem vx_keep {st₀ t T' : State} {L : List Loc} (h0 : st₀.heap = H) (e1 : T'.heap = t.heap) (hS : va_S A0 H0 H locs) (hA : ∀ q, q < H.size → A1 q → A0 q) (hf : ∀ q, free q → A0 q) (hL : ∀ q ∈ L, free q.base) (hF : va_F A1 st₀ t) :
    H.size ≤ T'.heap.size ∧ (∀ q : Nat, q < H.size → ¬ A1 q → T'.heap[q]? = H[q]?) ∧ va_S A0 H0 T'.heap (locs ++ L) := by
  obtain ⟨hz, hk⟩ := hF
  rw [h0] at hz hk
  exact ⟨by rw [e1]; exact hz, fun q h1 h2 => by rw [e1]; exact hk q h1 h2,
    ⟨Nat.le_trans hS.1 (by rw [e1]; exact hz), fun q h1 h2 => by rw [e1, hk q (Nat.lt_of_lt_of_le h1 hS.1) (fun z => h2 (hA q (Nat.lt_of_lt_of_le h1 hS.1) z))]; exact hS.2.1 q h1 h2, fun q hq => by
      rcases List.mem_append.mp hq with h | h
      · exact hS.2.2 q h
      · exact hf _ (hL q h)⟩⟩
theorem vx_calli {S SX : Type} {post : Int32 → S → Prop} {px : SX → Prop} {B : S → State → Prop} {BX : String → SX → State → Prop} {AX : Nat → Prop} (hr : vx_Run p l e R s m args below meth c H locs cells slots mc ms (F0 m pc ls st0) rest (va_Qi post B A1 a) (vx_X px BX AX) free) (hS : va_S A0 H0 H locs) (hA : ∀ q, q < H.size → A1 q → A0 q) (hf : ∀ q, free q → A0 q) (hAX : ∀ q, q < H.size → AX q → A0 q)
    (kx : ∀ (E : String) (ce : Cell) (q9 : Addr) (u : SX) (t : State) (H1 : Heap) (locs1 : List Loc), t.heap = H1 → s.vm.Alike t.vm → px u → BX E u t → H.size ≤ H1.size → (∀ q : Nat, q < H.size → ¬ AX q → H1[q]? = H[q]?) → va_S A0 H0 H1 locs1 → H1[q9]? = some ce → ce.vm = .none → s.vm.findClass E = some ce.cls → vx_W p l e R s m args below meth c H1 locs1 (cells + mc) (slots + ms) Q (F0 m pc ls rest) q9)
    (kk : ∀ (r : Int32) (u : S) (t : State) (H1 : Heap) (locs1 : List Loc), t.heap = H1 → s.vm.Alike t.vm → post r u → B u t → H.size ≤ H1.size → (∀ q : Nat, q < H.size → ¬ A1 q → H1[q]? = H[q]?) → va_S A0 H0 H1 locs1 → W p l e R s m args below meth c H1 locs1 (cells + mc) (slots + ms) Q (F0 m (pc + 3) ls (.int r :: rest))) : W p l e R s m args below meth c H locs cells slots Q (F0 m pc ls st0) := by
  intro T hT X
  rcases hr T hT X with ⟨v, st₀, t, T', L, h0, X', hL, e1, e2, ⟨⟨r, u, hv, hp, hb⟩, hF⟩, st⟩ | ⟨q, st₀, t, T', L, E, ce, h0, X', hL, e1, e2, ⟨u, hp, hb, hF⟩, hce, hcv, hcl, st⟩
  · cases hv
    obtain ⟨k1, k2, k3⟩ := vx_keep h0 e1 hS hA hf hL hF
    obtain ⟨t2, a1, b1⟩ := kk r u t T'.heap (locs ++ L) e1.symm (by rw [← e2]; exact X'.warmed.alike) hp hb k1 k2 k3 T' rfl X'
    exact ⟨t2, st t2 a1, b1⟩
  · obtain ⟨k1, k2, k3⟩ := vx_keep h0 e1 hS hAX hf hL hF
    obtain ⟨t2, a1, b1⟩ := kx E ce q u t T'.heap (locs ++ L) e1.symm (by rw [← e2]; exact X'.warmed.alike) hp hb k1 k2 k3 (by rw [e1]; exact hce) hcv hcl T' rfl X'
    exact ⟨t2, st.trans a1, b1⟩
theorem vx_calll {S SX : Type} {post : Int64 → S → Prop} {px : SX → Prop} {B : S → State → Prop} {BX : String → SX → State → Prop} {AX : Nat → Prop} (hr : vx_Run p l e R s m args below meth c H locs cells slots mc ms (F0 m pc ls st0) rest (va_Ql post B A1 a) (vx_X px BX AX) free) (hS : va_S A0 H0 H locs) (hA : ∀ q, q < H.size → A1 q → A0 q) (hf : ∀ q, free q → A0 q) (hAX : ∀ q, q < H.size → AX q → A0 q)
    (kx : ∀ (E : String) (ce : Cell) (q9 : Addr) (u : SX) (t : State) (H1 : Heap) (locs1 : List Loc), t.heap = H1 → s.vm.Alike t.vm → px u → BX E u t → H.size ≤ H1.size → (∀ q : Nat, q < H.size → ¬ AX q → H1[q]? = H[q]?) → va_S A0 H0 H1 locs1 → H1[q9]? = some ce → ce.vm = .none → s.vm.findClass E = some ce.cls → vx_W p l e R s m args below meth c H1 locs1 (cells + mc) (slots + ms) Q (F0 m pc ls rest) q9)
    (kk : ∀ (r : Int64) (u : S) (t : State) (H1 : Heap) (locs1 : List Loc), t.heap = H1 → s.vm.Alike t.vm → post r u → B u t → H.size ≤ H1.size → (∀ q : Nat, q < H.size → ¬ A1 q → H1[q]? = H[q]?) → va_S A0 H0 H1 locs1 → W p l e R s m args below meth c H1 locs1 (cells + mc) (slots + ms) Q (F0 m (pc + 3) ls (.long r :: rest))) : W p l e R s m args below meth c H locs cells slots Q (F0 m pc ls st0) := by
  intro T hT X
  rcases hr T hT X with ⟨v, st₀, t, T', L, h0, X', hL, e1, e2, ⟨⟨r, u, hv, hp, hb⟩, hF⟩, st⟩ | ⟨q, st₀, t, T', L, E, ce, h0, X', hL, e1, e2, ⟨u, hp, hb, hF⟩, hce, hcv, hcl, st⟩
  · cases hv
    obtain ⟨k1, k2, k3⟩ := vx_keep h0 e1 hS hA hf hL hF
    obtain ⟨t2, a1, b1⟩ := kk r u t T'.heap (locs ++ L) e1.symm (by rw [← e2]; exact X'.warmed.alike) hp hb k1 k2 k3 T' rfl X'
    exact ⟨t2, st t2 a1, b1⟩
  · obtain ⟨k1, k2, k3⟩ := vx_keep h0 e1 hS hAX hf hL hF
    obtain ⟨t2, a1, b1⟩ := kx E ce q u t T'.heap (locs ++ L) e1.symm (by rw [← e2]; exact X'.warmed.alike) hp hb k1 k2 k3 (by rw [e1]; exact hce) hcv hcl T' rfl X'
    exact ⟨t2, st.trans a1, b1⟩
theorem vx_callf {S SX : Type} {post : UInt32 → S → Prop} {px : SX → Prop} {B : S → State → Prop} {BX : String → SX → State → Prop} {AX : Nat → Prop} (hr : vx_Run p l e R s m args below meth c H locs cells slots mc ms (F0 m pc ls st0) rest (va_Qf post B A1 a) (vx_X px BX AX) free) (hS : va_S A0 H0 H locs) (hA : ∀ q, q < H.size → A1 q → A0 q) (hf : ∀ q, free q → A0 q) (hAX : ∀ q, q < H.size → AX q → A0 q)
    (kx : ∀ (E : String) (ce : Cell) (q9 : Addr) (u : SX) (t : State) (H1 : Heap) (locs1 : List Loc), t.heap = H1 → s.vm.Alike t.vm → px u → BX E u t → H.size ≤ H1.size → (∀ q : Nat, q < H.size → ¬ AX q → H1[q]? = H[q]?) → va_S A0 H0 H1 locs1 → H1[q9]? = some ce → ce.vm = .none → s.vm.findClass E = some ce.cls → vx_W p l e R s m args below meth c H1 locs1 (cells + mc) (slots + ms) Q (F0 m pc ls rest) q9)
    (kk : ∀ (r : UInt32) (u : S) (t : State) (H1 : Heap) (locs1 : List Loc), t.heap = H1 → s.vm.Alike t.vm → post r u → B u t → H.size ≤ H1.size → (∀ q : Nat, q < H.size → ¬ A1 q → H1[q]? = H[q]?) → va_S A0 H0 H1 locs1 → W p l e R s m args below meth c H1 locs1 (cells + mc) (slots + ms) Q (F0 m (pc + 3) ls (.float r :: rest))) : W p l e R s m args below meth c H locs cells slots Q (F0 m pc ls st0) := by
  intro T hT X
  rcases hr T hT X with ⟨v, st₀, t, T', L, h0, X', hL, e1, e2, ⟨⟨r, u, hv, hp, hb⟩, hF⟩, st⟩ | ⟨q, st₀, t, T', L, E, ce, h0, X', hL, e1, e2, ⟨u, hp, hb, hF⟩, hce, hcv, hcl, st⟩
  · cases hv
    obtain ⟨k1, k2, k3⟩ := vx_keep h0 e1 hS hA hf hL hF
    obtain ⟨t2, a1, b1⟩ := kk r u t T'.heap (locs ++ L) e1.symm (by rw [← e2]; exact X'.warmed.alike) hp hb k1 k2 k3 T' rfl X'
    exact ⟨t2, st t2 a1, b1⟩
  · obtain ⟨k1, k2, k3⟩ := vx_keep h0 e1 hS hAX hf hL hF
    obtain ⟨t2, a1, b1⟩ := kx E ce q u t T'.heap (locs ++ L) e1.symm (by rw [← e2]; exact X'.warmed.alike) hp hb k1 k2 k3 (by rw [e1]; exact hce) hcv hcl T' rfl X'
    exact ⟨t2, st.trans a1, b1⟩
theorem vx_calld {S SX : Type} {post : UInt64 → S → Prop} {px : SX → Prop} {B : S → State → Prop} {BX : String → SX → State → Prop} {AX : Nat → Prop} (hr : vx_Run p l e R s m args below meth c H locs cells slots mc ms (F0 m pc ls st0) rest (va_Qd post B A1 a) (vx_X px BX AX) free) (hS : va_S A0 H0 H locs) (hA : ∀ q, q < H.size → A1 q → A0 q) (hf : ∀ q, free q → A0 q) (hAX : ∀ q, q < H.size → AX q → A0 q)
    (kx : ∀ (E : String) (ce : Cell) (q9 : Addr) (u : SX) (t : State) (H1 : Heap) (locs1 : List Loc), t.heap = H1 → s.vm.Alike t.vm → px u → BX E u t → H.size ≤ H1.size → (∀ q : Nat, q < H.size → ¬ AX q → H1[q]? = H[q]?) → va_S A0 H0 H1 locs1 → H1[q9]? = some ce → ce.vm = .none → s.vm.findClass E = some ce.cls → vx_W p l e R s m args below meth c H1 locs1 (cells + mc) (slots + ms) Q (F0 m pc ls rest) q9)
    (kk : ∀ (r : UInt64) (u : S) (t : State) (H1 : Heap) (locs1 : List Loc), t.heap = H1 → s.vm.Alike t.vm → post r u → B u t → H.size ≤ H1.size → (∀ q : Nat, q < H.size → ¬ A1 q → H1[q]? = H[q]?) → va_S A0 H0 H1 locs1 → W p l e R s m args below meth c H1 locs1 (cells + mc) (slots + ms) Q (F0 m (pc + 3) ls (.double r :: rest))) : W p l e R s m args below meth c H locs cells slots Q (F0 m pc ls st0) := by
  intro T hT X
  rcases hr T hT X with ⟨v, st₀, t, T', L, h0, X', hL, e1, e2, ⟨⟨r, u, hv, hp, hb⟩, hF⟩, st⟩ | ⟨q, st₀, t, T', L, E, ce, h0, X', hL, e1, e2, ⟨u, hp, hb, hF⟩, hce, hcv, hcl, st⟩
  · cases hv
    obtain ⟨k1, k2, k3⟩ := vx_keep h0 e1 hS hA hf hL hF
    obtain ⟨t2, a1, b1⟩ := kk r u t T'.heap (locs ++ L) e1.symm (by rw [← e2]; exact X'.warmed.alike) hp hb k1 k2 k3 T' rfl X'
    exact ⟨t2, st t2 a1, b1⟩
  · obtain ⟨k1, k2, k3⟩ := vx_keep h0 e1 hS hAX hf hL hF
    obtain ⟨t2, a1, b1⟩ := kx E ce q u t T'.heap (locs ++ L) e1.symm (by rw [← e2]; exact X'.warmed.alike) hp hb k1 k2 k3 (by rw [e1]; exact hce) hcv hcl T' rfl X'
    exact ⟨t2, st.trans a1, b1⟩
theorem vx_callv {S SX : Type} {post : S → Prop} {px : SX → Prop} {B : S → State → Prop} {BX : String → SX → State → Prop} {AX : Nat → Prop} (hr : vx_Run p l e R s m args below meth c H locs cells slots mc ms (F0 m pc ls st0) rest (va_Qv post B A1 a) (vx_X px BX AX) free) (hS : va_S A0 H0 H locs) (hA : ∀ q, q < H.size → A1 q → A0 q) (hf : ∀ q, free q → A0 q) (hAX : ∀ q, q < H.size → AX q → A0 q)
    (kx : ∀ (E : String) (ce : Cell) (q9 : Addr) (u : SX) (t : State) (H1 : Heap) (locs1 : List Loc), t.heap = H1 → s.vm.Alike t.vm → px u → BX E u t → H.size ≤ H1.size → (∀ q : Nat, q < H.size → ¬ AX q → H1[q]? = H[q]?) → va_S A0 H0 H1 locs1 → H1[q9]? = some ce → ce.vm = .none → s.vm.findClass E = some ce.cls → vx_W p l e R s m args below meth c H1 locs1 (cells + mc) (slots + ms) Q (F0 m pc ls rest) q9)
    (kk : ∀ (u : S) (t : State) (H1 : Heap) (locs1 : List Loc), t.heap = H1 → s.vm.Alike t.vm → post u → B u t → H.size ≤ H1.size → (∀ q : Nat, q < H.size → ¬ A1 q → H1[q]? = H[q]?) → va_S A0 H0 H1 locs1 → W p l e R s m args below meth c H1 locs1 (cells + mc) (slots + ms) Q (F0 m (pc + 3) ls (rest))) : W p l e R s m args below meth c H locs cells slots Q (F0 m pc ls st0) := by
  intro T hT X
  rcases hr T hT X with ⟨v, st₀, t, T', L, h0, X', hL, e1, e2, ⟨⟨u, hv, hp, hb⟩, hF⟩, st⟩ | ⟨q, st₀, t, T', L, E, ce, h0, X', hL, e1, e2, ⟨u, hp, hb, hF⟩, hce, hcv, hcl, st⟩
  · cases hv
    obtain ⟨k1, k2, k3⟩ := vx_keep h0 e1 hS hA hf hL hF
    obtain ⟨t2, a1, b1⟩ := kk u t T'.heap (locs ++ L) e1.symm (by rw [← e2]; exact X'.warmed.alike) hp hb k1 k2 k3 T' rfl X'
    exact ⟨t2, st t2 a1, b1⟩
  · obtain ⟨k1, k2, k3⟩ := vx_keep h0 e1 hS hAX hf hL hF
    obtain ⟨t2, a1, b1⟩ := kx E ce q u t T'.heap (locs ++ L) e1.symm (by rw [← e2]; exact X'.warmed.alike) hp hb k1 k2 k3 (by rw [e1]; exact hce) hcv hcl T' rfl X'
    exact ⟨t2, st.trans a1, b1⟩
/-- caught by the row x of this method's table; the rows ahead don't take it -/
theorem vx_catch {own name : String} {E : String} {ce : Cell} {q : Addr} (hown : s.vm.findClass own = some m.cls) (pre : List ExceptionTableEntry) (x : ExceptionTableEntry) (suf : List ExceptionTableEntry) (hsplit : c.exceptionTable.toList = pre ++ x :: suf)
    (hpass : ∀ z ∈ pre, covers z pc = false ∨ (z.catchType ≠ 0 ∧ ∃ nm : String, (Cond.classLink own z.catchType nm).before args s = true ∧ va_Nc E nm s)) (hx : covers x pc = true) (h0 : x.catchType ≠ 0)
    (hlink : (Cond.classLink own x.catchType name).before args s = true) (hcast : (Cond.castable E name).before args s = true) (hcell : H[q]? = some ce) (hv : ce.vm = .none) (hcl : s.vm.findClass E = some ce.cls)
    (kk : W p l e R s m args below meth c H locs cells slots Q (F0 m x.handlerPc ls [.ref q])) : vx_W p l e R s m args below meth c H locs cells slots Q (F0 m pc ls rest) q := by
  intro T hT X
  have hpl : e.platform.magicAccessors = ({} : Platform).magicAccessors := by rw [X.admits.platform]
  obtain ⟨c3, c4, hc3, hc4, hasg⟩ := Cond.castable_spec hcast
  cases Option.some.inj (hc3.symm.trans hcl)
  obtain ⟨c5, hc5, hcl5⟩ := Cond.classLink_spec hown hlink e.platform hpl
  cases Option.some.inj (hc4.symm.trans hc5)
  obtain ⟨vm', X', st⟩ := X.thenCaughtThrough q (g := F0 m pc ls rest) rfl (Steps.refl _) (by rw [hT]; exact hcell) (by rw [hv]; rfl) (by obtain ⟨k9, h9, -⟩ := Vm.findClass_spec hcl; exact ⟨k9, h9⟩) pre x suf hsplit
    (fun z hz => by
      rcases hpass z hz with h | ⟨hz0, nm, hl1, hn1⟩
      · exact Or.inl h
      · obtain ⟨c6, hc6, hcl6⟩ := Cond.classLink_spec hown hl1 e.platform hpl
        obtain ⟨a8, b8, h1, h2, h3⟩ := hn1
        cases Option.some.inj (h1.symm.trans hcl)
        cases Option.some.inj (h2.symm.trans hc6)
        exact Or.inr ⟨hz0, _, hcl6, h3⟩) hx (Or.inr ⟨h0, c4, hcl5, hasg⟩)
  obtain ⟨t, a1, b1⟩ := kk (T.setVm vm') hT X'
  exact ⟨t, st.trans a1, b1⟩
end Rows
section Ends
variable {p : Program} {l : Launch} {e : Env} {R : Room} {s : State} {m : MethodId} {args : Array Value} {below : List Frame} {meth : Method} {c : Code} {H : Heap} {locs : List Loc} {cells slots : Nat} {Q : State → Prop}
variable {mc ms : Nat} {free : Addr → Prop} {A0 A1 : Nat → Prop} {H0 : Heap} {a : Array Value} {ls : Array Slot} {st0 rest : List Value}
variable {Qc : Array Value → State → Outcome → State → Prop} {XC : String → State → State → Prop}
/-- what a body that may throw owes at its end -/
def vx_MQ (below : List Frame) (Qc : Array Value → State → Outcome → State → Prop) (XC : String → State → State → Prop) (a : Array Value) (s : State) (mc ms : Nat) (free : Addr → Prop) : State → Prop := fun t =>
  ∃ o, t.status = .running ∧ Ended t below o ∧ vx_Q Qc XC mc ms free a s o t
theorem vx_ret {g : JFrame} {mc ms : Nat} (k : W p l e R s m args below meth c H locs cells slots (MQ below Qc args s mc ms free) g) : W p l e R s m args below meth c H locs cells slots (vx_MQ below Qc XC args s mc ms free) g := by
  intro T hT X
  obtain ⟨t, a1, o, b1, b2, b3, b4⟩ := k T hT X
  exact ⟨t, a1, o, b1, b2, Or.inl ⟨b3, b4⟩⟩
/-- not caught here: it goes on to the caller -/
theorem vx_widen {g : JFrame} {q : Addr} {k n : Nat} (h1 : cells ≤ k) (h2 : slots ≤ n) (kk : vx_W p l e R s m args below meth c H locs k n Q g q) : vx_W p l e R s m args below meth c H locs cells slots Q g q := fun T hT X => kk T hT (stand_widen X h1 h2)
theorem vx_out {pc : Nat} {E : String} {ce : Cell} {q : Addr} {mc ms : Nat} (hout : ∀ x ∈ c.exceptionTable.toList, covers x pc = false) (hlocks : meth.locks = false) (hcell : H[q]? = some ce) (hv : ce.vm = .none) (hcl : s.vm.findClass E = some ce.cls)
    (hx : ∀ t : State, t.heap = H → s.vm.Alike t.vm → XC E s t) (hf : ∀ z ∈ locs, free z.base) (hc : cells ≤ mc) (hs : slots ≤ ms) :
    vx_W p l e R s m args below meth c H locs cells slots (vx_MQ below Qc XC args s mc ms free) (F0 m pc ls rest) q := by
  intro T hT X
  obtain ⟨st1, hrun, hend, hW, hsm⟩ := X.leaveThrown q (g := F0 m pc ls rest) rfl rfl rfl hout hlocks
  have hcell9 : (T.setFrames (.throwing q :: below)).heap[q]? = some ce := by
    show T.heap[q]? = some ce
    rw [hT]; exact hcell
  exact ⟨_, st1, .threw q, hrun, hend, Or.inr ⟨q, rfl, E, ce, locs, hx _ hT hW.alike, hcell9, hv, hcl, hW, hsm.mono hc hs, hf⟩⟩
theorem vx_frame {U : State} {k n : Nat} (h : s.sameButNew ({ U with vm := s.vm } : State) locs k n) : s.heap.size ≤ U.heap.size ∧ ∀ q : Nat, q < s.heap.size → (∀ z ∈ locs, z.base ≠ q) → U.heap[q]? = s.heap[q]? := by
  obtain ⟨-, h2, -, -, -, h6⟩ := h
  refine ⟨h2, fun q hq hz => ?_⟩
  obtain ⟨c9, e1, e2, e3, e4⟩ := h6 q _ (Array.getElem?_eq_getElem hq)
  have hs : c9.slots = (s.heap[q]).slots := Array.ext_getElem? fun i => e4 i fun hm => hz _ hm rfl
  have h9 : c9 = s.heap[q] := by
    rw [hs] at e2
    exact e2
  have e5 : U.heap[q]? = some c9 := e1
  rw [e5, h9, Array.getElem?_eq_getElem hq]
/-- the words of a throw but the four that speak of the heap -/
def vx_no (w : Cond) : Bool := decide (w ≠ .isRef (.static Bundle.tN "UNASSIGNED_STACK" Bundle.steD)) && decide (w ≠ .isRef (.static Bundle.tN "SUPPRESSED_SENTINEL" Bundle.listD)) && decide (w ≠ .laysStatic Bundle.tN "UNASSIGNED_STACK" Bundle.steD) && decide (w ≠ .laysStatic Bundle.tN "SUPPRESSED_SENTINEL" Bundle.listD)
def vx_at0 (own : String) (ic : Nat) (X : String) (names : List String) : List Cond := (Bundle.ownAtoms0 own ic X names).filter vx_no
def vx_atS (own : String) (ic : Nat) (X : String) (names : List String) : List Cond := (Bundle.ownAtoms own ic X names).filter vx_no
/-- a word that the tables alone decide, or a good one -/
def vx_ot (w : Cond) : Bool := w.onTables || goodWord w
theorem vx_ot_at {args a' : Array Value} {s U : State} {w : Cond} (hW : s.WarmedH U.vm) (hvm : s.vm = U.vm) (hg : vx_ot w = true) (h : w.before args s = true) : w.before a' U = true := by
  simp only [vx_ot, Bool.or_eq_true] at hg
  rcases hg with hg | hg
  · exact va_tabs hg hvm h
  · exact word_at hW (good_of_word hg) h
/-- a list's words: the good ones out of the method's own list, the others by premises of their own -/
theorem vx_hat {args : Array Value} {s : State} {L B : List Cond} (h1 : ∀ w ∈ L.filter goodWord, w.before args s = true) (h2 : ∀ w ∈ L.filter (fun w => !goodWord w), w ∈ B) (h3 : ∀ w ∈ B, w.before args s = true) : ∀ w ∈ L, w.before args s = true := by
  intro w hw
  by_cases g : goodWord w = true
  · exact h1 w (List.mem_filter.mpr ⟨hw, g⟩)
  · refine h3 w (h2 w (List.mem_filter.mpr ⟨hw, ?_⟩))
    show (!goodWord w) = true
    cases hgw : goodWord w
    · rfl
    · exact absurd hgw g
theorem vx_c {args : Array Value} {s : State} {w : Cond} {B : List Cond} (h : w.before args s = true) (t : ∀ w ∈ B, w.before args s = true) : ∀ w' ∈ w :: B, w'.before args s = true := fun w' h' => (List.mem_cons.mp h').elim (fun e => by rw [e]; exact h) (t w')
theorem vx_n {args : Array Value} {s : State} : ∀ w ∈ ([] : List Cond), w.before args s = true := fun _ h => nomatch h
theorem vx_own {args : Array Value} {s : State} {L : List Cond} (h1 : ∀ w ∈ L.filter vx_no, w.before args s = true)
    (hU : (Cond.isRef (.static Bundle.tN "UNASSIGNED_STACK" Bundle.steD)).before args s = true) (hN : (Cond.isRef (.static Bundle.tN "SUPPRESSED_SENTINEL" Bundle.listD)).before args s = true)
    (lU : (Cond.laysStatic Bundle.tN "UNASSIGNED_STACK" Bundle.steD).before args s = true) (lN : (Cond.laysStatic Bundle.tN "SUPPRESSED_SENTINEL" Bundle.listD).before args s = true) : ∀ w ∈ L, w.before args s = true := by
  intro w hw
  by_cases e1 : w = .isRef (.static Bundle.tN "UNASSIGNED_STACK" Bundle.steD)
  · rw [e1]; exact hU
  · by_cases e2 : w = .isRef (.static Bundle.tN "SUPPRESSED_SENTINEL" Bundle.listD)
    · rw [e2]; exact hN
    · by_cases e3 : w = .laysStatic Bundle.tN "UNASSIGNED_STACK" Bundle.steD
      · rw [e3]; exact lU
      · by_cases e4 : w = .laysStatic Bundle.tN "SUPPRESSED_SENTINEL" Bundle.listD
        · rw [e4]; exact lN
        · exact h1 w (List.mem_filter.mpr ⟨hw, by unfold vx_no; rw [decide_eq_true e1, decide_eq_true e2, decide_eq_true e3, decide_eq_true e4]; rfl⟩)
/-- where a static field lies, its class's statics cell in H -/
def vx_L (C n d : String) (A : Nat → Prop) (U : State) (H : Heap) : Prop := ∃ (c : ClassId) (k : Class) (i : Nat) (f : Field) (a : Nat) (cell : Cell), U.vm.findClass C = some c ∧ U.fieldFound? C n d = some (c, k, i, f) ∧ f.isStatic = true ∧ k.statics = some a ∧ H[a]? = some cell ∧ cell.vm.isStatics = true ∧ cell.cls = c ∧ f.slot < cell.slots.size ∧ k.staticTypes[f.slot]? = some f.type ∧ ¬ A a
theorem vx_L.moved {C n d : String} {A : Nat → Prop} {u U : State} {H : Heap} (hvm : u.vm.Alike U.vm) (h : vx_L C n d A u H) : vx_L C n d A U H := by
  obtain ⟨c, k, i, f, a, cell, h1, h2, h3, h4, h5, h6, h7, h8, h9, h10⟩ := h
  obtain ⟨k', hi', he⟩ := State.fieldFound?_setVm hvm h2
  exact ⟨c, k', i, f, a, cell, by rw [hvm.findClass]; exact h1, hi', h3, by rw [he]; exact h4, h5, h6, h7, h8, by rw [he]; exact h9, h10⟩
theorem vx_L.kept {C n d : String} {A : Nat → Prop} {U : State} {H H1 : Heap} (h : vx_L C n d A U H) (hq : ∀ a : Nat, a < H.size → ¬ A a → H1[a]? = H[a]?) : vx_L C n d A U H1 := by
  obtain ⟨c, k, i, f, a, cell, h1, h2, h3, h4, h5, h6, h7, h8, h9, h10⟩ := h
  exact ⟨c, k, i, f, a, cell, h1, h2, h3, h4, by rw [hq a (Array.getElem?_eq_some_iff.mp h5).1 h10]; exact h5, h6, h7, h8, h9, h10⟩
theorem vx_L.narrow {C n d : String} {A B : Nat → Prop} {U : State} {H : Heap} (h : vx_L C n d A U H) (hAB : ∀ q, B q → A q) : vx_L C n d B U H := by
  obtain ⟨c, k, i, f, a, cell, h1, h2, h3, h4, h5, h6, h7, h8, h9, h10⟩ := h
  exact ⟨c, k, i, f, a, cell, h1, h2, h3, h4, h5, h6, h7, h8, h9, fun z => h10 (hAB _ z)⟩
theorem vx_L.word {C n d : String} {A : Nat → Prop} {s : State} {args : Array Value} (h : vx_L C n d A s s.heap) : (Cond.laysStatic C n d).before args s = true := by
  obtain ⟨c, k, i, f, a, cell, h1, h2, h3, h4, h5, h6, h7, h8, h9, -⟩ := h
  show (Cond.laysStatic C n d).holds args s none s [] = true
  exact Cond.laysStatic_of h1 h2 h3 h4 h5 h6 h7 h8 h9
/-- .. and what it holds: null or some reference -/
def vx_Zq (C n d : String) (A : Nat → Prop) (U : State) (H : Heap) : Prop := va_Zq C n d A U H ∧ vx_L C n d A U H
theorem vx_Zq.moved {C n d : String} {A : Nat → Prop} {u U : State} {H : Heap} (hvm : u.vm.Alike U.vm) (h : vx_Zq C n d A u H) : vx_Zq C n d A U H := ⟨va_Zq.moved hvm h.1, vx_L.moved hvm h.2⟩
theorem vx_Zq.kept {C n d : String} {A : Nat → Prop} {U : State} {H H1 : Heap} (h : vx_Zq C n d A U H) (hq : ∀ a : Nat, a < H.size → ¬ A a → H1[a]? = H[a]?) : vx_Zq C n d A U H1 := ⟨va_Zq.kept h.1 hq, vx_L.kept h.2 hq⟩
theorem vx_Zq.narrow {C n d : String} {A B : Nat → Prop} {U : State} {H : Heap} (h : vx_Zq C n d A U H) (hAB : ∀ q, B q → A q) : vx_Zq C n d B U H := ⟨va_Zq.narrow h.1 hAB, vx_L.narrow h.2 hAB⟩
theorem vx_Zqof {args : Array Value} {s : State} {C n d : String} {A : Nat → Prop} (hl : (Cond.laysStatic C n d).before args s = true) (hini : (Cond.initialized C).before args s = true) (h : (Cond.isRef (.static C n d)).before args s = true) (hA : ∀ a : Nat, a < s.heap.size → ¬ A a) : vx_Zq C n d A s s.heap := by
  refine ⟨va_Zqof hl hini h hA, ?_⟩
  obtain ⟨c, k, i, f, a, cell, h1, h2, h3, h4, h5, h6, h7, h8, h9⟩ := Cond.laysStatic_spec hl
  exact ⟨c, k, i, f, a, cell, h1, h2, h3, h4, h5, h6, h7, h8, h9, hA a (Array.getElem?_eq_some_iff.mp h5).1⟩
theorem vx_isRef {C n d : String} {v : Value} {A : Nat → Prop} {s : State} {args : Array Value} (h : va_Z C n d v A s s.heap) (hv : v.isRef = true) : (Cond.isRef (.static C n d)).before args s = true := by
  obtain ⟨cf, kf, fi, f, a, cell, h1, h2, h3, h4, h5, h6, h7, -⟩ := h
  have he : (Term.static C n d).eval args s none [] s = some v := by
    simp [Term.eval, State.fieldNamed?, h1, h2, h4, h5, h6, h7]
  simp only [Cond.before, Cond.holds, Cond.value, he]
  cases v <;> simp_all [Value.isRef]
theorem vx_isRefq {C n d : String} {A : Nat → Prop} {s : State} {args : Array Value} (h : va_Zq C n d A s s.heap) : (Cond.isRef (.static C n d)).before args s = true := by
  rcases h with h | ⟨t, h⟩
  · exact vx_isRef h rfl
  · exact vx_isRef h rfl
/-- the same frame, seen from here: as if the method were called anew in this heap -/
theorem vx_rebase {T : State} (X : Stand p l e R s m args below meth c T locs cells slots) {R' : Room} (hf : R'.frames ≤ R.frames) (hl : R'.locals ≤ R.locals) (hc : cells + R'.cells ≤ R.cells) (hs : slots + R'.slots ≤ R.slots) :
    Stand p l e R' ((T.setVm s.vm).setFrames (.invoking m args :: below)) m args below meth c T [] 0 0 := by
  have htop : (T.setVm s.vm).topJava?.isSome := X.here.top
  have hF : ((T.setVm s.vm).setFrames (.invoking m args :: below)).frames = .invoking m args :: below := State.frames_setFrames _ (State.cur_lt_of_top htop)
  obtain ⟨g₀, hg0⟩ := Option.isSome_iff_exists.mp htop
  obtain ⟨r, hr⟩ := State.topJava?_eq_some.mp hg0
  have hl9 : e.platform.stackLimits (T.setVm s.vm).me = e.platform.stackLimits s.me := X.limits
  have hb9 : (T.setVm s.vm).me.stackBytes = s.me.stackBytes := X.bytes
  refine ⟨X.admits, X.cas, X.clock, hF, ?_, X.hears, X.method, X.code, X.here, X.tail, X.warmed, ?_, ?_, ?_⟩
  · have h := X.room
    have hU : ((T.setVm s.vm).setFrames (.invoking m args :: below)).localsInUse = s.localsInUse := by
      rw [State.localsInUse_invoking hF (meth := meth) (c := c) X.method X.code, State.localsInUse_invoking X.frames X.method X.code]
    simp only [State.hasRoom, Bool.and_eq_true, decide_eq_true_eq] at h ⊢
    obtain ⟨⟨⟨⟨h1, h2, h3, h4, h5, h6⟩, h7⟩, h8⟩, h9⟩ := h
    rw [X.frames, List.length_cons] at h2 h3
    have q1 := X.heapSize
    have q2 := X.used
    simp only [hF, hU, List.length_cons, State.stackLimits_setFrames, State.stackBytes_setFrames, hl9, hb9]
    refine ⟨⟨⟨⟨by omega, by omega, by omega, by omega, by omega, h6⟩, ?_⟩, ?_⟩, X.book⟩
    · show T.heap.size + R'.cells ≤ e.platform.maxCells
      omega
    · show T.slotsUsed + R'.slots ≤ e.platform.maxSlots
      omega
  · rw [State.stackLimits_setFrames]; rfl
  · rw [State.stackBytes_setFrames]; rfl
  · refine ⟨?_, Nat.le_refl _, Nat.le_refl _, ?_, ?_, fun a c9 h9 => ⟨c9, h9, rfl, rfl, fun _ _ => rfl⟩⟩
    · obtain ⟨t, ht, -⟩ := State.frames_cons hr
      show T.setVm s.vm = { ((T.setVm s.vm).setFrames (.invoking m args :: below)).setFrames (T.setVm s.vm).frames with heap := T.heap, slotsUsed := T.slotsUsed }
      rw [State.setFrames_setFrames, State.setFrames_self ht]
      rfl
    · show T.slotsUsed = T.slotsUsed + ((T.heap.toList.drop T.heap.size).map (·.slots.size)).sum
      rw [List.drop_eq_nil_of_le (Nat.le_of_eq Array.length_toList)]
      rfl
    · show ((T.heap.toList.drop T.heap.size).map (·.slots.size)).sum ≤ 0
      rw [List.drop_eq_nil_of_le (Nat.le_of_eq Array.length_toList)]
      exact Nat.le_refl _
/-- 'throw new E()': new; dup; invokespecial; athrow -/
theorem vx_throw0 {cc : ByteArray} {pc : Nat} (hexec : p.tables.exec = Jvm.exec) (hb : c.code = cc) (hl : l.stackTraces = false) {own cls : String} {names : List String} {ik ic mc ms : Nat} {A : Nat → Prop}
    (hown : s.vm.findClass own = some m.cls) (hcls : Bundle.fit cls = true) (hnames : ∀ n ∈ names, Bundle.fit n = true)
    (hk : (Cond.classLink own ik cls).before args s = true) (hini : (Cond.initialized cls).before args s = true) (hat : ∀ w ∈ vx_at0 own ic cls names, w.before args s = true)
    (hgood : ∀ w ∈ Cond.classLink own ik cls :: Cond.initialized cls :: vx_at0 own ic cls names, vx_ot w = true)
    (hU : vx_Zq Bundle.tN "UNASSIGNED_STACK" Bundle.steD A s s.heap) (hN : vx_Zq Bundle.tN "SUPPRESSED_SENTINEL" Bundle.listD A s s.heap) (hS : va_S A s.heap H locs) (hsize : ls.size = c.maxLocals)
    (d0 : decode cc pc = .ok (.new ik, 3)) (d3 : decode cc (pc + 3) = .ok (.dup, 1)) (d4 : decode cc (pc + 4) = .ok (.invokespecial ic, 3)) (d7 : decode cc (pc + 7) = .ok (.athrow, 1))
    (hout : ∀ x ∈ c.exceptionTable.toList, covers x (pc + 7) = false)
    (hRframes : names.length + 3 < R.frames) (hRlocals : (rest.map fun v => v.category).sum + (13 * (names.length + 1) + 42) ≤ R.locals) (hRcells : cells + 1 ≤ R.cells) (hRslots : slots + 6 ≤ R.slots) (hlocks : meth.locks = false)
    (hx : ∀ t : State, s.vm.Alike t.vm → H.size ≤ t.heap.size → (∀ q : Nat, q < H.size → t.heap[q]? = H[q]?) → XC cls s t)
    (hf : ∀ z ∈ locs, free z.base) (hc : cells + 1 ≤ mc) (hs : slots + 6 ≤ ms) :
    W p l e R s m args below meth c H locs cells slots (vx_MQ below Qc XC args s mc ms free) (F0 m pc ls rest) := by
  intro T hT X
  have htr : e.platform.stackTraces = false := (show e.platform.stackTraces = l.stackTraces by rw [X.admits.platform]).trans hl
  have Y := vx_rebase X (R' := { frames := R.frames, locals := R.locals, cells := 1, slots := 6 }) (Nat.le_refl _) (Nat.le_refl _) hRcells hRslots
  obtain ⟨s', hA⟩ : ∃ z, z = (T.setVm s.vm).setFrames (.invoking m args :: below) := ⟨_, rfl⟩
  rw [← hA] at Y
  have hvm : s'.vm = s.vm := by rw [hA]; rfl
  have hhp : s'.heap = H := by rw [hA]; exact hT
  have hW0 : s.WarmedH s'.vm := by rw [hvm]; exact State.WarmedH.refl s
  have hat' : ∀ w ∈ vx_at0 own ic cls names, w.before args s' = true := fun w hw => vx_ot_at hW0 hvm.symm (hgood w (List.mem_cons_of_mem _ (List.mem_cons_of_mem _ hw))) (hat w hw)
  have hk' : (Cond.classLink own ik cls).before args s' = true := vx_ot_at hW0 hvm.symm (hgood _ List.mem_cons_self) hk
  have hini' : (Cond.initialized cls).before args s' = true := vx_ot_at hW0 hvm.symm (hgood _ (List.mem_cons_of_mem _ List.mem_cons_self)) hini
  have hU' : vx_Zq Bundle.tN "UNASSIGNED_STACK" Bundle.steD A s' s'.heap := by rw [hhp]; exact vx_Zq.moved hW0.alike (hU.kept hS.2.1)
  have hN' : vx_Zq Bundle.tN "SUPPRESSED_SENTINEL" Bundle.listD A s' s'.heap := by rw [hhp]; exact vx_Zq.moved hW0.alike (hN.kept hS.2.1)
  have h : ∀ w ∈ Bundle.ownAtoms0 own ic cls names, w.before args s' = true := vx_own hat' (vx_isRefq hU'.1) (vx_isRefq hN'.1) hU'.2.word hN'.2.word
  have hown' : s'.vm.findClass own = some m.cls := by rw [hvm]; exact hown
  have hins : (Cond.instantiable cls 6).before args s' = true := h _ (by simp [Bundle.ownAtoms0])
  obtain ⟨vm₁, cX, kX, hfX, hkX, -, -, X₁, st1⟩ := Y.newCold hexec (own := own) (C := cls) (index := ik) (n := 6) hown' hk' hins hini'
    (g := F0 m pc ls rest) rfl (by rw [hb]; exact d0) (Nat.le_refl _) (Nat.le_refl _)
  generalize hT1 : (T.setVm vm₁).pushCell { cls := cX, slots := kX.instanceTypes.map defaultValue, vm := .none } = T1 at X₁ st1
  have hcat : (Value.ref T.heap.size).category = 1 := rfl
  have hcellA : T1.heap[T.heap.size]? = some (freshCell cX kX) := by rw [← hT1]; exact State.heap_pushCell_size _ _
  have d3' : decode c.code (pc + 3) = .ok (.dup, 1) := by rw [hb]; exact d3
  obtain ⟨U, hsteps, hrun, hend, hW, hsame, ce, hce, hO⟩ := X₁.ctorThrow0 hexec htr (own := own) (cls := cls) (names := names) (ic := ic) hown' hcls hnames h (fun x hx => nomatch hx) hfX hkX hcellA (by rw [hhp, hT]; exact Nat.le_refl _)
    (g := { method := m, pc := pc + 4, locals := ls, stack := .ref T.heap.size :: .ref T.heap.size :: rest, locked := none }) rfl hsize rfl rfl (rest := rest) rfl
    (by rw [hb]; exact d4) (by rw [hb]; exact d7) hout hRframes (by simp only [List.map_cons, List.sum_cons, hcat]; omega) hlocks
  obtain ⟨f1, f2⟩ := vx_frame hsame
  rw [hhp] at f1 f2
  have hWs : s.WarmedH U.vm := State.WarmedH.trans hW0 hW
  have hcl : s.vm.findClass cls = some ce.cls := by
    have h9 := hO.cls
    rw [hvm] at h9
    exact h9
  have hall : s.sameButNew ({ U with vm := s.vm } : State) locs mc ms := by
    subst hA
    obtain ⟨e1, e2⟩ := hsame
    rw [State.setFrames_setFrames] at e1
    have h2 : (T.setVm s.vm).sameButNew ({ U with vm := s.vm } : State) [] (0 + 1) (0 + 6) := ⟨e1, e2⟩
    have h3 := X.same.trans h2
    rw [List.append_nil] at h3
    exact h3.mono hc hs
  refine ⟨U, ?_, .threw T.heap.size, hrun, hend, Or.inr ⟨T.heap.size, rfl, cls, ce, locs, hx U hWs.alike f1 (fun q hq => f2 q hq (fun z hz => nomatch hz)), hce, hO.vm, hcl, hWs, hall, hf⟩⟩
  refine st1 _ ?_
  show Steps p.tables e below (T1.setTop { method := m, pc := pc + 3, locals := ls, stack := .ref T.heap.size :: rest, locked := none }) _
  jvm_step X₁.here [X₁.here.top, hexec, d3', Value.category]
  exact hsteps
/-- 'throw new E("text")': new; dup; ldc; invokespecial; athrow -/
theorem vx_throwS {cc : ByteArray} {pc : Nat} (hexec : p.tables.exec = Jvm.exec) (hb : c.code = cc) (hl : l.stackTraces = false) {own cls text : String} {names : List String} {ik is ic mc ms sa : Nat} {A : Nat → Prop}
    (hown : s.vm.findClass own = some m.cls) (hcls : Bundle.fit cls = true) (hnames : ∀ n ∈ names, Bundle.fit n = true)
    (hk : (Cond.classLink own ik cls).before args s = true) (hini : (Cond.initialized cls).before args s = true) (hstr : vk_R own is text sa s) (hat : ∀ w ∈ vx_atS own ic cls names, w.before args s = true)
    (hgood : ∀ w ∈ Cond.classLink own ik cls :: Cond.initialized cls :: vx_atS own ic cls names, vx_ot w = true)
    (hU : vx_Zq Bundle.tN "UNASSIGNED_STACK" Bundle.steD A s s.heap) (hN : vx_Zq Bundle.tN "SUPPRESSED_SENTINEL" Bundle.listD A s s.heap) (hS : va_S A s.heap H locs) (hsize : ls.size = c.maxLocals)
    (d0 : decode cc pc = .ok (.new ik, 3)) (d3 : decode cc (pc + 3) = .ok (.dup, 1)) (d4 : decode cc (pc + 4) = .ok (.ldc is, 2)) (d6 : decode cc (pc + 6) = .ok (.invokespecial ic, 3)) (d9 : decode cc (pc + 9) = .ok (.athrow, 1))
    (hout : ∀ x ∈ c.exceptionTable.toList, covers x (pc + 9) = false)
    (hRframes : names.length + 3 < R.frames) (hRlocals : (rest.map fun v => v.category).sum + (13 * (names.length + 1) + 43) ≤ R.locals) (hRcells : cells + 1 ≤ R.cells) (hRslots : slots + 6 ≤ R.slots) (hlocks : meth.locks = false)
    (hx : ∀ t : State, s.vm.Alike t.vm → H.size ≤ t.heap.size → (∀ q : Nat, q < H.size → t.heap[q]? = H[q]?) → XC cls s t)
    (hf : ∀ z ∈ locs, free z.base) (hc : cells + 1 ≤ mc) (hs : slots + 6 ≤ ms) :
    W p l e R s m args below meth c H locs cells slots (vx_MQ below Qc XC args s mc ms free) (F0 m pc ls rest) := by
  intro T hT X
  have htr : e.platform.stackTraces = false := (show e.platform.stackTraces = l.stackTraces by rw [X.admits.platform]).trans hl
  have Y := vx_rebase X (R' := { frames := R.frames, locals := R.locals, cells := 1, slots := 6 }) (Nat.le_refl _) (Nat.le_refl _) hRcells hRslots
  obtain ⟨s', hA⟩ : ∃ z, z = (T.setVm s.vm).setFrames (.invoking m args :: below) := ⟨_, rfl⟩
  rw [← hA] at Y
  have hvm : s'.vm = s.vm := by rw [hA]; rfl
  have hhp : s'.heap = H := by rw [hA]; exact hT
  have hW0 : s.WarmedH s'.vm := by rw [hvm]; exact State.WarmedH.refl s
  have hat' : ∀ w ∈ vx_atS own ic cls names, w.before args s' = true := fun w hw => vx_ot_at hW0 hvm.symm (hgood w (List.mem_cons_of_mem _ (List.mem_cons_of_mem _ hw))) (hat w hw)
  have hk' : (Cond.classLink own ik cls).before args s' = true := vx_ot_at hW0 hvm.symm (hgood _ List.mem_cons_self) hk
  have hini' : (Cond.initialized cls).before args s' = true := vx_ot_at hW0 hvm.symm (hgood _ (List.mem_cons_of_mem _ List.mem_cons_self)) hini
  have hU' : vx_Zq Bundle.tN "UNASSIGNED_STACK" Bundle.steD A s' s'.heap := by rw [hhp]; exact vx_Zq.moved hW0.alike (hU.kept hS.2.1)
  have hN' : vx_Zq Bundle.tN "SUPPRESSED_SENTINEL" Bundle.listD A s' s'.heap := by rw [hhp]; exact vx_Zq.moved hW0.alike (hN.kept hS.2.1)
  have h : ∀ w ∈ Bundle.ownAtoms own ic cls names, w.before args s' = true := vx_own hat' (vx_isRefq hU'.1) (vx_isRefq hN'.1) hU'.2.word hN'.2.word
  have hown' : s'.vm.findClass own = some m.cls := by rw [hvm]; exact hown
  have hins : (Cond.instantiable cls 6).before args s' = true := h _ (by simp [Bundle.ownAtoms])
  obtain ⟨vm₁, cX, kX, hfX, hkX, -, -, X₁, st1⟩ := Y.newCold hexec (own := own) (C := cls) (index := ik) (n := 6) hown' hk' hins hini'
    (g := F0 m pc ls rest) rfl (by rw [hb]; exact d0) (Nat.le_refl _) (Nat.le_refl _)
  generalize hT1 : (T.setVm vm₁).pushCell { cls := cX, slots := kX.instanceTypes.map defaultValue, vm := .none } = T1 at X₁ st1
  have hcat : (Value.ref T.heap.size).category = 1 := rfl
  have hcellA : T1.heap[T.heap.size]? = some (freshCell cX kX) := by rw [← hT1]; exact State.heap_pushCell_size _ _
  have d3' : decode c.code (pc + 3) = .ok (.dup, 1) := by rw [hb]; exact d3
  have d4' : decode c.code (pc + 4) = .ok (.ldc is, 2) := by rw [hb]; exact d4
  have hstr' : vk_R own is text sa s' := vk_R.warm hW0 hstr
  obtain ⟨U, hsteps, hrun, hend, hW, hsame, ce, hce, hO⟩ := X₁.ctorThrowS hexec htr (own := own) (cls := cls) (names := names) (ic := ic) hown' hcls hnames h (fun x hx => nomatch hx) hfX hkX hcellA (by rw [hhp, hT]; exact Nat.le_refl _) (msg := .ref sa) rfl
    (g := { method := m, pc := pc + 6, locals := ls, stack := .ref sa :: .ref T.heap.size :: .ref T.heap.size :: rest, locked := none }) rfl hsize rfl rfl (rest := rest) rfl
    (by rw [hb]; exact d6) (by rw [hb]; exact d9) hout hRframes (by simp only [List.map_cons, List.sum_cons, hcat]; omega) hlocks
  obtain ⟨f1, f2⟩ := vx_frame hsame
  rw [hhp] at f1 f2
  have hWs : s.WarmedH U.vm := State.WarmedH.trans hW0 hW
  have hcl : s.vm.findClass cls = some ce.cls := by
    have h9 := hO.cls
    rw [hvm] at h9
    exact h9
  have hall : s.sameButNew ({ U with vm := s.vm } : State) locs mc ms := by
    subst hA
    obtain ⟨e1, e2⟩ := hsame
    rw [State.setFrames_setFrames] at e1
    have h2 : (T.setVm s.vm).sameButNew ({ U with vm := s.vm } : State) [] (0 + 1) (0 + 6) := ⟨e1, e2⟩
    have h3 := X.same.trans h2
    rw [List.append_nil] at h3
    exact h3.mono hc hs
  refine ⟨U, ?_, .threw T.heap.size, hrun, hend, Or.inr ⟨T.heap.size, rfl, cls, ce, locs, hx U hWs.alike f1 (fun q hq => f2 q hq (fun z hz => nomatch hz)), hce, hO.vm, hcl, hWs, hall, hf⟩⟩
  refine st1 _ ?_
  show Steps p.tables e below (T1.setTop { method := m, pc := pc + 3, locals := ls, stack := .ref T.heap.size :: rest, locked := none }) _
  jvm_step X₁.here [X₁.here.top, hexec, d3', Value.category]
  exact X₁.ldcString hexec (own := own) (text := text) (index := is) (a := sa) hown' hstr'.1 hstr'.2
    (g := { method := m, pc := pc + 4, locals := ls, stack := .ref T.heap.size :: .ref T.heap.size :: rest, locked := none }) rfl d4' _ hsteps
/-- 'throw new E("text")', the text by a wide index -/
theorem vx_throwSW {cc : ByteArray} {pc : Nat} (hexec : p.tables.exec = Jvm.exec) (hb : c.code = cc) (hl : l.stackTraces = false) {own cls text : String} {names : List String} {ik is ic mc ms sa : Nat} {A : Nat → Prop}
    (hown : s.vm.findClass own = some m.cls) (hcls : Bundle.fit cls = true) (hnames : ∀ n ∈ names, Bundle.fit n = true)
    (hk : (Cond.classLink own ik cls).before args s = true) (hini : (Cond.initialized cls).before args s = true) (hstr : vk_R own is text sa s) (hat : ∀ w ∈ vx_atS own ic cls names, w.before args s = true)
    (hgood : ∀ w ∈ Cond.classLink own ik cls :: Cond.initialized cls :: vx_atS own ic cls names, vx_ot w = true)
    (hU : vx_Zq Bundle.tN "UNASSIGNED_STACK" Bundle.steD A s s.heap) (hN : vx_Zq Bundle.tN "SUPPRESSED_SENTINEL" Bundle.listD A s s.heap) (hS : va_S A s.heap H locs) (hsize : ls.size = c.maxLocals)
    (d0 : decode cc pc = .ok (.new ik, 3)) (d3 : decode cc (pc + 3) = .ok (.dup, 1)) (d4 : decode cc (pc + 4) = .ok (.ldc_w is, 3)) (d7 : decode cc (pc + 7) = .ok (.invokespecial ic, 3)) (d10 : decode cc (pc + 10) = .ok (.athrow, 1))
    (hout : ∀ x ∈ c.exceptionTable.toList, covers x (pc + 10) = false)
    (hRframes : names.length + 3 < R.frames) (hRlocals : (rest.map fun v => v.category).sum + (13 * (names.length + 1) + 43) ≤ R.locals) (hRcells : cells + 1 ≤ R.cells) (hRslots : slots + 6 ≤ R.slots) (hlocks : meth.locks = false)
    (hx : ∀ t : State, s.vm.Alike t.vm → H.size ≤ t.heap.size → (∀ q : Nat, q < H.size → t.heap[q]? = H[q]?) → XC cls s t)
    (hf : ∀ z ∈ locs, free z.base) (hc : cells + 1 ≤ mc) (hs : slots + 6 ≤ ms) :
    W p l e R s m args below meth c H locs cells slots (vx_MQ below Qc XC args s mc ms free) (F0 m pc ls rest) := by
  intro T hT X
  have htr : e.platform.stackTraces = false := (show e.platform.stackTraces = l.stackTraces by rw [X.admits.platform]).trans hl
  have Y := vx_rebase X (R' := { frames := R.frames, locals := R.locals, cells := 1, slots := 6 }) (Nat.le_refl _) (Nat.le_refl _) hRcells hRslots
  obtain ⟨s', hA⟩ : ∃ z, z = (T.setVm s.vm).setFrames (.invoking m args :: below) := ⟨_, rfl⟩
  rw [← hA] at Y
  have hvm : s'.vm = s.vm := by rw [hA]; rfl
  have hhp : s'.heap = H := by rw [hA]; exact hT
  have hW0 : s.WarmedH s'.vm := by rw [hvm]; exact State.WarmedH.refl s
  have hat' : ∀ w ∈ vx_atS own ic cls names, w.before args s' = true := fun w hw => vx_ot_at hW0 hvm.symm (hgood w (List.mem_cons_of_mem _ (List.mem_cons_of_mem _ hw))) (hat w hw)
  have hk' : (Cond.classLink own ik cls).before args s' = true := vx_ot_at hW0 hvm.symm (hgood _ List.mem_cons_self) hk
  have hini' : (Cond.initialized cls).before args s' = true := vx_ot_at hW0 hvm.symm (hgood _ (List.mem_cons_of_mem _ List.mem_cons_self)) hini
  have hU' : vx_Zq Bundle.tN "UNASSIGNED_STACK" Bundle.steD A s' s'.heap := by rw [hhp]; exact vx_Zq.moved hW0.alike (hU.kept hS.2.1)
  have hN' : vx_Zq Bundle.tN "SUPPRESSED_SENTINEL" Bundle.listD A s' s'.heap := by rw [hhp]; exact vx_Zq.moved hW0.alike (hN.kept hS.2.1)
  have h : ∀ w ∈ Bundle.ownAtoms own ic cls names, w.before args s' = true := vx_own hat' (vx_isRefq hU'.1) (vx_isRefq hN'.1) hU'.2.word hN'.2.word
  have hown' : s'.vm.findClass own = some m.cls := by rw [hvm]; exact hown
  have hins : (Cond.instantiable cls 6).before args s' = true := h _ (by simp [Bundle.ownAtoms])
  obtain ⟨vm₁, cX, kX, hfX, hkX, -, -, X₁, st1⟩ := Y.newCold hexec (own := own) (C := cls) (index := ik) (n := 6) hown' hk' hins hini'
    (g := F0 m pc ls rest) rfl (by rw [hb]; exact d0) (Nat.le_refl _) (Nat.le_refl _)
  generalize hT1 : (T.setVm vm₁).pushCell { cls := cX, slots := kX.instanceTypes.map defaultValue, vm := .none } = T1 at X₁ st1
  have hcat : (Value.ref T.heap.size).category = 1 := rfl
  have hcellA : T1.heap[T.heap.size]? = some (freshCell cX kX) := by rw [← hT1]; exact State.heap_pushCell_size _ _
  have d3' : decode c.code (pc + 3) = .ok (.dup, 1) := by rw [hb]; exact d3
  have d4' : decode c.code (pc + 4) = .ok (.ldc_w is, 3) := by rw [hb]; exact d4
  have hstr' : vk_R own is text sa s' := vk_R.warm hW0 hstr
  obtain ⟨U, hsteps, hrun, hend, hW, hsame, ce, hce, hO⟩ := X₁.ctorThrowS hexec htr (own := own) (cls := cls) (names := names) (ic := ic) hown' hcls hnames h (fun x hx => nomatch hx) hfX hkX hcellA (by rw [hhp, hT]; exact Nat.le_refl _) (msg := .ref sa) rfl
    (g := { method := m, pc := pc + 7, locals := ls, stack := .ref sa :: .ref T.heap.size :: .ref T.heap.size :: rest, locked := none }) rfl hsize rfl rfl (rest := rest) rfl
    (by rw [hb]; exact d7) (by rw [hb]; exact d10) hout hRframes (by simp only [List.map_cons, List.sum_cons, hcat]; omega) hlocks
  obtain ⟨f1, f2⟩ := vx_frame hsame
  rw [hhp] at f1 f2
  have hWs : s.WarmedH U.vm := State.WarmedH.trans hW0 hW
  have hcl : s.vm.findClass cls = some ce.cls := by
    have h9 := hO.cls
    rw [hvm] at h9
    exact h9
  have hall : s.sameButNew ({ U with vm := s.vm } : State) locs mc ms := by
    subst hA
    obtain ⟨e1, e2⟩ := hsame
    rw [State.setFrames_setFrames] at e1
    have h2 : (T.setVm s.vm).sameButNew ({ U with vm := s.vm } : State) [] (0 + 1) (0 + 6) := ⟨e1, e2⟩
    have h3 := X.same.trans h2
    rw [List.append_nil] at h3
    exact h3.mono hc hs
  refine ⟨U, ?_, .threw T.heap.size, hrun, hend, Or.inr ⟨T.heap.size, rfl, cls, ce, locs, hx U hWs.alike f1 (fun q hq => f2 q hq (fun z hz => nomatch hz)), hce, hO.vm, hcl, hWs, hall, hf⟩⟩
  refine st1 _ ?_
  show Steps p.tables e below (T1.setTop { method := m, pc := pc + 3, locals := ls, stack := .ref T.heap.size :: rest, locked := none }) _
  jvm_step X₁.here [X₁.here.top, hexec, d3', Value.category]
  exact X₁.ldcStringW hexec (own := own) (text := text) (index := is) (a := sa) hown' hstr'.1 hstr'.2
    (g := { method := m, pc := pc + 4, locals := ls, stack := .ref T.heap.size :: .ref T.heap.size :: rest, locked := none }) rfl d4' _ hsteps
end Ends
section Bodies
variable {l : Launch}
theorem vx_ofW {y : MethodName} {ws ws' : List Cond} {rm : Room} {Pc : Array Value → State → Prop} {Qc : Array Value → State → Outcome → State → Prop} {XC : String → State → State → Prop} {mc ms : Nat} {free : Addr → Prop} {cc : ByteArray} {maxL : Nat} {ret : Option FieldType}
    (hy : plainName y.cls = true) (hw : ws = Cond.code y cc maxL ret :: ws')
    (body : ∀ p e s m args below meth c s₁, BodyLoose p l y (headSpec ws rm) cc maxL ret e s m args below meth c s₁ → c.maxLocals = maxL → (∀ x ∈ c.exceptionTable.toList, False) → Pc args s →
      W p l e (headSpec ws rm).room s m args below meth c s.heap [] 0 0 (vx_MQ below Qc XC args s mc ms free) (entryFrame m args maxL)) : vx_Met l y ws rm Pc Qc XC mc ms free := by
  refine MetFree.of_bodyS (code := cc) (maxLocals := maxL) (ret := ret) hy ?_ ?_
  · intro args s m h hn
    obtain ⟨meth, c, h1, h2, h3, h4, h5, h6, -, -⟩ := Cond.code_spec hn (atoms_spec (ws := ws) h _ (by rw [hw]; exact List.mem_cons_self))
    exact ⟨meth, c, h1, h2, h3, h4, h5, h6⟩
  · intro p e s m args below meth c s₁ B hml hP _
    have hh0 : s₁.heap = s.heap := by rw [B.state]; rfl
    have ht : ∀ x ∈ c.exceptionTable.toList, False := by
      obtain ⟨meth9, c9, h1, h2, -, -, -, -, h7, -⟩ := Cond.code_spec B.named (atoms_spec (ws := ws) B.pre _ (by rw [hw]; exact List.mem_cons_self))
      cases Option.some.inj (h1.symm.trans B.method)
      cases Option.some.inj (h2.symm.trans (Stand.of_body B).code)
      intro x hx
      rw [Array.isEmpty_iff.mp h7] at hx
      cases hx
    obtain ⟨t, a1, o, b1, b2, b3⟩ := body p e s m args below meth c s₁ B hml ht hP s₁ hh0 (Stand.of_body B)
    exact ⟨t, o, a1, b1, b2, b3⟩
/-- the table of a body with handlers -/
theorem vx_table {p : Program} {x y : MethodName} {S : Spec} {cc bytes : ByteArray} {maxL maxL' : Nat} {ret ret' : Option FieldType} {e : Env} {s s₁ : State} {m : MethodId} {args : Array Value} {below : List Frame} {meth : Method} {c : Code} {hh : List (Nat × Nat × Nat × Nat)}
    (B : BodyLoose p l y S cc maxL ret e s m args below meth c s₁) (h : (Cond.codeWith y bytes maxL' ret' hh).before args s = true) : c.exceptionTable.toList = tableOf hh := by
  obtain ⟨m9, meth9, c9, hn9, h1, h2, -, -, h6, -⟩ := Cond.codeWith_spec h
  cases Option.some.inj (hn9.symm.trans B.named)
  cases Option.some.inj (h1.symm.trans B.method)
  cases Option.some.inj (h2.symm.trans (Stand.of_body B).code)
  rw [← h6, table_eq]
end Bodies
end VXA
/-! ===== END ===== -/
/-! ===== BEGIN a static call of a method with an exception table ===== -/
section VXS
variable {p : Program} {l : Launch} {e : Env} {R : Room} {s : State} {m : MethodId} {args : Array Value} {below : List Frame} {meth : Method} {c : Code} {T : State} {H : Heap} {locs : List Loc} {cells slots : Nat}
abbrev vx_CSW (R : Room) (s : State) (args : Array Value) (own : String) (index : Nat) (y : MethodName) (bytes : ByteArray) (maxL : Nat) (ret : Option FieldType) (hh : List (Nat × Nat × Nat × Nat)) (ws : List Cond) (rm : Room) (mc ms n : Nat) : Prop :=
  (rm.cells = mc ∧ rm.slots = ms ∧ rm.frames + 1 ≤ R.frames ∧ 8 + (maxL + 11) + rm.locals ≤ R.locals ∧ (∀ w ∈ ws, ∀ (a' : Array Value) (U : State), s.WarmedH U.vm → w.before a' U = true) ∧ Cond.codeWith y bytes maxL ret hh ∈ ws) ∧
  (Cond.codeWith y bytes maxL ret hh).before args s = true ∧ (Cond.initialized y.cls).before args s = true ∧ (y.cls ≠ "java/lang/invoke/MethodHandle" ∧ y.cls ≠ "java/lang/invoke/VarHandle") ∧
  (∀ sig, parseMethodDescriptor y.desc = some sig → n = sig.parameters.length) ∧ (Cond.methodLink own index y).before args s = true ∧ (Cond.static y).before args s = true
theorem vx_cwSW {own : String} {index maxL mc ms : Nat} {y : MethodName} {bytes : ByteArray} {ret : Option FieldType} {hh : List (Nat × Nat × Nat × Nat)} {Ts ws ws' : List Cond} {rm : Room} (n : Nat) (ht : ∀ w ∈ Ts, w.before args s = true) (hT : GoodIn Ts (va_wsS own index y ws)) (hw : ws = Cond.codeWith y bytes maxL ret hh :: ws') (hrc : rm.cells = mc) (hrs : rm.slots = ms)
    (hd : y.cls ≠ "java/lang/invoke/MethodHandle" ∧ y.cls ≠ "java/lang/invoke/VarHandle" ∧ (parseMethodDescriptor y.desc).map (fun d => d.parameters.length) = some n) (hR : rm.frames + 1 ≤ R.frames ∧ 8 + (maxL + 11) + rm.locals ≤ R.locals) :
    vx_CSW R s args own index y bytes maxL ret hh ws rm mc ms n := by
  have ok : ∀ w ∈ va_wsS own index y ws, w.before args s = true := fun w h => ht w (hT w h).1
  have hG : GoodIn Ts ws := fun w h => hT w (by unfold va_wsS; exact List.mem_append_right _ h)
  have hc : Cond.codeWith y bytes maxL ret hh ∈ ws := by rw [hw]; exact List.mem_cons_self
  refine ⟨⟨hrc, hrs, hR.1, hR.2, pay_in ht hG, hc⟩, ht _ (hG _ hc).1, ok _ (by simp [va_wsS]), ⟨hd.1, hd.2.1⟩, fun sig h => ?_, ok _ (by simp [va_wsS]), ok _ (by simp [va_wsS])⟩
  have h2 := hd.2.2
  rw [h] at h2
  exact (Option.some.inj h2).symm
theorem vx_callSW (X : Stand p l e R s m args below meth c T locs cells slots) (hexec : p.tables.exec = Jvm.exec) {own : String} {index : Nat} {y : MethodName} {bytes : ByteArray} {maxL : Nat} {ret : Option FieldType} {hh : List (Nat × Nat × Nat × Nat)}
    (hown : s.vm.findClass own = some m.cls) (hlink : (Cond.methodLink own index y).before args s = true) (hstat : (Cond.static y).before args s = true) (hinit : (Cond.initialized y.cls).before args s = true)
    (hcode : (Cond.codeWith y bytes maxL ret hh).before args s = true) (hy : y.cls ≠ "java/lang/invoke/MethodHandle" ∧ y.cls ≠ "java/lang/invoke/VarHandle")
    {W9 : Nat} {Pre : Pt → Array Value → Prop} {Post : Pt → Array Value → Option Value → Pt → Prop} (hK : Back l R p e below s args y 3 W9 Pre Post)
    {g : JFrame} (hg : g.method = m) (hsize : g.locals.size = c.maxLocals) {argsL rest : List Value} (hlen : ∀ sig, parseMethodDescriptor y.desc = some sig → argsL.length = sig.parameters.length)
    (hstack : g.stack = argsL.reverse ++ rest) (hW : 2 * g.monitorRoom + (rest.map fun v => v.category).sum ≤ W9) (hdg : decode c.code g.pc = .ok (.invokestatic index, 3))
    (hpre : ∀ vm₁, s.WarmedH vm₁ → Pre ⟨T.setVm vm₁, locs, cells, slots⟩ argsL.toArray) :
    ∃ (v : Option Value) (vm₁ : Vm) (B : Pt), s.WarmedH vm₁ ∧ Stand p l e R s m args below meth c B.U B.locs B.cells B.slots ∧ Post ⟨T.setVm vm₁, locs, cells, slots⟩ argsL.toArray v B ∧
      ∀ target, Steps p.tables e below (B.U.setTop { g with pc := g.pc + 3, stack := v.toList ++ rest }) target → Steps p.tables e below (T.setTop g) target := by
  obtain ⟨mk, methM, cM, hnamed, hmethM, -, -, -, -, -, -, hsigM⟩ := Cond.codeWith_spec hcode
  have hstatic : methM.isStatic = true := Cond.static_spec hnamed hmethM hstat
  obtain ⟨kP, hkP, -⟩ := className_of_methodNamed hnamed
  have hinitP : kP.init = .initialized := Cond.initialized_spec (findClass_of_methodNamed hnamed) hkP hinit
  obtain ⟨vm₁, X₁, hstep₁⟩ := X.invokestatic hexec hown hlink hnamed hmethM hstatic hkP hinitP hy (g := g) hg (argsL := argsL) (rest := rest) (hlen _ hsigM) hstack hdg
  obtain ⟨v, B, X', hpost, hsteps⟩ := hK m meth c ⟨T.setVm vm₁, locs, cells, slots⟩ { g with stack := rest } (.invokestatic index) mk argsL.toArray X₁ hg hsize hdg hW (X₁.named hnamed) (hpre vm₁ X₁.warmed)
  exact ⟨v, vm₁, B, X₁.warmed, X', hpost, fun target h => hstep₁ _ fun acts => by rw [doInvoke_state]; exact hsteps.trans h⟩
theorem vx_runSW {y : MethodName} {bytes cc : ByteArray} {maxL nL mc ms n index : Nat} {ret : Option FieldType} {hh : List (Nat × Nat × Nat × Nat)} {ws : List Cond} {rm : Room} {Pc : Array Value → State → Prop} {Qc : Array Value → State → Outcome → State → Prop} {free : Addr → Prop} {Ts : List Cond} {own : String} {As rest : List Value} {g : JFrame}
    (S : CallFix p m c cc nL s args Ts own) (hM : Met l y ws rm Pc Qc mc ms free) (cw : vx_CSW R s args own index y bytes maxL ret hh ws rm mc ms n) (hp : PreS s H Pc As)
    (hg : g.method = m) (hn : As.length = n) (hsize : g.locals.size = nL) (hstack : g.stack = As.reverse ++ rest) (hW : 2 * g.monitorRoom + (rest.map fun v => v.category).sum ≤ 8) (hdg : decode cc g.pc = .ok (.invokestatic index, 3)) (hf : cells + mc ≤ R.cells ∧ slots + ms ≤ R.slots) :
    va_Run p l e R s m args below meth c H locs cells slots mc ms g rest (Qc As.toArray) (free) := by
  obtain ⟨⟨hrc, hrs, hfr, hlo, hws, hcw⟩, hcode, hini, hy, hlen, hl, hstt⟩ := cw
  have hK : Back l R p e below s args y 3 8 (PreOf R mc ms Pc) (PostOf Qc mc ms free) := va_backW (hh := hh) (bytes := bytes) (maxL := maxL) (ret := ret) hM hp.1 hrc hrs hfr hlo hws hcw (fun a' U hW => word_at hW (Or.inl (by first | rfl | simp [Cond.onTables, Cond.keeps, Cond.steady])) hini)
  obtain ⟨hx, hb, hml, ho, -⟩ := S
  intro T hT X
  obtain ⟨v, vm₁, ⟨U', l2, c2, s2⟩, hW₁, X', ⟨g', mk, t, L, e1, e2, hq, h1, hL, h2, h3⟩, st⟩ := vx_callSW X hx (hh := hh) (bytes := bytes) (maxL := maxL) (ret := ret) ho hl hstt hini hcode hy hK hg (hsize.trans hml.symm) (argsL := As) (rest := rest) (fun sig h => hn.trans (hlen sig h)) hstack hW (by rw [hb]; exact hdg)
    (fun vm₁ hW₁ => ⟨hf.1, hf.2, hp.2 (T.setVm vm₁) hT hW₁⟩)
  dsimp only [Pt.U, Pt.locs, Pt.cells, Pt.slots] at X' e1 e2 h1 h2 h3 st
  subst h1; subst h2; subst h3
  exact ⟨v, (T.setVm vm₁).calling g' mk As.toArray, t, U', L, hT, X', hL, e1, e2, hq, st⟩
/-- not caught here, past rows that name other classes: it goes on to the caller -/
theorem vx_outP {p : Program} {l : Launch} {e : Env} {R : Room} {s : State} {m : MethodId} {args : Array Value} {below : List Frame} {meth : Method} {c : Code} {H : Heap} {locs : List Loc} {cells slots : Nat} {free : Addr → Prop} {ls : Array Slot} {rest : List Value} {Qc : Array Value → State → Outcome → State → Prop} {XC : String → State → State → Prop}
    {pc : Nat} {own E : String} {ce : Cell} {q : Addr} {mc ms : Nat} (hown : s.vm.findClass own = some m.cls) (hlocks : meth.locks = false)
    (hpass : ∀ z ∈ c.exceptionTable.toList, covers z pc = false ∨ (z.catchType ≠ 0 ∧ ∃ nm : String, (Cond.classLink own z.catchType nm).before args s = true ∧ va_Nc E nm s)) (hcell : H[q]? = some ce) (hv : ce.vm = .none) (hcl : s.vm.findClass E = some ce.cls)
    (hx : ∀ t : State, t.heap = H → s.vm.Alike t.vm → XC E s t) (hf : ∀ z ∈ locs, free z.base) (hc : cells ≤ mc) (hs : slots ≤ ms) :
    vx_W p l e R s m args below meth c H locs cells slots (vx_MQ below Qc XC args s mc ms free) (F0 m pc ls rest) q := by
  intro T hT X
  have hpl : e.platform.magicAccessors = ({} : Platform).magicAccessors := by rw [X.admits.platform]
  obtain ⟨vm', hW', X', st⟩ := X.outThrough hlocks q (g := F0 m pc ls rest) rfl rfl rfl (cell := ce) (by rw [hT]; exact hcell) (by rw [hv]; rfl)
    (by obtain ⟨k9, h9, -⟩ := Vm.findClass_spec hcl; exact ⟨k9, h9⟩) (fun z hz => by
      rcases hpass z hz with h | ⟨hz0, nm, hl1, hn1⟩
      · exact Or.inl h
      · obtain ⟨c6, hc6, hcl6⟩ := Cond.classLink_spec hown hl1 e.platform hpl
        obtain ⟨a8, b8, h1, h2, h3⟩ := hn1
        cases Option.some.inj (h1.symm.trans hcl)
        cases Option.some.inj (h2.symm.trans hc6)
        exact Or.inr ⟨hz0, _, hcl6, h3⟩)
  obtain ⟨g₀, hfr⟩ := X'.frames_eq
  have hcell9 : ((T.setVm vm').setFrames (.throwing q :: below)).heap[q]? = some ce := by
    show T.heap[q]? = some ce
    rw [hT]; exact hcell
  have hend : Ended ((T.setVm vm').setFrames (.throwing q :: below)) below (.threw q) := State.frames_setFrames _ (State.cur_lt_of_frames hfr)
  refine ⟨(T.setVm vm').setFrames (.throwing q :: below), ?_, .threw q, X'.here.running, hend, Or.inr ⟨q, rfl, E, ce, locs, hx _ hT (X'.ends _).1.alike, hcell9, hv, hcl, (X'.ends _).1, (X'.ends _).2.mono hc hs, hf⟩⟩
  rw [X.pushThrowing_eq]
  exact st
/-- a thing of a world lies in the heap -/
theorem vx_lt {D : va_G} {cl : List vw_C} {ws : va_W} {H1 : Heap} (h : va_P D cl ws H1) {k : Nat} {q : Nat × va_E} (hk : ws[k]? = some q) : q.1 < H1.size := (h k q hk).lt
end VXS
/-! ===== END ===== -/
/-! ===== BEGIN methods with a table of their own: called by a name, returning or throwing ===== -/
section VXH
/-! vx_backW, vx_callVX, vx_callSX, vx_callVW, vx_runVW, vx_runVX, vx_runSX, vx_ofWH follow the same proofs as their sisters above (Free/Laws.lean, Shelf42/LK1.lean); vx_outP calls Shelf42/NT130.lean (outThrough). -/
section
variable {l : Launch} {R : Room} {p : Program} {e : Env} {below : List Frame} {s : State} {sargs : Array Value} {y : MethodName} {len W9 : Nat}
theorem vx_backW {ws : List Cond} {rm : Room} {Pc : Array Value → State → Prop} {Qc : Array Value → State → Outcome → State → Prop} {XC : String → State → State → Prop} {mc ms : Nat} {free : Addr → Prop} {bytes : ByteArray} {maxL : Nat} {ret : Option FieldType} {hh : List (Nat × Nat × Nat × Nat)}
    (hM : vx_Met l y ws rm Pc Qc XC mc ms free) (hblind : FrameBlind Pc) (hrc : rm.cells = mc) (hrs : rm.slots = ms)
    (hframes : rm.frames + 1 ≤ R.frames) (hlocals : W9 + (maxL + 11) + rm.locals ≤ R.locals)
    (hws : ∀ w ∈ ws, ∀ a' U, s.WarmedH U.vm → w.before a' U = true) (hcode : Cond.codeWith y bytes maxL ret hh ∈ ws) (hinit : ∀ a' U, s.WarmedH U.vm → (Cond.initialized y.cls).before a' U = true) :
    vx_Back l R p e below s sargs y len W9 (PreOf R mc ms Pc) (PostOf Qc mc ms free) (vx_Post XC mc ms free) := by
  intro m meth c A g ig mk a X hg hsize hdg hW hn hp
  have h1 : (headSpec ws rm).pre.before a A.U = true := atoms_intro fun w hw => hws w hw _ _ X.warmed
  have h2 : (Cond.codeWith y bytes maxL ret hh).before a A.U = true := hws _ hcode _ _ X.warmed
  have h3 : (Cond.initialized y.cls).before a A.U = true := hinit _ _ X.warmed
  have h4 : A.cells + (headSpec ws rm).room.cells ≤ R.cells := by rw [show (headSpec ws rm).room.cells = mc from hrc]; exact hp.1
  have h5 : A.slots + (headSpec ws rm).room.slots ≤ R.slots := by rw [show (headSpec ws rm).room.slots = ms from hrs]; exact hp.2.1
  have hPc : Pc a (A.U.calling g mk a) := hblind _ _ _ _ hp.2.2
  obtain ⟨U, Ls, c0, s0⟩ := A
  dsimp only [Pt.U, Pt.locs, Pt.cells, Pt.slots] at h1 h2 h3 h4 h5 X hn hPc ⊢
  obtain ⟨m9, methY, cY, hn9, hmY, hcY, -, hlY, -⟩ := Cond.codeWith_spec h2
  cases Option.some.inj (hn9.symm.trans hn)
  obtain ⟨kY, hkY, -⟩ := className_of_methodNamed hn
  have hinitY : kY.init = .initialized := Cond.initialized_spec (findClass_of_methodNamed hn) hkY h3
  have h : At U g.method c below := by rw [hg]; exact X.here
  have hlocals9 : W9 + (maxL + 11) + (headSpec ws rm).room.locals ≤ R.locals := hlocals
  have happ : (headSpec ws rm).appliesLoose y e.platform (U.calling g mk a) = true :=
    Spec.appliesLoose_calling (g := g) h hdg hn hkY hinitY
      (X.room_calling (g := g) (R' := (headSpec ws rm).room) hsize hmY hcY hframes (by rw [hlY]; omega) h4 h5) h1
  obtain ⟨mid, hmid⟩ := h.above
  have hfr : (U.setTop g).frames = (.java g :: mid) ++ below := by rw [State.frames_setTop' g h.top, hmid]; rfl
  obtain ⟨o, s₂, hsteps, -, hend, hq⟩ := Steps.callFree hM p X.admits X.cas X.clock (acts := []) hfr happ hPc trivial
  have hq' : vx_Q Qc XC mc ms free a (U.calling g mk a) o s₂ := hq
  rw [State.frames_setTop' g h.top] at hend
  obtain ⟨g₀, hg0⟩ := Option.isSome_iff_exists.mp h.top
  obtain ⟨r, hr⟩ := State.topJava?_eq_some.mp hg0
  have hr' : (({ U with heap := s₂.heap, slotsUsed := s₂.slotsUsed } : State).setVm s₂.vm).frames = .java g₀ :: r := hr
  rcases hq' with ⟨hqc, L, hfe, hL⟩ | ⟨q, rfl, E, ce, L, hx, hce, hcv, hcl, hW₂, hsm, hL⟩
  · obtain ⟨⟨v, rfl⟩, hW₂, e2, q2, q3, q4, q5, q6⟩ := id hfe
    have e3 : s₂ = ({ (U.calling g mk a).setFrames s₂.frames with heap := s₂.heap, slotsUsed := s₂.slotsUsed } : State).setVm s₂.vm := by
      have : s₂ = ({ s₂ with vm := (U.calling g mk a).vm } : State).setVm s₂.vm := rfl
      rw [e2] at this
      exact this
    obtain ⟨c₂, i₂, len₂, hc₂, hd₂, hf₂⟩ := hend
    have hW' : U.WarmedH s₂.vm := hW₂
    have hcc : c₂ = c := by
      have h1 : s₂.code? g.method = U.code? g.method := by
        rw [State.code?_eq, State.code?_eq, hW'.alike.method?]
      exact Option.some.inj (hc₂.symm.trans (h1.trans h.code))
    subst hcc
    have hlen : len₂ = len := by rw [hdg] at hd₂; cases hd₂; rfl
    subst hlen
    have hs₂ : s₂ = (({ U with heap := s₂.heap, slotsUsed := s₂.slotsUsed } : State).setVm s₂.vm).setTop { g with pc := g.pc + len₂, stack := v.toList ++ g.stack } := by
      refine e3.trans ?_
      rw [hf₂, State.calling_eq h.top, State.setFrames_setFrames, State.setTop_of_frames _ hr', hr]
      rfl
    have hsame : U.sameButNew ({ U with heap := s₂.heap, slotsUsed := s₂.slotsUsed } : State) L mc ms := by
      refine ⟨?_, q2, q3, q4, q5, q6⟩
      obtain ⟨t, ht, -⟩ := State.frames_cons hr
      show ({ U with heap := s₂.heap, slotsUsed := s₂.slotsUsed } : State) = { U.setFrames U.frames with heap := s₂.heap, slotsUsed := s₂.slotsUsed }
      rw [State.setFrames_self ht]
    subst hg
    refine Or.inl ⟨v, ⟨(({ U with heap := s₂.heap, slotsUsed := s₂.slotsUsed } : State).setVm s₂.vm), Ls ++ L, c0 + mc, s0 + ms⟩,
      ⟨X.admits, X.cas, X.clock, X.frames, X.room, X.hears, X.method, X.code, (X.here.setHeapUsed s₂.heap s₂.slotsUsed).setVm hW'.alike, X.tail, State.WarmedH.trans X.warmed hW', X.limits, X.bytes, X.same.trans (hsame.setVm s.vm)⟩,
      ⟨g, mk, s₂, L, rfl, rfl, hqc, rfl, hL, rfl, rfl⟩, ?_⟩
    show Steps p.tables e below _ ((({ U with heap := s₂.heap, slotsUsed := s₂.slotsUsed } : State).setVm s₂.vm).setTop { g with pc := g.pc + len₂, stack := v.toList ++ g.stack })
    rw [← hs₂]
    exact hsteps
  · obtain ⟨e2, q2, q3, q4, q5, q6⟩ := id hsm
    have e3 : s₂ = ({ (U.calling g mk a).setFrames s₂.frames with heap := s₂.heap, slotsUsed := s₂.slotsUsed } : State).setVm s₂.vm := by
      have : s₂ = ({ s₂ with vm := (U.calling g mk a).vm } : State).setVm s₂.vm := rfl
      rw [e2] at this
      exact this
    have hf₂ : s₂.frames = .throwing q :: .java g :: U.frames.tail := hend
    have hW' : U.WarmedH s₂.vm := hW₂
    have hs₂ : s₂ = ((({ U with heap := s₂.heap, slotsUsed := s₂.slotsUsed } : State).setVm s₂.vm).setTop g).pushFrame (.throwing q) := by
      refine e3.trans ?_
      rw [hf₂, State.calling_eq h.top, State.setFrames_setFrames, State.pushFrame, State.frames_setTop _ hr', State.setTop_of_frames _ hr', State.setFrames_setFrames, hr]
      rfl
    have hsame : U.sameButNew ({ U with heap := s₂.heap, slotsUsed := s₂.slotsUsed } : State) L mc ms := by
      refine ⟨?_, q2, q3, q4, q5, q6⟩
      obtain ⟨t, ht, -⟩ := State.frames_cons hr
      show ({ U with heap := s₂.heap, slotsUsed := s₂.slotsUsed } : State) = { U.setFrames U.frames with heap := s₂.heap, slotsUsed := s₂.slotsUsed }
      rw [State.setFrames_self ht]
    subst hg
    refine Or.inr ⟨q, ⟨(({ U with heap := s₂.heap, slotsUsed := s₂.slotsUsed } : State).setVm s₂.vm), Ls ++ L, c0 + mc, s0 + ms⟩,
      ⟨X.admits, X.cas, X.clock, X.frames, X.room, X.hears, X.method, X.code, (X.here.setHeapUsed s₂.heap s₂.slotsUsed).setVm hW'.alike, X.tail, State.WarmedH.trans X.warmed hW', X.limits, X.bytes, X.same.trans (hsame.setVm s.vm)⟩,
      ⟨g, mk, s₂, L, E, ce, rfl, rfl, hx, hce, hcv, hcl, rfl, hL, rfl, rfl⟩, ?_⟩
    show Steps p.tables e below _ (((({ U with heap := s₂.heap, slotsUsed := s₂.slotsUsed } : State).setVm s₂.vm).setTop g).pushFrame (.throwing q))
    rw [← hs₂]
    exact hsteps
end
variable {p : Program} {l : Launch} {e : Env} {R : Room} {s : State} {m : MethodId} {args : Array Value} {below : List Frame} {meth : Method} {c : Code} {T : State} {H : Heap} {locs : List Loc} {cells slots : Nat}
theorem vx_callVX (X : Stand p l e R s m args below meth c T locs cells slots) (hexec : p.tables.exec = Jvm.exec) {own C : String} {index : Nat} {y : MethodName} {bytes : ByteArray} {maxL : Nat} {ret : Option FieldType} {hh : List (Nat × Nat × Nat × Nat)}
    (hown : s.vm.findClass own = some m.cls) (hlink : (Cond.methodLink own index y).before args s = true) (hinst : (Cond.instanceMethod y).before args s = true) (hsel : (Cond.selects C y y).before args s = true)
    (hcode : (Cond.codeWith y bytes maxL ret hh).before args s = true) (hy : y.cls ≠ "java/lang/invoke/MethodHandle" ∧ y.cls ≠ "java/lang/invoke/VarHandle")
    {W9 : Nat} {Pre : Pt → Array Value → Prop} {Post : Pt → Array Value → Option Value → Pt → Prop} {PostX : Pt → Array Value → Addr → Pt → Prop} (hK : vx_Back l R p e below s args y 3 W9 Pre Post PostX)
    {b : Addr} {cellB : Cell} (hcell : T.heap[b]? = some cellB) (hobj : cellB.vm.isStatics = false) (hcls : s.vm.findClass C = some cellB.cls)
    {g : JFrame} (hg : g.method = m) (hsize : g.locals.size = c.maxLocals) {argsL rest : List Value} (hlen : ∀ sig, parseMethodDescriptor y.desc = some sig → argsL.length = sig.parameters.length)
    (hstack : g.stack = argsL.reverse ++ .ref b :: rest) (hW : 2 * g.monitorRoom + (rest.map fun v => v.category).sum ≤ W9) (hdg : decode c.code g.pc = .ok (.invokevirtual index, 3))
    (hpre : ∀ vm₁, s.WarmedH vm₁ → Pre ⟨T.setVm vm₁, locs, cells, slots⟩ (Value.ref b :: argsL).toArray) :
    (∃ (v : Option Value) (vm₁ : Vm) (B : Pt), s.WarmedH vm₁ ∧ Stand p l e R s m args below meth c B.U B.locs B.cells B.slots ∧ Post ⟨T.setVm vm₁, locs, cells, slots⟩ (Value.ref b :: argsL).toArray v B ∧
      ∀ target, Steps p.tables e below (B.U.setTop { g with pc := g.pc + 3, stack := v.toList ++ rest }) target → Steps p.tables e below (T.setTop g) target) ∨
    (∃ (q : Addr) (vm₁ : Vm) (B : Pt), s.WarmedH vm₁ ∧ Stand p l e R s m args below meth c B.U B.locs B.cells B.slots ∧ PostX ⟨T.setVm vm₁, locs, cells, slots⟩ (Value.ref b :: argsL).toArray q B ∧
      Steps p.tables e below (T.setTop g) ((B.U.setTop { g with stack := rest }).pushFrame (.throwing q))) := by
  obtain ⟨mk, methM, hnamed, hmethM, hstM, habM⟩ := Cond.instanceMethod_spec hinst
  obtain ⟨m8, methM', cM, hn8, hmethM', -, -, -, -, -, -, hsigM⟩ := Cond.codeWith_spec hcode
  cases Option.some.inj (hn8.symm.trans hnamed)
  cases hmethM.symm.trans hmethM'
  obtain ⟨c2, r2, m2, q1, q2, q3, q4, kP, hkP, hkPi⟩ := Cond.selects_spec hsel
  cases hcls.symm.trans q1
  cases (State.methodFound?_of_named hnamed hy).symm.trans q2
  cases hnamed.symm.trans q3
  have hselP : selectMethod e.platform s.vm cellB.cls mk = .method mk := by rw [Launch.admits_selectMethod X.admits]; exact q4
  obtain ⟨vm₁, X₁, hstep₁⟩ := X.invokevirtual hexec hown hlink hnamed hmethM hstM hkP hkPi hy (a := b) (cell := cellB) hcell
    (fun z h => by rw [h] at hobj; cases hobj) hselP hmethM habM hkP hkPi (g := g) hg (argsL := argsL) (rest := rest) (hlen _ hsigM) hstack hdg
  rcases hK m meth c ⟨T.setVm vm₁, locs, cells, slots⟩ { g with stack := rest } (.invokevirtual index) mk (Value.ref b :: argsL).toArray X₁ hg hsize hdg hW (X₁.named hnamed) (hpre vm₁ X₁.warmed) with ⟨v, B, X', hpost, hsteps⟩ | ⟨q, B, X', hpost, hsteps⟩
  · exact Or.inl ⟨v, vm₁, B, X₁.warmed, X', hpost, fun target h => hstep₁ _ fun acts => by rw [doInvoke_state]; exact hsteps.trans h⟩
  · exact Or.inr ⟨q, vm₁, B, X₁.warmed, X', hpost, hstep₁ _ fun acts => by rw [doInvoke_state]; exact hsteps⟩
theorem vx_callSX (X : Stand p l e R s m args below meth c T locs cells slots) (hexec : p.tables.exec = Jvm.exec) {own : String} {index : Nat} {y : MethodName} {bytes : ByteArray} {maxL : Nat} {ret : Option FieldType} {hh : List (Nat × Nat × Nat × Nat)}
    (hown : s.vm.findClass own = some m.cls) (hlink : (Cond.methodLink own index y).before args s = true) (hstat : (Cond.static y).before args s = true) (hinit : (Cond.initialized y.cls).before args s = true)
    (hcode : (Cond.codeWith y bytes maxL ret hh).before args s = true) (hy : y.cls ≠ "java/lang/invoke/MethodHandle" ∧ y.cls ≠ "java/lang/invoke/VarHandle")
    {W9 : Nat} {Pre : Pt → Array Value → Prop} {Post : Pt → Array Value → Option Value → Pt → Prop} {PostX : Pt → Array Value → Addr → Pt → Prop} (hK : vx_Back l R p e below s args y 3 W9 Pre Post PostX)
    {g : JFrame} (hg : g.method = m) (hsize : g.locals.size = c.maxLocals) {argsL rest : List Value} (hlen : ∀ sig, parseMethodDescriptor y.desc = some sig → argsL.length = sig.parameters.length)
    (hstack : g.stack = argsL.reverse ++ rest) (hW : 2 * g.monitorRoom + (rest.map fun v => v.category).sum ≤ W9) (hdg : decode c.code g.pc = .ok (.invokestatic index, 3))
    (hpre : ∀ vm₁, s.WarmedH vm₁ → Pre ⟨T.setVm vm₁, locs, cells, slots⟩ argsL.toArray) :
    (∃ (v : Option Value) (vm₁ : Vm) (B : Pt), s.WarmedH vm₁ ∧ Stand p l e R s m args below meth c B.U B.locs B.cells B.slots ∧ Post ⟨T.setVm vm₁, locs, cells, slots⟩ argsL.toArray v B ∧
      ∀ target, Steps p.tables e below (B.U.setTop { g with pc := g.pc + 3, stack := v.toList ++ rest }) target → Steps p.tables e below (T.setTop g) target) ∨
    (∃ (q : Addr) (vm₁ : Vm) (B : Pt), s.WarmedH vm₁ ∧ Stand p l e R s m args below meth c B.U B.locs B.cells B.slots ∧ PostX ⟨T.setVm vm₁, locs, cells, slots⟩ argsL.toArray q B ∧
      Steps p.tables e below (T.setTop g) ((B.U.setTop { g with stack := rest }).pushFrame (.throwing q))) := by
  obtain ⟨mk, methM, cM, hnamed, hmethM, -, -, -, -, -, -, hsigM⟩ := Cond.codeWith_spec hcode
  have hstatic : methM.isStatic = true := Cond.static_spec hnamed hmethM hstat
  obtain ⟨kP, hkP, -⟩ := className_of_methodNamed hnamed
  have hinitP : kP.init = .initialized := Cond.initialized_spec (findClass_of_methodNamed hnamed) hkP hinit
  obtain ⟨vm₁, X₁, hstep₁⟩ := X.invokestatic hexec hown hlink hnamed hmethM hstatic hkP hinitP hy (g := g) hg (argsL := argsL) (rest := rest) (hlen _ hsigM) hstack hdg
  rcases hK m meth c ⟨T.setVm vm₁, locs, cells, slots⟩ { g with stack := rest } (.invokestatic index) mk argsL.toArray X₁ hg hsize hdg hW (X₁.named hnamed) (hpre vm₁ X₁.warmed) with ⟨v, B, X', hpost, hsteps⟩ | ⟨q, B, X', hpost, hsteps⟩
  · exact Or.inl ⟨v, vm₁, B, X₁.warmed, X', hpost, fun target h => hstep₁ _ fun acts => by rw [doInvoke_state]; exact hsteps.trans h⟩
  · exact Or.inr ⟨q, vm₁, B, X₁.warmed, X', hpost, hstep₁ _ fun acts => by rw [doInvoke_state]; exact hsteps⟩
theorem vx_callVW (X : Stand p l e R s m args below meth c T locs cells slots) (hexec : p.tables.exec = Jvm.exec) {own C : String} {index : Nat} {y : MethodName} {bytes : ByteArray} {maxL : Nat} {ret : Option FieldType} {hh : List (Nat × Nat × Nat × Nat)}
    (hown : s.vm.findClass own = some m.cls) (hlink : (Cond.methodLink own index y).before args s = true) (hinst : (Cond.instanceMethod y).before args s = true) (hsel : (Cond.selects C y y).before args s = true)
    (hcode : (Cond.codeWith y bytes maxL ret hh).before args s = true) (hy : y.cls ≠ "java/lang/invoke/MethodHandle" ∧ y.cls ≠ "java/lang/invoke/VarHandle")
    {W9 : Nat} {Pre : Pt → Array Value → Prop} {Post : Pt → Array Value → Option Value → Pt → Prop} (hK : Back l R p e below s args y 3 W9 Pre Post)
    {b : Addr} {cellB : Cell} (hcell : T.heap[b]? = some cellB) (hobj : cellB.vm.isStatics = false) (hcls : s.vm.findClass C = some cellB.cls)
    {g : JFrame} (hg : g.method = m) (hsize : g.locals.size = c.maxLocals) {argsL rest : List Value} (hlen : ∀ sig, parseMethodDescriptor y.desc = some sig → argsL.length = sig.parameters.length)
    (hstack : g.stack = argsL.reverse ++ .ref b :: rest) (hW : 2 * g.monitorRoom + (rest.map fun v => v.category).sum ≤ W9) (hdg : decode c.code g.pc = .ok (.invokevirtual index, 3))
    (hpre : ∀ vm₁, s.WarmedH vm₁ → Pre ⟨T.setVm vm₁, locs, cells, slots⟩ (Value.ref b :: argsL).toArray) :
    ∃ (v : Option Value) (vm₁ : Vm) (B : Pt), s.WarmedH vm₁ ∧ Stand p l e R s m args below meth c B.U B.locs B.cells B.slots ∧ Post ⟨T.setVm vm₁, locs, cells, slots⟩ (Value.ref b :: argsL).toArray v B ∧
      ∀ target, Steps p.tables e below (B.U.setTop { g with pc := g.pc + 3, stack := v.toList ++ rest }) target → Steps p.tables e below (T.setTop g) target := by
  obtain ⟨mk, methM, hnamed, hmethM, hstM, habM⟩ := Cond.instanceMethod_spec hinst
  obtain ⟨m8, methM', cM, hn8, hmethM', -, -, -, -, -, -, hsigM⟩ := Cond.codeWith_spec hcode
  cases Option.some.inj (hn8.symm.trans hnamed)
  cases hmethM.symm.trans hmethM'
  obtain ⟨c2, r2, m2, q1, q2, q3, q4, kP, hkP, hkPi⟩ := Cond.selects_spec hsel
  cases hcls.symm.trans q1
  cases (State.methodFound?_of_named hnamed hy).symm.trans q2
  cases hnamed.symm.trans q3
  have hselP : selectMethod e.platform s.vm cellB.cls mk = .method mk := by rw [Launch.admits_selectMethod X.admits]; exact q4
  obtain ⟨vm₁, X₁, hstep₁⟩ := X.invokevirtual hexec hown hlink hnamed hmethM hstM hkP hkPi hy (a := b) (cell := cellB) hcell
    (fun z h => by rw [h] at hobj; cases hobj) hselP hmethM habM hkP hkPi (g := g) hg (argsL := argsL) (rest := rest) (hlen _ hsigM) hstack hdg
  obtain ⟨v, B, X', hpost, hsteps⟩ := hK m meth c ⟨T.setVm vm₁, locs, cells, slots⟩ { g with stack := rest } (.invokevirtual index) mk (Value.ref b :: argsL).toArray X₁ hg hsize hdg hW (X₁.named hnamed) (hpre vm₁ X₁.warmed)
  exact ⟨v, vm₁, B, X₁.warmed, X', hpost, fun target h => hstep₁ _ fun acts => by rw [doInvoke_state]; exact hsteps.trans h⟩
abbrev vx_CVW (R : Room) (s : State) (args : Array Value) (own C : String) (index : Nat) (y : MethodName) (bytes : ByteArray) (maxL : Nat) (ret : Option FieldType) (hh : List (Nat × Nat × Nat × Nat)) (ws : List Cond) (rm : Room) (mc ms n : Nat) : Prop :=
  (rm.cells = mc ∧ rm.slots = ms ∧ rm.frames + 1 ≤ R.frames ∧ 8 + (maxL + 11) + rm.locals ≤ R.locals ∧ (∀ w ∈ ws, ∀ (a' : Array Value) (U : State), s.WarmedH U.vm → w.before a' U = true) ∧ Cond.codeWith y bytes maxL ret hh ∈ ws) ∧
  (Cond.codeWith y bytes maxL ret hh).before args s = true ∧ (Cond.initialized y.cls).before args s = true ∧ (y.cls ≠ "java/lang/invoke/MethodHandle" ∧ y.cls ≠ "java/lang/invoke/VarHandle") ∧
  (∀ sig, parseMethodDescriptor y.desc = some sig → n = sig.parameters.length) ∧ (Cond.methodLink own index y).before args s = true ∧ (Cond.instanceMethod y).before args s = true ∧ (Cond.selects C y y).before args s = true
theorem vx_cwVW {own C : String} {index maxL mc ms : Nat} {y : MethodName} {bytes : ByteArray} {ret : Option FieldType} {hh : List (Nat × Nat × Nat × Nat)} {Ts ws ws' : List Cond} {rm : Room} (n : Nat) (ht : ∀ w ∈ Ts, w.before args s = true) (hT : GoodIn Ts (wsV own index C y ws)) (hw : ws = Cond.codeWith y bytes maxL ret hh :: ws') (hrc : rm.cells = mc) (hrs : rm.slots = ms)
    (hd : y.cls = C ∧ y.cls ≠ "java/lang/invoke/MethodHandle" ∧ y.cls ≠ "java/lang/invoke/VarHandle" ∧ (parseMethodDescriptor y.desc).map (fun d => d.parameters.length) = some n) (hR : rm.frames + 1 ≤ R.frames ∧ 8 + (maxL + 11) + rm.locals ≤ R.locals) :
    vx_CVW R s args own C index y bytes maxL ret hh ws rm mc ms n := by
  obtain ⟨hC, hd⟩ := hd
  subst hC
  have ok : ∀ w ∈ wsV own index y.cls y ws, w.before args s = true := fun w h => ht w (hT w h).1
  have hG : GoodIn Ts ws := fun w h => hT w (by unfold wsV; exact List.mem_append_right _ h)
  have hc : Cond.codeWith y bytes maxL ret hh ∈ ws := by rw [hw]; exact List.mem_cons_self
  refine ⟨⟨hrc, hrs, hR.1, hR.2, pay_in ht hG, hc⟩, ht _ (hG _ hc).1, ok _ (by simp [wsV]), ⟨hd.1, hd.2.1⟩, fun sig h => ?_, ok _ (by simp [wsV]), ok _ (by simp [wsV]), ok _ (by simp [wsV])⟩
  have h2 := hd.2.2
  rw [h] at h2
  exact (Option.some.inj h2).symm
theorem vx_runVW {y : MethodName} {bytes cc : ByteArray} {maxL nL mc ms n index : Nat} {ret : Option FieldType} {hh : List (Nat × Nat × Nat × Nat)} {ws : List Cond} {rm : Room} {Pc : Array Value → State → Prop} {Qc : Array Value → State → Outcome → State → Prop} {free : Addr → Prop} {Ts : List Cond} {own C : String} {b : Addr} {As rest : List Value} {g : JFrame}
    (S : CallFix p m c cc nL s args Ts own) (hM : Met l y ws rm Pc Qc mc ms free) (cw : vx_CVW R s args own C index y bytes maxL ret hh ws rm mc ms n) (hp : PreV s H C b Pc As)
    (hg : g.method = m) (hn : As.length = n) (hsize : g.locals.size = nL) (hstack : g.stack = As.reverse ++ .ref b :: rest) (hW : 2 * g.monitorRoom + (rest.map fun v => v.category).sum ≤ 8) (hdg : decode cc g.pc = .ok (.invokevirtual index, 3)) (hf : cells + mc ≤ R.cells ∧ slots + ms ≤ R.slots) :
    va_Run p l e R s m args below meth c H locs cells slots mc ms g rest (Qc (Value.ref b :: As).toArray) free := by
  obtain ⟨⟨hrc, hrs, hfr, hlo, hws, hcw⟩, hcode, hini, hy, hlen, hl, hin, hse⟩ := cw
  have hK : Back l R p e below s args y 3 8 (PreOf R mc ms Pc) (PostOf Qc mc ms free) := va_backW (hh := hh) (bytes := bytes) (maxL := maxL) (ret := ret) hM hp.1 hrc hrs hfr hlo hws hcw (fun a' U hW => word_at hW (Or.inl (by first | rfl | simp [Cond.onTables, Cond.keeps, Cond.steady])) hini)
  obtain ⟨hx, hb, hml, ho, -⟩ := S
  obtain ⟨-, ⟨cellB, hcB, hoB, hclB⟩, hPc⟩ := hp
  intro T hT X
  obtain ⟨v, vm₁, ⟨U', l2, c2, s2⟩, hW₁, X', ⟨g', mk, t, L, e1, e2, hq, h1, hL, h2, h3⟩, st⟩ := vx_callVW X hx (C := C) (hh := hh) (bytes := bytes) (maxL := maxL) (ret := ret) ho hl hin hse hcode hy hK (by rw [hT]; exact hcB) hoB hclB hg (hsize.trans hml.symm) (argsL := As) (rest := rest) (fun sig h => hn.trans (hlen sig h)) hstack hW (by rw [hb]; exact hdg)
    (fun vm₁ hW₁ => ⟨hf.1, hf.2, hPc (T.setVm vm₁) hT hW₁⟩)
  dsimp only [Pt.U, Pt.locs, Pt.cells, Pt.slots] at X' e1 e2 h1 h2 h3 st
  subst h1; subst h2; subst h3
  exact ⟨v, (T.setVm vm₁).calling g' mk (Value.ref b :: As).toArray, t, U', L, hT, X', hL, e1, e2, hq, st⟩
section
variable {y : MethodName} {bytes cc : ByteArray} {maxL nL mc ms n index : Nat} {ret : Option FieldType} {ws : List Cond} {rm : Room} {Pc : Array Value → State → Prop} {Qc : Array Value → State → Outcome → State → Prop} {XC : String → State → State → Prop} {free : Addr → Prop} {Ts : List Cond} {own C : String} {b : Addr} {As rest : List Value} {g : JFrame}
theorem vx_runVX {hh : List (Nat × Nat × Nat × Nat)} (S : CallFix p m c cc nL s args Ts own) (hM : vx_Met l y ws rm Pc Qc XC mc ms free) (cw : vx_CVW R s args own C index y bytes maxL ret hh ws rm mc ms n) (hp : PreV s H C b Pc As)
    (hg : g.method = m) (hn : As.length = n) (hsize : g.locals.size = nL) (hstack : g.stack = As.reverse ++ .ref b :: rest) (hW : 2 * g.monitorRoom + (rest.map fun v => v.category).sum ≤ 8) (hdg : decode cc g.pc = .ok (.invokevirtual index, 3)) (hf : cells + mc ≤ R.cells ∧ slots + ms ≤ R.slots) :
    vx_Run p l e R s m args below meth c H locs cells slots mc ms g rest (Qc (Value.ref b :: As).toArray) XC free := by
  obtain ⟨⟨hrc, hrs, hfr, hlo, hws, hcw⟩, hcode, hini, hy, hlen, hl, hin, hse⟩ := cw
  have hK : vx_Back l R p e below s args y 3 8 (PreOf R mc ms Pc) (PostOf Qc mc ms free) (vx_Post XC mc ms free) := vx_backW (hh := hh) (bytes := bytes) (maxL := maxL) (ret := ret) hM hp.1 hrc hrs hfr hlo hws hcw (fun a' U hW => word_at hW (Or.inl (by first | rfl | simp [Cond.onTables, Cond.keeps, Cond.steady])) hini)
  obtain ⟨hx, hb, hml, ho, -⟩ := S
  obtain ⟨-, ⟨cellB, hcB, hoB, hclB⟩, hPc⟩ := hp
  intro T hT X
  rcases vx_callVX X hx (C := C) (hh := hh) (bytes := bytes) (maxL := maxL) (ret := ret) ho hl hin hse hcode hy hK (by rw [hT]; exact hcB) hoB hclB hg (hsize.trans hml.symm) (argsL := As) (rest := rest) (fun sig h => hn.trans (hlen sig h)) hstack hW (by rw [hb]; exact hdg)
    (fun vm₁ hW₁ => ⟨hf.1, hf.2, hPc (T.setVm vm₁) hT hW₁⟩) with ⟨v, vm₁, ⟨U', l2, c2, s2⟩, hW₁, X', ⟨g', mk, t, L, e1, e2, hq, h1, hL, h2, h3⟩, st⟩ | ⟨q, vm₁, ⟨U', l2, c2, s2⟩, hW₁, X', ⟨g', mk, t, L, E, ce, e1, e2, hq, hce, hcv, hcl, h1, hL, h2, h3⟩, st⟩
  · dsimp only [Pt.U, Pt.locs, Pt.cells, Pt.slots] at X' e1 e2 h1 h2 h3 st
    subst h1; subst h2; subst h3
    exact Or.inl ⟨v, (T.setVm vm₁).calling g' mk (Value.ref b :: As).toArray, t, U', L, hT, X', hL, e1, e2, hq, st⟩
  · dsimp only [Pt.U, Pt.locs, Pt.cells, Pt.slots] at X' e1 e2 h1 h2 h3 st hcl
    subst h1; subst h2; subst h3
    exact Or.inr ⟨q, (T.setVm vm₁).calling g' mk (Value.ref b :: As).toArray, t, U', L, E, ce, hT, X', hL, e1, e2, hq, hce, hcv, vx_cls hW₁ hcl, st⟩
theorem vx_runSX {hh : List (Nat × Nat × Nat × Nat)} (S : CallFix p m c cc nL s args Ts own) (hM : vx_Met l y ws rm Pc Qc XC mc ms free) (cw : vx_CSW R s args own index y bytes maxL ret hh ws rm mc ms n) (hp : PreS s H Pc As)
    (hg : g.method = m) (hn : As.length = n) (hsize : g.locals.size = nL) (hstack : g.stack = As.reverse ++ rest) (hW : 2 * g.monitorRoom + (rest.map fun v => v.category).sum ≤ 8) (hdg : decode cc g.pc = .ok (.invokestatic index, 3)) (hf : cells + mc ≤ R.cells ∧ slots + ms ≤ R.slots) :
    vx_Run p l e R s m args below meth c H locs cells slots mc ms g rest (Qc As.toArray) XC free := by
  obtain ⟨⟨hrc, hrs, hfr, hlo, hws, hcw⟩, hcode, hini, hy, hlen, hl, hstt⟩ := cw
  have hK : vx_Back l R p e below s args y 3 8 (PreOf R mc ms Pc) (PostOf Qc mc ms free) (vx_Post XC mc ms free) := vx_backW (hh := hh) (bytes := bytes) (maxL := maxL) (ret := ret) hM hp.1 hrc hrs hfr hlo hws hcw (fun a' U hW => word_at hW (Or.inl (by first | rfl | simp [Cond.onTables, Cond.keeps, Cond.steady])) hini)
  obtain ⟨hx, hb, hml, ho, -⟩ := S
  intro T hT X
  rcases vx_callSX X hx (hh := hh) (bytes := bytes) (maxL := maxL) (ret := ret) ho hl hstt hini hcode hy hK hg (hsize.trans hml.symm) (argsL := As) (rest := rest) (fun sig h => hn.trans (hlen sig h)) hstack hW (by rw [hb]; exact hdg)
    (fun vm₁ hW₁ => ⟨hf.1, hf.2, hp.2 (T.setVm vm₁) hT hW₁⟩) with ⟨v, vm₁, ⟨U', l2, c2, s2⟩, hW₁, X', ⟨g', mk, t, L, e1, e2, hq, h1, hL, h2, h3⟩, st⟩ | ⟨q, vm₁, ⟨U', l2, c2, s2⟩, hW₁, X', ⟨g', mk, t, L, E, ce, e1, e2, hq, hce, hcv, hcl, h1, hL, h2, h3⟩, st⟩
  · dsimp only [Pt.U, Pt.locs, Pt.cells, Pt.slots] at X' e1 e2 h1 h2 h3 st
    subst h1; subst h2; subst h3
    exact Or.inl ⟨v, (T.setVm vm₁).calling g' mk As.toArray, t, U', L, hT, X', hL, e1, e2, hq, st⟩
  · dsimp only [Pt.U, Pt.locs, Pt.cells, Pt.slots] at X' e1 e2 h1 h2 h3 st hcl
    subst h1; subst h2; subst h3
    exact Or.inr ⟨q, (T.setVm vm₁).calling g' mk As.toArray, t, U', L, E, ce, hT, X', hL, e1, e2, hq, hce, hcv, vx_cls hW₁ hcl, st⟩
end
end VXH
theorem vx_ofWH {l : Launch} {y : MethodName} {ws ws' : List Cond} {rm : Room} {Pc : Array Value → State → Prop} {Qc : Array Value → State → Outcome → State → Prop} {XC : String → State → State → Prop} {mc ms : Nat} {free : Addr → Prop} {cc : ByteArray} {maxL : Nat} {ret : Option FieldType} {hh : List (Nat × Nat × Nat × Nat)}
    (hy : plainName y.cls = true) (hw : ws = Cond.codeWith y cc maxL ret hh :: ws')
    (body : ∀ p e s m args below meth c s₁, BodyLoose p l y (headSpec ws rm) cc maxL ret e s m args below meth c s₁ → c.maxLocals = maxL → Pc args s →
      W p l e (headSpec ws rm).room s m args below meth c s.heap [] 0 0 (vx_MQ below Qc XC args s mc ms free) (entryFrame m args maxL)) : vx_Met l y ws rm Pc Qc XC mc ms free := by
  refine MetFree.of_bodyS (code := cc) (maxLocals := maxL) (ret := ret) hy ?_ ?_
  · intro args s m h hn
    obtain ⟨m9, meth, c, hn9, h1, h2, h3, h4, -, h5, h6, -⟩ := Cond.codeWith_spec (atoms_spec (ws := ws) h _ (by rw [hw]; exact List.mem_cons_self))
    cases hn.symm.trans hn9
    exact ⟨meth, c, h1, h2, h3, h4, h5, h6⟩
  · intro p e s m args below meth c s₁ B hml hP _
    have hh0 : s₁.heap = s.heap := by rw [B.state]; rfl
    obtain ⟨t, a1, o, b1, b2, b3⟩ := body p e s m args below meth c s₁ B hml hP s₁ hh0 (Stand.of_body B)
    exact ⟨t, o, a1, b1, b2, b3⟩
/-! ===== END ===== -/
end
section
/-! ===== BEGIN printed: names, fields, word lists, decode rows ===== -/
def RX0 : String := "PolyDrums$Section"
def TX0 : u_T := fun k => match k with
  | 0 => ("PolyDrums$Section", "begin", "I", true)
  | 1 => ("PolyDrums$Section", "length", "I", true)
  | 2 => ("PolyDrums$Section", "set", "I", true)
  | _ => ("PolyDrums$Section", "isNew", "Z", true)
def tyX0 : Nat → FieldType := fun k => match k with
  | 0 => .int
  | 1 => .int
  | 2 => .int
  | _ => .boolean
abbrev wsX00 : List Cond := u_ws RX0 TX0 4
theorem nmX0 : ∀ a, a < 4 → ∀ b, b < 4 → a ≠ b → (TX0 a).2.1 ≠ (TX0 b).2.1 := by decide +kernel
theorem tyX0_ok : ∀ k, k < 4 → parseFieldDescriptor (TX0 k).2.2.1 = some (tyX0 k) := by decide +kernel
abbrev cX0_init : ByteArray := prog_2_method_1_code
def yX0_init : MethodName := ⟨RX0, "<init>", "(IIIZ)V"⟩
def RX1 : String := "PolyDrums$Track"
def TX1 : u_T := fun k => match k with
  | 0 => ("PolyDrums$Track", "stepTicks", "I", true)
  | 1 => ("PolyDrums$Track", "steps", "I", false)
  | 2 => ("PolyDrums$Track", "swing", "I", false)
  | 3 => ("PolyDrums$Track", "ring", "I", false)
  | 4 => ("PolyDrums$Track", "group", "I", false)
  | 5 => ("PolyDrums$Track", "isMuted", "Z", false)
  | 6 => ("PolyDrums$Track", "isSolo", "Z", false)
  | 7 => ("PolyDrums$Track", "isAccent", "Z", false)
  | 8 => ("PolyDrums$Track", "cells", "[I", true)
  | _ => ("PolyDrums$Track", "spare", "[I", true)
def tyX1 : Nat → FieldType := fun k => match k with
  | 0 => .int
  | 1 => .int
  | 2 => .int
  | 3 => .int
  | 4 => .int
  | 5 => .boolean
  | 6 => .boolean
  | 7 => .boolean
  | 8 => .array .int
  | _ => .array .int
abbrev wsX10 : List Cond := u_ws RX1 TX1 10
theorem nmX1 : ∀ a, a < 10 → ∀ b, b < 10 → a ≠ b → (TX1 a).2.1 ≠ (TX1 b).2.1 := by decide +kernel
theorem tyX1_ok : ∀ k, k < 10 → parseFieldDescriptor (TX1 k).2.2.1 = some (tyX1 k) := by decide +kernel
abbrev cX1_init : ByteArray := prog_3_method_1_code
def yX1_init : MethodName := ⟨RX1, "<init>", "(II)V"⟩
abbrev cX1_cell : ByteArray := prog_3_method_2_code
def yX1_cell : MethodName := ⟨RX1, "cell", "(II)I"⟩
abbrev cX1_putCell : ByteArray := prog_3_method_3_code
def yX1_putCell : MethodName := ⟨RX1, "putCell", "(III)V"⟩
abbrev cX1_clearStep : ByteArray := prog_3_method_4_code
def yX1_clearStep : MethodName := ⟨RX1, "clearStep", "(II)V"⟩
abbrev cX1_delay : ByteArray := prog_3_method_5_code
def yX1_delay : MethodName := ⟨RX1, "delay", "(I)I"⟩
abbrev cX1_roundTicks : ByteArray := prog_3_method_6_code
def yX1_roundTicks : MethodName := ⟨RX1, "roundTicks", "()I"⟩
abbrev cX1_setting : ByteArray := prog_3_method_7_code
def yX1_setting : MethodName := ⟨RX1, "setting", "(I)I"⟩
abbrev cX1_switchTo : ByteArray := prog_3_method_8_code
def yX1_switchTo : MethodName := ⟨RX1, "switchTo", "(IZ)V"⟩
abbrev cX1_spreadHits : ByteArray := prog_3_method_9_code
def yX1_spreadHits : MethodName := ⟨RX1, "spreadHits", "(II)I"⟩
abbrev cX1_moveSteps : ByteArray := prog_3_method_10_code
def yX1_moveSteps : MethodName := ⟨RX1, "moveSteps", "(I)V"⟩
abbrev cX1_resize : ByteArray := prog_3_method_11_code
def yX1_resize : MethodName := ⟨RX1, "resize", "(I)V"⟩
abbrev cX1_copyStep : ByteArray := prog_3_method_12_code
def yX1_copyStep : MethodName := ⟨RX1, "copyStep", "([III)V"⟩
abbrev cX1_stepsWithForce : ByteArray := prog_3_method_13_code
def yX1_stepsWithForce : MethodName := ⟨RX1, "stepsWithForce", "()I"⟩
abbrev cX1_nearestStep : ByteArray := prog_3_method_14_code
def yX1_nearestStep : MethodName := ⟨RX1, "nearestStep", "(I)I"⟩
abbrev cX1_forceAt : ByteArray := prog_3_method_15_code
def yX1_forceAt : MethodName := ⟨RX1, "forceAt", "(I)I"⟩
abbrev cX1_isStroke : ByteArray := prog_3_method_16_code
def yX1_isStroke : MethodName := ⟨RX1, "isStroke", "(III)Z"⟩
abbrev cX1_roundsOfTurns : ByteArray := prog_3_method_17_code
def yX1_roundsOfTurns : MethodName := ⟨RX1, "roundsOfTurns", "()I"⟩
abbrev cX1_strokesPerRound : ByteArray := prog_3_method_18_code
def yX1_strokesPerRound : MethodName := ⟨RX1, "strokesPerRound", "()D"⟩
abbrev cX1_mixInto : ByteArray := prog_3_method_19_code
def yX1_mixInto : MethodName := ⟨RX1, "mixInto", "(J)J"⟩
def RX2 : String := "PolyDrums"
def TX2 : u_T := fun k => match k with
  | 0 => ("PolyDrums", "tracks", "[LPolyDrums$Track;", true)
  | 1 => ("PolyDrums", "trackCount", "I", false)
  | 2 => ("PolyDrums", "sections", "[LPolyDrums$Section;", true)
  | 3 => ("PolyDrums", "sectionCount", "I", false)
  | _ => ("PolyDrums", "beats", "I", false)
def tyX2 : Nat → FieldType := fun k => match k with
  | 0 => .array (.object "PolyDrums$Track")
  | 1 => .int
  | 2 => .array (.object "PolyDrums$Section")
  | 3 => .int
  | _ => .int
abbrev wsX20 : List Cond := u_ws RX2 TX2 5
theorem nmX2 : ∀ a, a < 5 → ∀ b, b < 5 → a ≠ b → (TX2 a).2.1 ≠ (TX2 b).2.1 := by decide +kernel
theorem tyX2_ok : ∀ k, k < 5 → parseFieldDescriptor (TX2 k).2.2.1 = some (tyX2 k) := by decide +kernel
abbrev cX2_init : ByteArray := prog_1_method_1_code
def yX2_init : MethodName := ⟨RX2, "<init>", "()V"⟩
abbrev cX2_addTrack : ByteArray := prog_1_method_2_code
def yX2_addTrack : MethodName := ⟨RX2, "addTrack", "(II)I"⟩
abbrev cX2_set : ByteArray := prog_1_method_3_code
def yX2_set : MethodName := ⟨RX2, "set", "(IIII)I"⟩
abbrev cX2_setTurn : ByteArray := prog_1_method_4_code
def yX2_setTurn : MethodName := ⟨RX2, "setTurn", "(IIII)I"⟩
abbrev cX2_step : ByteArray := prog_1_method_5_code
def yX2_step : MethodName := ⟨RX2, "step", "(III)I"⟩
abbrev cX2_track : ByteArray := prog_1_method_6_code
def yX2_track : MethodName := ⟨RX2, "track", "(II)I"⟩
abbrev cX2_tune : ByteArray := prog_1_method_7_code
def yX2_tune : MethodName := ⟨RX2, "tune", "(IIII)I"⟩
abbrev cX2_turn : ByteArray := prog_1_method_8_code
def yX2_turn : MethodName := ⟨RX2, "turn", "(IIZ)Z"⟩
abbrev cX2_spread : ByteArray := prog_1_method_9_code
def yX2_spread : MethodName := ⟨RX2, "spread", "(III)I"⟩
abbrev cX2_rotate : ByteArray := prog_1_method_10_code
def yX2_rotate : MethodName := ⟨RX2, "rotate", "(II)I"⟩
abbrev cX2_stretch : ByteArray := prog_1_method_11_code
def yX2_stretch : MethodName := ⟨RX2, "stretch", "(II)I"⟩
abbrev cX2_tap : ByteArray := prog_1_method_12_code
def yX2_tap : MethodName := ⟨RX2, "tap", "(III)I"⟩
abbrev cX2_tracks : ByteArray := prog_1_method_13_code
def yX2_tracks : MethodName := ⟨RX2, "tracks", "()I"⟩
abbrev cX2_addSection : ByteArray := prog_1_method_14_code
def yX2_addSection : MethodName := ⟨RX2, "addSection", "(IIZ)I"⟩
abbrev cX2_dropSection : ByteArray := prog_1_method_15_code
def yX2_dropSection : MethodName := ⟨RX2, "dropSection", "()I"⟩
abbrev cX2_sectionAt : ByteArray := prog_1_method_16_code
def yX2_sectionAt : MethodName := ⟨RX2, "sectionAt", "(I)I"⟩
abbrev cX2_length : ByteArray := prog_1_method_17_code
def yX2_length : MethodName := ⟨RX2, "length", "()I"⟩
abbrev cX2_loudness : ByteArray := prog_1_method_18_code
def yX2_loudness : MethodName := ⟨RX2, "loudness", "(II)I"⟩
abbrev cX2_hits : ByteArray := prog_1_method_19_code
def yX2_hits : MethodName := ⟨RX2, "hits", "(I)I"⟩
abbrev cX2_sounding : ByteArray := prog_1_method_20_code
def yX2_sounding : MethodName := ⟨RX2, "sounding", "(I)I"⟩
abbrev cX2_next : ByteArray := prog_1_method_21_code
def yX2_next : MethodName := ⟨RX2, "next", "(II)I"⟩
abbrev cX2_count : ByteArray := prog_1_method_22_code
def yX2_count : MethodName := ⟨RX2, "count", "(III)I"⟩
abbrev cX2_together : ByteArray := prog_1_method_23_code
def yX2_together : MethodName := ⟨RX2, "together", "(IIII)I"⟩
abbrev cX2_rounds : ByteArray := prog_1_method_24_code
def yX2_rounds : MethodName := ⟨RX2, "rounds", "(I)I"⟩
abbrev cX2_period : ByteArray := prog_1_method_25_code
def yX2_period : MethodName := ⟨RX2, "period", "()J"⟩
abbrev cX2_density : ByteArray := prog_1_method_26_code
def yX2_density : MethodName := ⟨RX2, "density", "(I)D"⟩
abbrev cX2_setSpeed : ByteArray := prog_1_method_27_code
def yX2_setSpeed : MethodName := ⟨RX2, "setSpeed", "(I)I"⟩
abbrev cX2_seconds : ByteArray := prog_1_method_28_code
def yX2_seconds : MethodName := ⟨RX2, "seconds", "(I)D"⟩
abbrev cX2_digest : ByteArray := prog_1_method_29_code
def yX2_digest : MethodName := ⟨RX2, "digest", "()J"⟩
abbrev cX2_isWithin : ByteArray := prog_1_method_30_code
def yX2_isWithin : MethodName := ⟨RX2, "isWithin", "(III)Z"⟩
abbrev cX2_isTick : ByteArray := prog_1_method_31_code
def yX2_isTick : MethodName := ⟨RX2, "isTick", "(I)Z"⟩
abbrev cX2_isSpan : ByteArray := prog_1_method_32_code
def yX2_isSpan : MethodName := ⟨RX2, "isSpan", "(II)Z"⟩
abbrev cX2_checkArgument : ByteArray := prog_1_method_33_code
def yX2_checkArgument : MethodName := ⟨RX2, "checkArgument", "(Z)V"⟩
abbrev cX2_checkIndex : ByteArray := prog_1_method_34_code
def yX2_checkIndex : MethodName := ⟨RX2, "checkIndex", "(Z)V"⟩
abbrev cX2_trackOrNull : ByteArray := prog_1_method_35_code
def yX2_trackOrNull : MethodName := ⟨RX2, "trackOrNull", "(I)LPolyDrums$Track;"⟩
abbrev cX2_sectionOrNull : ByteArray := prog_1_method_36_code
def yX2_sectionOrNull : MethodName := ⟨RX2, "sectionOrNull", "(I)LPolyDrums$Section;"⟩
abbrev cX2_existingTrack : ByteArray := prog_1_method_37_code
def yX2_existingTrack : MethodName := ⟨RX2, "existingTrack", "(I)LPolyDrums$Track;"⟩
abbrev cX2_trackWithStep : ByteArray := prog_1_method_38_code
def yX2_trackWithStep : MethodName := ⟨RX2, "trackWithStep", "(II)LPolyDrums$Track;"⟩
abbrev cX2_songTicks : ByteArray := prog_1_method_39_code
def yX2_songTicks : MethodName := ⟨RX2, "songTicks", "()I"⟩
abbrev cX2_sectionNumber : ByteArray := prog_1_method_40_code
def yX2_sectionNumber : MethodName := ⟨RX2, "sectionNumber", "(I)I"⟩
abbrev cX2_localTime : ByteArray := prog_1_method_41_code
def yX2_localTime : MethodName := ⟨RX2, "localTime", "(II)I"⟩
abbrev cX2_isAnySolo : ByteArray := prog_1_method_42_code
def yX2_isAnySolo : MethodName := ⟨RX2, "isAnySolo", "()Z"⟩
abbrev cX2_isSilenced : ByteArray := prog_1_method_43_code
def yX2_isSilenced : MethodName := ⟨RX2, "isSilenced", "(LPolyDrums$Track;)Z"⟩
abbrev cX2_struckForce : ByteArray := prog_1_method_44_code
def yX2_struckForce : MethodName := ⟨RX2, "struckForce", "(II)I"⟩
abbrev cX2_makesHit : ByteArray := prog_1_method_45_code
def yX2_makesHit : MethodName := ⟨RX2, "makesHit", "(II)Z"⟩
abbrev cX2_accentForce : ByteArray := prog_1_method_46_code
def yX2_accentForce : MethodName := ⟨RX2, "accentForce", "(I)I"⟩
abbrev cX2_hitSet : ByteArray := prog_1_method_47_code
def yX2_hitSet : MethodName := ⟨RX2, "hitSet", "(I)I"⟩
abbrev cX2_commonHits : ByteArray := prog_1_method_48_code
def yX2_commonHits : MethodName := ⟨RX2, "commonHits", "(IIII)I"⟩
abbrev cX2_groupSet : ByteArray := prog_1_method_49_code
def yX2_groupSet : MethodName := ⟨RX2, "groupSet", "(I)I"⟩
abbrev cX2_isInSet : ByteArray := prog_1_method_50_code
def yX2_isInSet : MethodName := ⟨RX2, "isInSet", "(II)Z"⟩
abbrev cX2_quotient : ByteArray := prog_1_method_51_code
def yX2_quotient : MethodName := ⟨RX2, "quotient", "(II)I"⟩
abbrev cX2_rest : ByteArray := prog_1_method_52_code
def yX2_rest : MethodName := ⟨RX2, "rest", "(II)I"⟩
abbrev cX2_read : ByteArray := prog_1_method_53_code
def yX2_read : MethodName := ⟨RX2, "read", "([II)I"⟩
abbrev cX2_write : ByteArray := prog_1_method_54_code
def yX2_write : MethodName := ⟨RX2, "write", "([III)V"⟩
abbrev cX2_greatestCommonDivisor : ByteArray := prog_1_method_55_code
def yX2_greatestCommonDivisor : MethodName := ⟨RX2, "greatestCommonDivisor", "(JJ)J"⟩
abbrev cX2_leastCommonMultiple : ByteArray := prog_1_method_56_code
def yX2_leastCommonMultiple : MethodName := ⟨RX2, "leastCommonMultiple", "(JJ)J"⟩
abbrev cX2_mix : ByteArray := prog_1_method_57_code
def yX2_mix : MethodName := ⟨RX2, "mix", "(JJ)J"⟩
def RX3 : String := "PolyDrumsModel"
def TX3 : u_T := fun k => match k with
  | 0 => ("PolyDrumsModel", "thrown", "I", false)
  | 1 => ("PolyDrumsModel", "tracks", "I", false)
  | 2 => ("PolyDrumsModel", "counts", "[I", true)
  | 3 => ("PolyDrumsModel", "ticks", "[I", true)
  | 4 => ("PolyDrumsModel", "swings", "[I", true)
  | 5 => ("PolyDrumsModel", "rings", "[I", true)
  | 6 => ("PolyDrumsModel", "groups", "[I", true)
  | 7 => ("PolyDrumsModel", "flags", "[Z", true)
  | 8 => ("PolyDrumsModel", "steps", "[I", true)
  | 9 => ("PolyDrumsModel", "sections", "I", false)
  | 10 => ("PolyDrumsModel", "begins", "[I", true)
  | 11 => ("PolyDrumsModel", "sets", "[I", true)
  | 12 => ("PolyDrumsModel", "areNew", "[Z", true)
  | _ => ("PolyDrumsModel", "speed", "I", false)
def tyX3 : Nat → FieldType := fun k => match k with
  | 0 => .int
  | 1 => .int
  | 2 => .array .int
  | 3 => .array .int
  | 4 => .array .int
  | 5 => .array .int
  | 6 => .array .int
  | 7 => .array .boolean
  | 8 => .array .int
  | 9 => .int
  | 10 => .array .int
  | 11 => .array .int
  | 12 => .array .boolean
  | _ => .int
abbrev wsX30 : List Cond := u_ws RX3 TX3 14
theorem nmX3 : ∀ a, a < 14 → ∀ b, b < 14 → a ≠ b → (TX3 a).2.1 ≠ (TX3 b).2.1 := by decide +kernel
theorem tyX3_ok : ∀ k, k < 14 → parseFieldDescriptor (TX3 k).2.2.1 = some (tyX3 k) := by decide +kernel
abbrev cX3_init : ByteArray := prog_5_method_1_code
def yX3_init : MethodName := ⟨RX3, "<init>", "()V"⟩
abbrev cX3_thrown : ByteArray := prog_5_method_2_code
def yX3_thrown : MethodName := ⟨RX3, "thrown", "()I"⟩
abbrev cX3_no : ByteArray := prog_5_method_3_code
def yX3_no : MethodName := ⟨RX3, "no", "(I)I"⟩
abbrev cX3_isIn : ByteArray := prog_5_method_4_code
def yX3_isIn : MethodName := ⟨RX3, "isIn", "(III)Z"⟩
abbrev cX3_isTrack : ByteArray := prog_5_method_5_code
def yX3_isTrack : MethodName := ⟨RX3, "isTrack", "(I)Z"⟩
abbrev cX3_isStep : ByteArray := prog_5_method_6_code
def yX3_isStep : MethodName := ⟨RX3, "isStep", "(II)Z"⟩
abbrev cX3_at : ByteArray := prog_5_method_7_code
def yX3_at : MethodName := ⟨RX3, "at", "(II)I"⟩
abbrev cX3_isTick : ByteArray := prog_5_method_8_code
def yX3_isTick : MethodName := ⟨RX3, "isTick", "(I)Z"⟩
abbrev cX3_plain : ByteArray := prog_5_method_9_code
def yX3_plain : MethodName := ⟨RX3, "plain", "(III)V"⟩
abbrev cX3_addTrack : ByteArray := prog_5_method_10_code
def yX3_addTrack : MethodName := ⟨RX3, "addTrack", "(II)I"⟩
abbrev cX3_set : ByteArray := prog_5_method_11_code
def yX3_set : MethodName := ⟨RX3, "set", "(IIII)I"⟩
abbrev cX3_setTurn : ByteArray := prog_5_method_12_code
def yX3_setTurn : MethodName := ⟨RX3, "setTurn", "(IIII)I"⟩
abbrev cX3_delay : ByteArray := prog_5_method_13_code
def yX3_delay : MethodName := ⟨RX3, "delay", "(II)I"⟩
abbrev cX3_step : ByteArray := prog_5_method_14_code
def yX3_step : MethodName := ⟨RX3, "step", "(III)I"⟩
abbrev cX3_told : ByteArray := prog_5_method_15_code
def yX3_told : MethodName := ⟨RX3, "told", "(II)I"⟩
abbrev cX3_track : ByteArray := prog_5_method_16_code
def yX3_track : MethodName := ⟨RX3, "track", "(II)I"⟩
abbrev cX3_tune : ByteArray := prog_5_method_17_code
def yX3_tune : MethodName := ⟨RX3, "tune", "(IIII)I"⟩
abbrev cX3_turn : ByteArray := prog_5_method_18_code
def yX3_turn : MethodName := ⟨RX3, "turn", "(IIZ)Z"⟩
abbrev cX3_spread : ByteArray := prog_5_method_19_code
def yX3_spread : MethodName := ⟨RX3, "spread", "(III)I"⟩
abbrev cX3_take : ByteArray := prog_5_method_20_code
def yX3_take : MethodName := ⟨RX3, "take", "(I[III)V"⟩
abbrev cX3_loud : ByteArray := prog_5_method_21_code
def yX3_loud : MethodName := ⟨RX3, "loud", "(I)I"⟩
abbrev cX3_rotate : ByteArray := prog_5_method_22_code
def yX3_rotate : MethodName := ⟨RX3, "rotate", "(II)I"⟩
abbrev cX3_stretch : ByteArray := prog_5_method_23_code
def yX3_stretch : MethodName := ⟨RX3, "stretch", "(II)I"⟩
abbrev cX3_tap : ByteArray := prog_5_method_24_code
def yX3_tap : MethodName := ⟨RX3, "tap", "(III)I"⟩
abbrev cX3_tracks : ByteArray := prog_5_method_25_code
def yX3_tracks : MethodName := ⟨RX3, "tracks", "()I"⟩
abbrev cX3_addSection : ByteArray := prog_5_method_26_code
def yX3_addSection : MethodName := ⟨RX3, "addSection", "(IIZ)I"⟩
abbrev cX3_dropSection : ByteArray := prog_5_method_27_code
def yX3_dropSection : MethodName := ⟨RX3, "dropSection", "()I"⟩
abbrev cX3_section : ByteArray := prog_5_method_28_code
def yX3_section : MethodName := ⟨RX3, "section", "(I)I"⟩
abbrev cX3_sectionAt : ByteArray := prog_5_method_29_code
def yX3_sectionAt : MethodName := ⟨RX3, "sectionAt", "(I)I"⟩
abbrev cX3_length : ByteArray := prog_5_method_30_code
def yX3_length : MethodName := ⟨RX3, "length", "()I"⟩
abbrev cX3_isSilent : ByteArray := prog_5_method_31_code
def yX3_isSilent : MethodName := ⟨RX3, "isSilent", "(I)Z"⟩
abbrev cX3_strike : ByteArray := prog_5_method_32_code
def yX3_strike : MethodName := ⟨RX3, "strike", "(II)I"⟩
abbrev cX3_loud_ : ByteArray := prog_5_method_33_code
def yX3_loud_ : MethodName := ⟨RX3, "loud", "(II)I"⟩
abbrev cX3_hits : ByteArray := prog_5_method_34_code
def yX3_hits : MethodName := ⟨RX3, "hits", "(II)Z"⟩
abbrev cX3_loudness : ByteArray := prog_5_method_35_code
def yX3_loudness : MethodName := ⟨RX3, "loudness", "(II)I"⟩
abbrev cX3_hits_ : ByteArray := prog_5_method_36_code
def yX3_hits_ : MethodName := ⟨RX3, "hits", "(I)I"⟩
abbrev cX3_sounds : ByteArray := prog_5_method_37_code
def yX3_sounds : MethodName := ⟨RX3, "sounds", "(II)Z"⟩
abbrev cX3_sounding : ByteArray := prog_5_method_38_code
def yX3_sounding : MethodName := ⟨RX3, "sounding", "(I)I"⟩
abbrev cX3_next : ByteArray := prog_5_method_39_code
def yX3_next : MethodName := ⟨RX3, "next", "(II)I"⟩
abbrev cX3_isSpan : ByteArray := prog_5_method_40_code
def yX3_isSpan : MethodName := ⟨RX3, "isSpan", "(II)Z"⟩
abbrev cX3_count : ByteArray := prog_5_method_41_code
def yX3_count : MethodName := ⟨RX3, "count", "(III)I"⟩
abbrev cX3_together : ByteArray := prog_5_method_42_code
def yX3_together : MethodName := ⟨RX3, "together", "(IIII)I"⟩
abbrev cX3_divisor : ByteArray := prog_5_method_43_code
def yX3_divisor : MethodName := ⟨RX3, "divisor", "(JJ)J"⟩
abbrev cX3_roundsOf : ByteArray := prog_5_method_44_code
def yX3_roundsOf : MethodName := ⟨RX3, "roundsOf", "(I)I"⟩
abbrev cX3_rounds : ByteArray := prog_5_method_45_code
def yX3_rounds : MethodName := ⟨RX3, "rounds", "(I)I"⟩
abbrev cX3_period : ByteArray := prog_5_method_46_code
def yX3_period : MethodName := ⟨RX3, "period", "()J"⟩
abbrev cX3_density : ByteArray := prog_5_method_47_code
def yX3_density : MethodName := ⟨RX3, "density", "(I)D"⟩
abbrev cX3_setSpeed : ByteArray := prog_5_method_48_code
def yX3_setSpeed : MethodName := ⟨RX3, "setSpeed", "(I)I"⟩
abbrev cX3_seconds : ByteArray := prog_5_method_49_code
def yX3_seconds : MethodName := ⟨RX3, "seconds", "(I)D"⟩
abbrev cX3_digest : ByteArray := prog_5_method_50_code
def yX3_digest : MethodName := ⟨RX3, "digest", "()J"⟩
def RJx8e188 : String := "java/lang/Cloneable"
def TJx8e188 : u_T := fun k => match k with
  | _ => ("", "", "", false)
def tyJx8e188 : Nat → FieldType := fun k => match k with
  | _ => .int
abbrev wsJx8e1880 : List Cond := u_ws RJx8e188 TJx8e188 0
theorem nmJx8e188 : ∀ a, a < 0 → ∀ b, b < 0 → a ≠ b → (TJx8e188 a).2.1 ≠ (TJx8e188 b).2.1 := by decide +kernel
theorem tyJx8e188_ok : ∀ k, k < 0 → parseFieldDescriptor (TJx8e188 k).2.2.1 = some (tyJx8e188 k) := by decide +kernel
def RJ9 : String := "java/lang/Math"
def TJ9 : u_T := fun k => match k with
  | _ => ("", "", "", false)
def tyJ9 : Nat → FieldType := fun k => match k with
  | _ => .int
abbrev wsJ90 : List Cond := u_ws RJ9 TJ9 0
theorem nmJ9 : ∀ a, a < 0 → ∀ b, b < 0 → a ≠ b → (TJ9 a).2.1 ≠ (TJ9 b).2.1 := by decide +kernel
theorem tyJ9_ok : ∀ k, k < 0 → parseFieldDescriptor (TJ9 k).2.2.1 = some (tyJ9 k) := by decide +kernel
abbrev cJ9_abs_0f7a4 : ByteArray := prog_11_method_59_code
def yJ9_abs_0f7a4 : MethodName := ⟨RJ9, "abs", "(I)I"⟩
abbrev cJ9_min_7cf53 : ByteArray := prog_11_method_69_code
def yJ9_min_7cf53 : MethodName := ⟨RJ9, "min", "(II)I"⟩
def RJ0 : String := "java/lang/String"
def TJ0 : u_T := fun k => match k with
  | _ => ("", "", "", false)
def tyJ0 : Nat → FieldType := fun k => match k with
  | _ => .int
abbrev wsJ00 : List Cond := u_ws RJ0 TJ0 0
theorem nmJ0 : ∀ a, a < 0 → ∀ b, b < 0 → a ≠ b → (TJ0 a).2.1 ≠ (TJ0 b).2.1 := by decide +kernel
theorem tyJ0_ok : ∀ k, k < 0 → parseFieldDescriptor (TJ0 k).2.2.1 = some (tyJ0 k) := by decide +kernel
def RJ10 : String := "java/lang/System"
def TJ10 : u_T := fun k => match k with
  | _ => ("", "", "", false)
def tyJ10 : Nat → FieldType := fun k => match k with
  | _ => .int
abbrev wsJ100 : List Cond := u_ws RJ10 TJ10 0
theorem nmJ10 : ∀ a, a < 0 → ∀ b, b < 0 → a ≠ b → (TJ10 a).2.1 ≠ (TJ10 b).2.1 := by decide +kernel
theorem tyJ10_ok : ∀ k, k < 0 → parseFieldDescriptor (TJ10 k).2.2.1 = some (tyJ10 k) := by decide +kernel
def RL : String := "PolyDrumsLaw"
abbrev cL_addTrack : ByteArray := method_3_code
def yL_addTrack : MethodName := ⟨RL, "addTrack", "(LPolyDrums;II[J)I"⟩
abbrev cL_set : ByteArray := method_4_code
def yL_set : MethodName := ⟨RL, "set", "(LPolyDrums;IIII[J)I"⟩
abbrev cL_setTurn : ByteArray := method_5_code
def yL_setTurn : MethodName := ⟨RL, "setTurn", "(LPolyDrums;IIII[J)I"⟩
abbrev cL_step : ByteArray := method_6_code
def yL_step : MethodName := ⟨RL, "step", "(LPolyDrums;III[J)I"⟩
abbrev cL_track : ByteArray := method_7_code
def yL_track : MethodName := ⟨RL, "track", "(LPolyDrums;II[J)I"⟩
abbrev cL_tune : ByteArray := method_8_code
def yL_tune : MethodName := ⟨RL, "tune", "(LPolyDrums;IIII[J)I"⟩
abbrev cL_turn : ByteArray := method_9_code
def yL_turn : MethodName := ⟨RL, "turn", "(LPolyDrums;IIZ[J)I"⟩
abbrev cL_spread : ByteArray := method_10_code
def yL_spread : MethodName := ⟨RL, "spread", "(LPolyDrums;III[J)I"⟩
abbrev cL_rotate : ByteArray := method_11_code
def yL_rotate : MethodName := ⟨RL, "rotate", "(LPolyDrums;II[J)I"⟩
abbrev cL_stretch : ByteArray := method_12_code
def yL_stretch : MethodName := ⟨RL, "stretch", "(LPolyDrums;II[J)I"⟩
abbrev cL_tap : ByteArray := method_13_code
def yL_tap : MethodName := ⟨RL, "tap", "(LPolyDrums;III[J)I"⟩
abbrev cL_addSection : ByteArray := method_14_code
def yL_addSection : MethodName := ⟨RL, "addSection", "(LPolyDrums;IIZ[J)I"⟩
abbrev cL_dropSection : ByteArray := method_15_code
def yL_dropSection : MethodName := ⟨RL, "dropSection", "(LPolyDrums;[J)I"⟩
abbrev cL_sectionAt : ByteArray := method_16_code
def yL_sectionAt : MethodName := ⟨RL, "sectionAt", "(LPolyDrums;I[J)I"⟩
abbrev cL_loudness : ByteArray := method_17_code
def yL_loudness : MethodName := ⟨RL, "loudness", "(LPolyDrums;II[J)I"⟩
abbrev cL_hits : ByteArray := method_18_code
def yL_hits : MethodName := ⟨RL, "hits", "(LPolyDrums;I[J)I"⟩
abbrev cL_sounding : ByteArray := method_19_code
def yL_sounding : MethodName := ⟨RL, "sounding", "(LPolyDrums;I[J)I"⟩
abbrev cL_next : ByteArray := method_20_code
def yL_next : MethodName := ⟨RL, "next", "(LPolyDrums;II[J)I"⟩
abbrev cL_count : ByteArray := method_21_code
def yL_count : MethodName := ⟨RL, "count", "(LPolyDrums;III[J)I"⟩
abbrev cL_together : ByteArray := method_22_code
def yL_together : MethodName := ⟨RL, "together", "(LPolyDrums;IIII[J)I"⟩
abbrev cL_rounds : ByteArray := method_23_code
def yL_rounds : MethodName := ⟨RL, "rounds", "(LPolyDrums;I[J)I"⟩
abbrev cL_density : ByteArray := method_24_code
def yL_density : MethodName := ⟨RL, "density", "(LPolyDrums;I[D)I"⟩
abbrev cL_setSpeed : ByteArray := method_25_code
def yL_setSpeed : MethodName := ⟨RL, "setSpeed", "(LPolyDrums;I[J)I"⟩
abbrev cL_seconds : ByteArray := method_26_code
def yL_seconds : MethodName := ⟨RL, "seconds", "(LPolyDrums;I[D)I"⟩
abbrev cL_law : ByteArray := code
def yL_law : MethodName := ⟨RL, "law", "([I)Z"⟩
def wsX0_init : List Cond := .code yX0_init cX0_init 5 none :: ([.methodLink RX0 1 objectInit, .instanceMethod objectInit, .code objectInit ⟨#[0xb1]⟩ 1 none, .fieldLink RX0 7 "PolyDrums$Section" "begin" "I", .fieldLink RX0 13 "PolyDrums$Section" "length" "I", .fieldLink RX0 16 "PolyDrums$Section" "set" "I", .fieldLink RX0 19 "PolyDrums$Section" "isNew" "Z"] ++ wsX00)
def wsX2_write : List Cond := .code yX2_write cX2_write 3 none :: ([])
def wsX1_putCell : List Cond := .code yX1_putCell cX1_putCell 4 none :: ([.fieldLink RX1 31 "PolyDrums$Track" "cells" "[I", .static yX2_write, .initialized RX2, .code yX2_write cX2_write 3 none] ++ wsX10)
def wsX1_clearStep : List Cond := .code yX1_clearStep cX1_clearStep 3 none :: ([.methodLink RX1 56 yX1_putCell, .instanceMethod yX1_putCell, .selects RX1 yX1_putCell yX1_putCell, .initialized RX1, .code yX1_putCell cX1_putCell 4 none, .fieldLink RX1 31 "PolyDrums$Track" "cells" "[I", .static yX2_write, .initialized RX2, .code yX2_write cX2_write 3 none] ++ wsX10)
def wsX1_init_r1 : List Cond := [Cond.methodLink RX1 3 objectInit, Cond.instanceMethod objectInit, Cond.code objectInit ⟨#[0xb1]⟩ 1 none, Cond.fieldLink RX1 9 "PolyDrums$Track" "swing" "I", Cond.fieldLink RX1 15 "PolyDrums$Track" "ring" "I", Cond.fieldLink RX1 18 "PolyDrums$Track" "group" "I", Cond.fieldLink RX1 21 "PolyDrums$Track" "isMuted" "Z", Cond.fieldLink RX1 25 "PolyDrums$Track" "isSolo" "Z", Cond.fieldLink RX1 28 "PolyDrums$Track" "isAccent" "Z", Cond.arrayClass .int, Cond.fieldLink RX1 31 "PolyDrums$Track" "cells" "[I", Cond.fieldLink RX1 35 "PolyDrums$Track" "spare" "[I", Cond.fieldLink RX1 38 "PolyDrums$Track" "steps" "I", Cond.fieldLink RX1 41 "PolyDrums$Track" "stepTicks" "I", Cond.methodLink RX1 44 yX1_clearStep, Cond.instanceMethod yX1_clearStep, Cond.selects RX1 yX1_clearStep yX1_clearStep, Cond.initialized RX1, Cond.code yX1_clearStep cX1_clearStep 3 none, Cond.methodLink RX1 56 yX1_putCell, Cond.instanceMethod yX1_putCell, Cond.selects RX1 yX1_putCell yX1_putCell, Cond.code yX1_putCell cX1_putCell 4 none, Cond.static yX2_write]
def wsX1_init_r2 : List Cond := [Cond.initialized RX2, Cond.code yX2_write cX2_write 3 none]
def wsX1_init : List Cond := .code yX1_init cX1_init 4 none :: ((wsX1_init_r1 ++ wsX1_init_r2) ++ wsX10)
def wsX2_read : List Cond := .code yX2_read cX2_read 2 (some .int) :: ([])
def wsX1_cell : List Cond := .code yX1_cell cX1_cell 3 (some .int) :: ([.fieldLink RX1 31 "PolyDrums$Track" "cells" "[I", .static yX2_read, .initialized RX2, .code yX2_read cX2_read 2 (some .int)] ++ wsX10)
def wsX1_delay : List Cond := .code yX1_delay cX1_delay 2 (some .int) :: ([.fieldLink RX1 9 "PolyDrums$Track" "swing" "I"] ++ wsX10)
def wsX1_roundTicks : List Cond := .code yX1_roundTicks cX1_roundTicks 1 (some .int) :: ([.fieldLink RX1 38 "PolyDrums$Track" "steps" "I", .fieldLink RX1 41 "PolyDrums$Track" "stepTicks" "I"] ++ wsX10)
def wsX1_setting : List Cond := .code yX1_setting cX1_setting 2 (some .int) :: ([.fieldLink RX1 38 "PolyDrums$Track" "steps" "I", .fieldLink RX1 41 "PolyDrums$Track" "stepTicks" "I", .fieldLink RX1 9 "PolyDrums$Track" "swing" "I", .fieldLink RX1 15 "PolyDrums$Track" "ring" "I", .fieldLink RX1 18 "PolyDrums$Track" "group" "I", .fieldLink RX1 21 "PolyDrums$Track" "isMuted" "Z", .fieldLink RX1 25 "PolyDrums$Track" "isSolo" "Z", .fieldLink RX1 28 "PolyDrums$Track" "isAccent" "Z"] ++ wsX10)
def wsX1_switchTo : List Cond := .code yX1_switchTo cX1_switchTo 3 none :: ([.fieldLink RX1 21 "PolyDrums$Track" "isMuted" "Z", .fieldLink RX1 25 "PolyDrums$Track" "isSolo" "Z", .fieldLink RX1 28 "PolyDrums$Track" "isAccent" "Z"] ++ wsX10)
def wsX2_rest : List Cond := .code yX2_rest cX2_rest 2 (some .int) :: ([])
def wsX1_spreadHits : List Cond := .code yX1_spreadHits cX1_spreadHits 6 (some .int) :: ([.fieldLink RX1 38 "PolyDrums$Track" "steps" "I", .static yX2_rest, .initialized RX2, .code yX2_rest cX2_rest 2 (some .int), .methodLink RX1 44 yX1_clearStep, .instanceMethod yX1_clearStep, .selects RX1 yX1_clearStep yX1_clearStep, .initialized RX1, .code yX1_clearStep cX1_clearStep 3 none, .methodLink RX1 56 yX1_putCell, .instanceMethod yX1_putCell, .selects RX1 yX1_putCell yX1_putCell, .code yX1_putCell cX1_putCell 4 none, .fieldLink RX1 31 "PolyDrums$Track" "cells" "[I", .static yX2_write, .code yX2_write cX2_write 3 none] ++ wsX10)
def wsX1_copyStep : List Cond := .code yX1_copyStep cX1_copyStep 5 none :: ([.static yX2_read, .initialized RX2, .code yX2_read cX2_read 2 (some .int), .methodLink RX1 56 yX1_putCell, .instanceMethod yX1_putCell, .selects RX1 yX1_putCell yX1_putCell, .initialized RX1, .code yX1_putCell cX1_putCell 4 none, .fieldLink RX1 31 "PolyDrums$Track" "cells" "[I", .static yX2_write, .code yX2_write cX2_write 3 none] ++ wsX10)
def wsX1_moveSteps : List Cond := .code yX1_moveSteps cX1_moveSteps 3 none :: ([.fieldLink RX1 31 "PolyDrums$Track" "cells" "[I", .fieldLink RX1 35 "PolyDrums$Track" "spare" "[I", .methodLink RX1 64 arraycopyName, .native arraycopyName, .static arraycopyName, .initialized "java/lang/System", .fieldLink RX1 38 "PolyDrums$Track" "steps" "I", .static yX2_rest, .initialized RX2, .code yX2_rest cX2_rest 2 (some .int), .methodLink RX1 70 yX1_copyStep, .instanceMethod yX1_copyStep, .selects RX1 yX1_copyStep yX1_copyStep, .initialized RX1, .code yX1_copyStep cX1_copyStep 5 none, .static yX2_read, .code yX2_read cX2_read 2 (some .int), .methodLink RX1 56 yX1_putCell, .instanceMethod yX1_putCell, .selects RX1 yX1_putCell yX1_putCell, .code yX1_putCell cX1_putCell 4 none, .static yX2_write, .code yX2_write cX2_write 3 none] ++ wsX10)
def wsX1_resize : List Cond := .code yX1_resize cX1_resize 3 none :: ([.fieldLink RX1 38 "PolyDrums$Track" "steps" "I", .fieldLink RX1 31 "PolyDrums$Track" "cells" "[I", .methodLink RX1 70 yX1_copyStep, .instanceMethod yX1_copyStep, .selects RX1 yX1_copyStep yX1_copyStep, .initialized RX1, .code yX1_copyStep cX1_copyStep 5 none, .static yX2_read, .initialized RX2, .code yX2_read cX2_read 2 (some .int), .methodLink RX1 56 yX1_putCell, .instanceMethod yX1_putCell, .selects RX1 yX1_putCell yX1_putCell, .code yX1_putCell cX1_putCell 4 none, .static yX2_write, .code yX2_write cX2_write 3 none] ++ wsX10)
def wsX1_stepsWithForce : List Cond := .code yX1_stepsWithForce cX1_stepsWithForce 3 (some .int) :: ([.fieldLink RX1 38 "PolyDrums$Track" "steps" "I", .methodLink RX1 73 yX1_cell, .instanceMethod yX1_cell, .selects RX1 yX1_cell yX1_cell, .initialized RX1, .code yX1_cell cX1_cell 3 (some .int), .fieldLink RX1 31 "PolyDrums$Track" "cells" "[I", .static yX2_read, .initialized RX2, .code yX2_read cX2_read 2 (some .int)] ++ wsX10)
def wsX1_nearestStep : List Cond := .code yX1_nearestStep cX1_nearestStep 7 (some .int) :: ([.methodLink RX1 80 Lib.Math.min.name, .static Lib.Math.min.name, .initialized "java/lang/Math", .code Lib.Math.min.name Lib.Math.min.code 2 (some .int), .fieldLink RX1 38 "PolyDrums$Track" "steps" "I", .fieldLink RX1 41 "PolyDrums$Track" "stepTicks" "I", .methodLink RX1 89 Lib.Math.abs.name, .static Lib.Math.abs.name, .code Lib.Math.abs.name Lib.Math.abs.code 1 (some .int), .methodLink RX1 76 yX1_roundTicks, .instanceMethod yX1_roundTicks, .selects RX1 yX1_roundTicks yX1_roundTicks, .initialized RX1, .code yX1_roundTicks cX1_roundTicks 1 (some .int), .static yX2_rest, .initialized RX2, .code yX2_rest cX2_rest 2 (some .int), .methodLink RX1 85 yX1_delay, .instanceMethod yX1_delay, .selects RX1 yX1_delay yX1_delay, .code yX1_delay cX1_delay 2 (some .int), .fieldLink RX1 9 "PolyDrums$Track" "swing" "I"] ++ wsX10)
def wsX2_quotient : List Cond := .code yX2_quotient cX2_quotient 2 (some .int) :: ([])
def wsX1_isStroke : List Cond := .code yX1_isStroke cX1_isStroke 4 (some .boolean) :: ([.static yX2_quotient, .initialized RX2, .code yX2_quotient cX2_quotient 2 (some .int)])
def wsX1_forceAt_r1 : List Cond := [Cond.fieldLink RX1 41 "PolyDrums$Track" "stepTicks" "I", Cond.methodLink RX1 76 yX1_roundTicks, Cond.instanceMethod yX1_roundTicks, Cond.selects RX1 yX1_roundTicks yX1_roundTicks, Cond.initialized RX1, Cond.code yX1_roundTicks cX1_roundTicks 1 (some .int), Cond.fieldLink RX1 38 "PolyDrums$Track" "steps" "I", Cond.static yX2_quotient, Cond.initialized RX2, Cond.code yX2_quotient cX2_quotient 2 (some .int), Cond.static yX2_rest, Cond.code yX2_rest cX2_rest 2 (some .int), Cond.methodLink RX1 73 yX1_cell, Cond.instanceMethod yX1_cell, Cond.selects RX1 yX1_cell yX1_cell, Cond.code yX1_cell cX1_cell 3 (some .int), Cond.fieldLink RX1 31 "PolyDrums$Track" "cells" "[I", Cond.static yX2_read, Cond.code yX2_read cX2_read 2 (some .int), Cond.methodLink RX1 85 yX1_delay, Cond.instanceMethod yX1_delay, Cond.selects RX1 yX1_delay yX1_delay, Cond.code yX1_delay cX1_delay 2 (some .int), Cond.fieldLink RX1 9 "PolyDrums$Track" "swing" "I"]
def wsX1_forceAt_r2 : List Cond := [Cond.methodLink RX1 95 yX1_isStroke, Cond.static yX1_isStroke, Cond.code yX1_isStroke cX1_isStroke 4 (some .boolean)]
def wsX1_forceAt : List Cond := .code yX1_forceAt cX1_forceAt 8 (some .int) :: ((wsX1_forceAt_r1 ++ wsX1_forceAt_r2) ++ wsX10)
def wsX2_greatestCommonDivisor : List Cond := .code yX2_greatestCommonDivisor cX2_greatestCommonDivisor 11 (some .long) :: ([.constant RX2 246 (1000000)])
def wsX2_leastCommonMultiple : List Cond := .code yX2_leastCommonMultiple cX2_leastCommonMultiple 6 (some .long) :: ([.methodLink RX2 247 yX2_greatestCommonDivisor, .static yX2_greatestCommonDivisor, .initialized RX2, .code yX2_greatestCommonDivisor cX2_greatestCommonDivisor 11 (some .long), .constant RX2 246 (1000000)])
def wsX1_roundsOfTurns : List Cond := .code yX1_roundsOfTurns cX1_roundsOfTurns 4 (some .int) :: ([.fieldLink RX1 38 "PolyDrums$Track" "steps" "I", .methodLink RX1 73 yX1_cell, .instanceMethod yX1_cell, .selects RX1 yX1_cell yX1_cell, .initialized RX1, .code yX1_cell cX1_cell 3 (some .int), .fieldLink RX1 31 "PolyDrums$Track" "cells" "[I", .static yX2_read, .initialized RX2, .code yX2_read cX2_read 2 (some .int), .static yX2_leastCommonMultiple, .code yX2_leastCommonMultiple cX2_leastCommonMultiple 6 (some .long), .methodLink RX2 247 yX2_greatestCommonDivisor, .static yX2_greatestCommonDivisor, .code yX2_greatestCommonDivisor cX2_greatestCommonDivisor 11 (some .long), .constant RX2 246 (1000000)] ++ wsX10)
def wsX1_strokesPerRound : List Cond := .code yX1_strokesPerRound cX1_strokesPerRound 5 (some .double) :: ([.fieldLink RX1 38 "PolyDrums$Track" "steps" "I", .methodLink RX1 73 yX1_cell, .instanceMethod yX1_cell, .selects RX1 yX1_cell yX1_cell, .initialized RX1, .code yX1_cell cX1_cell 3 (some .int), .fieldLink RX1 31 "PolyDrums$Track" "cells" "[I", .static yX2_read, .initialized RX2, .code yX2_read cX2_read 2 (some .int)] ++ wsX10)
def wsX2_mix : List Cond := .code yX2_mix cX2_mix 4 (some .long) :: ([.constantLong RX2 250 (31)])
def wsX1_mixInto : List Cond := .code yX1_mixInto cX1_mixInto 7 (some .long) :: ([.fieldLink RX1 38 "PolyDrums$Track" "steps" "I", .methodLink RX1 103 yX1_setting, .instanceMethod yX1_setting, .selects RX1 yX1_setting yX1_setting, .initialized RX1, .code yX1_setting cX1_setting 2 (some .int), .fieldLink RX1 41 "PolyDrums$Track" "stepTicks" "I", .fieldLink RX1 9 "PolyDrums$Track" "swing" "I", .fieldLink RX1 15 "PolyDrums$Track" "ring" "I", .fieldLink RX1 18 "PolyDrums$Track" "group" "I", .fieldLink RX1 21 "PolyDrums$Track" "isMuted" "Z", .fieldLink RX1 25 "PolyDrums$Track" "isSolo" "Z", .fieldLink RX1 28 "PolyDrums$Track" "isAccent" "Z", .static yX2_mix, .initialized RX2, .code yX2_mix cX2_mix 4 (some .long), .constantLong RX2 250 (31), .methodLink RX1 73 yX1_cell, .instanceMethod yX1_cell, .selects RX1 yX1_cell yX1_cell, .code yX1_cell cX1_cell 3 (some .int), .fieldLink RX1 31 "PolyDrums$Track" "cells" "[I", .static yX2_read, .code yX2_read cX2_read 2 (some .int)] ++ wsX10)
def wsX2_init : List Cond := .code yX2_init cX2_init 1 none :: ([.methodLink RX2 1 objectInit, .instanceMethod objectInit, .code objectInit ⟨#[0xb1]⟩ 1 none, .classLink RX2 9 RX1, .fieldLink RX2 11 "PolyDrums" "tracks" "[LPolyDrums$Track;", .fieldLink RX2 15 "PolyDrums" "trackCount" "I", .classLink RX2 19 RX0, .fieldLink RX2 21 "PolyDrums" "sections" "[LPolyDrums$Section;", .fieldLink RX2 25 "PolyDrums" "sectionCount" "I", .fieldLink RX2 28 "PolyDrums" "beats" "I"] ++ wsX20)
def wsX2_isWithin : List Cond := .code yX2_isWithin cX2_isWithin 3 (some .boolean) :: ([])
def wsX2_checkArgument : List Cond := .code yX2_checkArgument cX2_checkArgument 1 none :: ([.classLink RX2 208 "java/lang/IllegalArgumentException", .initialized "java/lang/IllegalArgumentException"] ++ (vx_atS RX2 212 "java/lang/IllegalArgumentException" ["java/lang/RuntimeException", "java/lang/Exception"]).filter goodWord)
def wsX2_addTrack_r1 : List Cond := [Cond.classLink RX2 39 "java/lang/IllegalStateException", Cond.initialized "java/lang/IllegalStateException", Cond.fieldLink RX2 15 "PolyDrums" "trackCount" "I", Cond.fieldLink RX2 11 "PolyDrums" "tracks" "[LPolyDrums$Track;", Cond.classLink RX2 9 RX1, Cond.instantiable RX1 10, Cond.initialized RX1, Cond.methodLink RX2 31 yX2_isWithin, Cond.static yX2_isWithin, Cond.initialized RX2, Cond.code yX2_isWithin cX2_isWithin 3 (some .boolean), Cond.methodLink RX2 35 yX2_checkArgument, Cond.static yX2_checkArgument, Cond.code yX2_checkArgument cX2_checkArgument 1 none, Cond.classLink RX2 208 "java/lang/IllegalArgumentException", Cond.initialized "java/lang/IllegalArgumentException", Cond.instanceMethod yX1_init, Cond.code yX1_init cX1_init 4 none, Cond.methodLink RX1 3 objectInit, Cond.instanceMethod objectInit, Cond.code objectInit ⟨#[0xb1]⟩ 1 none, Cond.fieldLink RX1 9 "PolyDrums$Track" "swing" "I", Cond.fieldLink RX1 15 "PolyDrums$Track" "ring" "I", Cond.fieldLink RX1 18 "PolyDrums$Track" "group" "I"]
def wsX2_addTrack_r2 : List Cond := [Cond.fieldLink RX1 21 "PolyDrums$Track" "isMuted" "Z", Cond.fieldLink RX1 25 "PolyDrums$Track" "isSolo" "Z", Cond.fieldLink RX1 28 "PolyDrums$Track" "isAccent" "Z", Cond.arrayClass .int, Cond.fieldLink RX1 31 "PolyDrums$Track" "cells" "[I", Cond.fieldLink RX1 35 "PolyDrums$Track" "spare" "[I", Cond.fieldLink RX1 38 "PolyDrums$Track" "steps" "I", Cond.fieldLink RX1 41 "PolyDrums$Track" "stepTicks" "I", Cond.methodLink RX1 44 yX1_clearStep, Cond.instanceMethod yX1_clearStep, Cond.selects RX1 yX1_clearStep yX1_clearStep, Cond.code yX1_clearStep cX1_clearStep 3 none, Cond.methodLink RX1 56 yX1_putCell, Cond.instanceMethod yX1_putCell, Cond.selects RX1 yX1_putCell yX1_putCell, Cond.code yX1_putCell cX1_putCell 4 none, Cond.static yX2_write, Cond.code yX2_write cX2_write 3 none]
def wsX2_addTrack : List Cond := .code yX2_addTrack cX2_addTrack 4 (some .int) :: ((wsX2_addTrack_r1 ++ wsX2_addTrack_r2) ++ wsX20 ++ wsX10 ++ (vx_atS RX2 43 "java/lang/IllegalStateException" ["java/lang/RuntimeException", "java/lang/Exception"]).filter goodWord ++ (vx_atS RX2 212 "java/lang/IllegalArgumentException" ["java/lang/RuntimeException", "java/lang/Exception"]).filter goodWord)
def wsX2_trackOrNull : List Cond := .code yX2_trackOrNull cX2_trackOrNull 2 (some (.object "PolyDrums$Track")) :: ([.fieldLink RX2 11 "PolyDrums" "tracks" "[LPolyDrums$Track;"] ++ wsX20)
def wsX2_existingTrack : List Cond := .code yX2_existingTrack cX2_existingTrack 3 (some (.object "PolyDrums$Track")) :: ([.classLink RX2 213 "java/lang/IndexOutOfBoundsException", .initialized "java/lang/IndexOutOfBoundsException", .methodLink RX2 146 yX2_trackOrNull, .instanceMethod yX2_trackOrNull, .selects RX2 yX2_trackOrNull yX2_trackOrNull, .initialized RX2, .code yX2_trackOrNull cX2_trackOrNull 2 (some (.object "PolyDrums$Track")), .fieldLink RX2 11 "PolyDrums" "tracks" "[LPolyDrums$Track;"] ++ wsX20 ++ (vx_atS RX2 217 "java/lang/IndexOutOfBoundsException" ["java/lang/RuntimeException", "java/lang/Exception"]).filter goodWord)
def wsX2_checkIndex : List Cond := .code yX2_checkIndex cX2_checkIndex 1 none :: ([.classLink RX2 213 "java/lang/IndexOutOfBoundsException", .initialized "java/lang/IndexOutOfBoundsException"] ++ (vx_atS RX2 217 "java/lang/IndexOutOfBoundsException" ["java/lang/RuntimeException", "java/lang/Exception"]).filter goodWord)
def wsX2_trackWithStep : List Cond := .code yX2_trackWithStep cX2_trackWithStep 4 (some (.object "PolyDrums$Track")) :: ([.methodLink RX2 68 yX2_existingTrack, .instanceMethod yX2_existingTrack, .selects RX2 yX2_existingTrack yX2_existingTrack, .initialized RX2, .code yX2_existingTrack cX2_existingTrack 3 (some (.object "PolyDrums$Track")), .classLink RX2 213 "java/lang/IndexOutOfBoundsException", .initialized "java/lang/IndexOutOfBoundsException", .methodLink RX2 146 yX2_trackOrNull, .instanceMethod yX2_trackOrNull, .selects RX2 yX2_trackOrNull yX2_trackOrNull, .code yX2_trackOrNull cX2_trackOrNull 2 (some (.object "PolyDrums$Track")), .fieldLink RX2 11 "PolyDrums" "tracks" "[LPolyDrums$Track;", .methodLink RX2 31 yX2_isWithin, .static yX2_isWithin, .code yX2_isWithin cX2_isWithin 3 (some .boolean), .methodLink RX2 61 yX2_checkIndex, .static yX2_checkIndex, .code yX2_checkIndex cX2_checkIndex 1 none] ++ wsX10 ++ wsX20 ++ (vx_atS RX2 217 "java/lang/IndexOutOfBoundsException" ["java/lang/RuntimeException", "java/lang/Exception"]).filter goodWord)
def wsX2_set_r1 : List Cond := [Cond.methodLink RX2 49 yX2_trackWithStep, Cond.instanceMethod yX2_trackWithStep, Cond.selects RX2 yX2_trackWithStep yX2_trackWithStep, Cond.initialized RX2, Cond.code yX2_trackWithStep cX2_trackWithStep 4 (some (.object "PolyDrums$Track")), Cond.methodLink RX2 68 yX2_existingTrack, Cond.instanceMethod yX2_existingTrack, Cond.selects RX2 yX2_existingTrack yX2_existingTrack, Cond.code yX2_existingTrack cX2_existingTrack 3 (some (.object "PolyDrums$Track")), Cond.classLink RX2 213 "java/lang/IndexOutOfBoundsException", Cond.initialized "java/lang/IndexOutOfBoundsException", Cond.methodLink RX2 146 yX2_trackOrNull, Cond.instanceMethod yX2_trackOrNull, Cond.selects RX2 yX2_trackOrNull yX2_trackOrNull, Cond.code yX2_trackOrNull cX2_trackOrNull 2 (some (.object "PolyDrums$Track")), Cond.fieldLink RX2 11 "PolyDrums" "tracks" "[LPolyDrums$Track;", Cond.methodLink RX2 31 yX2_isWithin, Cond.static yX2_isWithin, Cond.code yX2_isWithin cX2_isWithin 3 (some .boolean), Cond.methodLink RX2 61 yX2_checkIndex, Cond.static yX2_checkIndex, Cond.code yX2_checkIndex cX2_checkIndex 1 none, Cond.methodLink RX2 35 yX2_checkArgument, Cond.static yX2_checkArgument]
def wsX2_set_r2 : List Cond := [Cond.code yX2_checkArgument cX2_checkArgument 1 none, Cond.classLink RX2 208 "java/lang/IllegalArgumentException", Cond.initialized "java/lang/IllegalArgumentException", Cond.instanceMethod yX1_cell, Cond.initialized RX1, Cond.selects RX1 yX1_cell yX1_cell, Cond.code yX1_cell cX1_cell 3 (some .int), Cond.fieldLink RX1 31 "PolyDrums$Track" "cells" "[I", Cond.static yX2_read, Cond.code yX2_read cX2_read 2 (some .int), Cond.instanceMethod yX1_putCell, Cond.selects RX1 yX1_putCell yX1_putCell, Cond.code yX1_putCell cX1_putCell 4 none, Cond.static yX2_write, Cond.code yX2_write cX2_write 3 none]
def wsX2_set : List Cond := .code yX2_set cX2_set 7 (some .int) :: ((wsX2_set_r1 ++ wsX2_set_r2) ++ wsX10 ++ wsX20 ++ (vx_atS RX2 217 "java/lang/IndexOutOfBoundsException" ["java/lang/RuntimeException", "java/lang/Exception"]).filter goodWord ++ (vx_atS RX2 212 "java/lang/IllegalArgumentException" ["java/lang/RuntimeException", "java/lang/Exception"]).filter goodWord)
def wsX2_setTurn_r1 : List Cond := [Cond.methodLink RX2 49 yX2_trackWithStep, Cond.instanceMethod yX2_trackWithStep, Cond.selects RX2 yX2_trackWithStep yX2_trackWithStep, Cond.initialized RX2, Cond.code yX2_trackWithStep cX2_trackWithStep 4 (some (.object "PolyDrums$Track")), Cond.methodLink RX2 68 yX2_existingTrack, Cond.instanceMethod yX2_existingTrack, Cond.selects RX2 yX2_existingTrack yX2_existingTrack, Cond.code yX2_existingTrack cX2_existingTrack 3 (some (.object "PolyDrums$Track")), Cond.classLink RX2 213 "java/lang/IndexOutOfBoundsException", Cond.initialized "java/lang/IndexOutOfBoundsException", Cond.methodLink RX2 146 yX2_trackOrNull, Cond.instanceMethod yX2_trackOrNull, Cond.selects RX2 yX2_trackOrNull yX2_trackOrNull, Cond.code yX2_trackOrNull cX2_trackOrNull 2 (some (.object "PolyDrums$Track")), Cond.fieldLink RX2 11 "PolyDrums" "tracks" "[LPolyDrums$Track;", Cond.methodLink RX2 31 yX2_isWithin, Cond.static yX2_isWithin, Cond.code yX2_isWithin cX2_isWithin 3 (some .boolean), Cond.methodLink RX2 61 yX2_checkIndex, Cond.static yX2_checkIndex, Cond.code yX2_checkIndex cX2_checkIndex 1 none, Cond.methodLink RX2 35 yX2_checkArgument, Cond.static yX2_checkArgument]
def wsX2_setTurn_r2 : List Cond := [Cond.code yX2_checkArgument cX2_checkArgument 1 none, Cond.classLink RX2 208 "java/lang/IllegalArgumentException", Cond.initialized "java/lang/IllegalArgumentException", Cond.instanceMethod yX1_cell, Cond.initialized RX1, Cond.selects RX1 yX1_cell yX1_cell, Cond.code yX1_cell cX1_cell 3 (some .int), Cond.fieldLink RX1 31 "PolyDrums$Track" "cells" "[I", Cond.static yX2_read, Cond.code yX2_read cX2_read 2 (some .int), Cond.instanceMethod yX1_putCell, Cond.selects RX1 yX1_putCell yX1_putCell, Cond.code yX1_putCell cX1_putCell 4 none, Cond.static yX2_write, Cond.code yX2_write cX2_write 3 none]
def wsX2_setTurn : List Cond := .code yX2_setTurn cX2_setTurn 7 (some .int) :: ((wsX2_setTurn_r1 ++ wsX2_setTurn_r2) ++ wsX10 ++ wsX20 ++ (vx_atS RX2 217 "java/lang/IndexOutOfBoundsException" ["java/lang/RuntimeException", "java/lang/Exception"]).filter goodWord ++ (vx_atS RX2 212 "java/lang/IllegalArgumentException" ["java/lang/RuntimeException", "java/lang/Exception"]).filter goodWord)
def wsX2_step_r1 : List Cond := [Cond.methodLink RX2 49 yX2_trackWithStep, Cond.instanceMethod yX2_trackWithStep, Cond.selects RX2 yX2_trackWithStep yX2_trackWithStep, Cond.initialized RX2, Cond.code yX2_trackWithStep cX2_trackWithStep 4 (some (.object "PolyDrums$Track")), Cond.methodLink RX2 68 yX2_existingTrack, Cond.instanceMethod yX2_existingTrack, Cond.selects RX2 yX2_existingTrack yX2_existingTrack, Cond.code yX2_existingTrack cX2_existingTrack 3 (some (.object "PolyDrums$Track")), Cond.classLink RX2 213 "java/lang/IndexOutOfBoundsException", Cond.initialized "java/lang/IndexOutOfBoundsException", Cond.methodLink RX2 146 yX2_trackOrNull, Cond.instanceMethod yX2_trackOrNull, Cond.selects RX2 yX2_trackOrNull yX2_trackOrNull, Cond.code yX2_trackOrNull cX2_trackOrNull 2 (some (.object "PolyDrums$Track")), Cond.fieldLink RX2 11 "PolyDrums" "tracks" "[LPolyDrums$Track;", Cond.methodLink RX2 31 yX2_isWithin, Cond.static yX2_isWithin, Cond.code yX2_isWithin cX2_isWithin 3 (some .boolean), Cond.methodLink RX2 61 yX2_checkIndex, Cond.static yX2_checkIndex, Cond.code yX2_checkIndex cX2_checkIndex 1 none, Cond.instanceMethod yX1_delay, Cond.initialized RX1]
def wsX2_step_r2 : List Cond := [Cond.selects RX1 yX1_delay yX1_delay, Cond.code yX1_delay cX1_delay 2 (some .int), Cond.fieldLink RX1 9 "PolyDrums$Track" "swing" "I", Cond.instanceMethod yX1_cell, Cond.selects RX1 yX1_cell yX1_cell, Cond.code yX1_cell cX1_cell 3 (some .int), Cond.fieldLink RX1 31 "PolyDrums$Track" "cells" "[I", Cond.static yX2_read, Cond.code yX2_read cX2_read 2 (some .int)]
def wsX2_step : List Cond := .code yX2_step cX2_step 5 (some .int) :: ((wsX2_step_r1 ++ wsX2_step_r2) ++ wsX10 ++ wsX20 ++ (vx_atS RX2 217 "java/lang/IndexOutOfBoundsException" ["java/lang/RuntimeException", "java/lang/Exception"]).filter goodWord)
def wsX2_track_r1 : List Cond := [Cond.methodLink RX2 68 yX2_existingTrack, Cond.instanceMethod yX2_existingTrack, Cond.selects RX2 yX2_existingTrack yX2_existingTrack, Cond.initialized RX2, Cond.code yX2_existingTrack cX2_existingTrack 3 (some (.object "PolyDrums$Track")), Cond.classLink RX2 213 "java/lang/IndexOutOfBoundsException", Cond.initialized "java/lang/IndexOutOfBoundsException", Cond.methodLink RX2 146 yX2_trackOrNull, Cond.instanceMethod yX2_trackOrNull, Cond.selects RX2 yX2_trackOrNull yX2_trackOrNull, Cond.code yX2_trackOrNull cX2_trackOrNull 2 (some (.object "PolyDrums$Track")), Cond.fieldLink RX2 11 "PolyDrums" "tracks" "[LPolyDrums$Track;", Cond.methodLink RX2 31 yX2_isWithin, Cond.static yX2_isWithin, Cond.code yX2_isWithin cX2_isWithin 3 (some .boolean), Cond.methodLink RX2 61 yX2_checkIndex, Cond.static yX2_checkIndex, Cond.code yX2_checkIndex cX2_checkIndex 1 none, Cond.instanceMethod yX1_setting, Cond.initialized RX1, Cond.selects RX1 yX1_setting yX1_setting, Cond.code yX1_setting cX1_setting 2 (some .int), Cond.fieldLink RX1 38 "PolyDrums$Track" "steps" "I", Cond.fieldLink RX1 41 "PolyDrums$Track" "stepTicks" "I"]
def wsX2_track_r2 : List Cond := [Cond.fieldLink RX1 9 "PolyDrums$Track" "swing" "I", Cond.fieldLink RX1 15 "PolyDrums$Track" "ring" "I", Cond.fieldLink RX1 18 "PolyDrums$Track" "group" "I", Cond.fieldLink RX1 21 "PolyDrums$Track" "isMuted" "Z", Cond.fieldLink RX1 25 "PolyDrums$Track" "isSolo" "Z", Cond.fieldLink RX1 28 "PolyDrums$Track" "isAccent" "Z"]
def wsX2_track : List Cond := .code yX2_track cX2_track 4 (some .int) :: ((wsX2_track_r1 ++ wsX2_track_r2) ++ wsX20 ++ wsX10 ++ (vx_atS RX2 217 "java/lang/IndexOutOfBoundsException" ["java/lang/RuntimeException", "java/lang/Exception"]).filter goodWord)
def wsX2_tune : List Cond := .code yX2_tune cX2_tune 7 (some .int) :: ([.methodLink RX2 68 yX2_existingTrack, .instanceMethod yX2_existingTrack, .selects RX2 yX2_existingTrack yX2_existingTrack, .initialized RX2, .code yX2_existingTrack cX2_existingTrack 3 (some (.object "PolyDrums$Track")), .classLink RX2 213 "java/lang/IndexOutOfBoundsException", .initialized "java/lang/IndexOutOfBoundsException", .methodLink RX2 146 yX2_trackOrNull, .instanceMethod yX2_trackOrNull, .selects RX2 yX2_trackOrNull yX2_trackOrNull, .code yX2_trackOrNull cX2_trackOrNull 2 (some (.object "PolyDrums$Track")), .fieldLink RX2 11 "PolyDrums" "tracks" "[LPolyDrums$Track;", .methodLink RX2 31 yX2_isWithin, .static yX2_isWithin, .code yX2_isWithin cX2_isWithin 3 (some .boolean), .methodLink RX2 35 yX2_checkArgument, .static yX2_checkArgument, .code yX2_checkArgument cX2_checkArgument 1 none, .classLink RX2 208 "java/lang/IllegalArgumentException", .initialized "java/lang/IllegalArgumentException"] ++ wsX10 ++ wsX20 ++ (vx_atS RX2 217 "java/lang/IndexOutOfBoundsException" ["java/lang/RuntimeException", "java/lang/Exception"]).filter goodWord ++ (vx_atS RX2 212 "java/lang/IllegalArgumentException" ["java/lang/RuntimeException", "java/lang/Exception"]).filter goodWord)
def wsX2_turn_r1 : List Cond := [Cond.methodLink RX2 68 yX2_existingTrack, Cond.instanceMethod yX2_existingTrack, Cond.selects RX2 yX2_existingTrack yX2_existingTrack, Cond.initialized RX2, Cond.code yX2_existingTrack cX2_existingTrack 3 (some (.object "PolyDrums$Track")), Cond.classLink RX2 213 "java/lang/IndexOutOfBoundsException", Cond.initialized "java/lang/IndexOutOfBoundsException", Cond.methodLink RX2 146 yX2_trackOrNull, Cond.instanceMethod yX2_trackOrNull, Cond.selects RX2 yX2_trackOrNull yX2_trackOrNull, Cond.code yX2_trackOrNull cX2_trackOrNull 2 (some (.object "PolyDrums$Track")), Cond.fieldLink RX2 11 "PolyDrums" "tracks" "[LPolyDrums$Track;", Cond.methodLink RX2 31 yX2_isWithin, Cond.static yX2_isWithin, Cond.code yX2_isWithin cX2_isWithin 3 (some .boolean), Cond.methodLink RX2 61 yX2_checkIndex, Cond.static yX2_checkIndex, Cond.code yX2_checkIndex cX2_checkIndex 1 none, Cond.instanceMethod yX1_setting, Cond.initialized RX1, Cond.selects RX1 yX1_setting yX1_setting, Cond.code yX1_setting cX1_setting 2 (some .int), Cond.fieldLink RX1 38 "PolyDrums$Track" "steps" "I", Cond.fieldLink RX1 41 "PolyDrums$Track" "stepTicks" "I"]
def wsX2_turn_r2 : List Cond := [Cond.fieldLink RX1 9 "PolyDrums$Track" "swing" "I", Cond.fieldLink RX1 15 "PolyDrums$Track" "ring" "I", Cond.fieldLink RX1 18 "PolyDrums$Track" "group" "I", Cond.fieldLink RX1 21 "PolyDrums$Track" "isMuted" "Z", Cond.fieldLink RX1 25 "PolyDrums$Track" "isSolo" "Z", Cond.fieldLink RX1 28 "PolyDrums$Track" "isAccent" "Z", Cond.instanceMethod yX1_switchTo, Cond.selects RX1 yX1_switchTo yX1_switchTo, Cond.code yX1_switchTo cX1_switchTo 3 none]
def wsX2_turn : List Cond := .code yX2_turn cX2_turn 6 (some .boolean) :: ((wsX2_turn_r1 ++ wsX2_turn_r2) ++ wsX20 ++ wsX10 ++ (vx_atS RX2 217 "java/lang/IndexOutOfBoundsException" ["java/lang/RuntimeException", "java/lang/Exception"]).filter goodWord)
def wsX2_spread_r1 : List Cond := [Cond.methodLink RX2 68 yX2_existingTrack, Cond.instanceMethod yX2_existingTrack, Cond.selects RX2 yX2_existingTrack yX2_existingTrack, Cond.initialized RX2, Cond.code yX2_existingTrack cX2_existingTrack 3 (some (.object "PolyDrums$Track")), Cond.classLink RX2 213 "java/lang/IndexOutOfBoundsException", Cond.initialized "java/lang/IndexOutOfBoundsException", Cond.methodLink RX2 146 yX2_trackOrNull, Cond.instanceMethod yX2_trackOrNull, Cond.selects RX2 yX2_trackOrNull yX2_trackOrNull, Cond.code yX2_trackOrNull cX2_trackOrNull 2 (some (.object "PolyDrums$Track")), Cond.fieldLink RX2 11 "PolyDrums" "tracks" "[LPolyDrums$Track;", Cond.methodLink RX2 31 yX2_isWithin, Cond.static yX2_isWithin, Cond.code yX2_isWithin cX2_isWithin 3 (some .boolean), Cond.methodLink RX2 35 yX2_checkArgument, Cond.static yX2_checkArgument, Cond.code yX2_checkArgument cX2_checkArgument 1 none, Cond.classLink RX2 208 "java/lang/IllegalArgumentException", Cond.initialized "java/lang/IllegalArgumentException", Cond.instanceMethod yX1_spreadHits, Cond.initialized RX1, Cond.selects RX1 yX1_spreadHits yX1_spreadHits, Cond.code yX1_spreadHits cX1_spreadHits 6 (some .int)]
def wsX2_spread_r2 : List Cond := [Cond.fieldLink RX1 38 "PolyDrums$Track" "steps" "I", Cond.static yX2_rest, Cond.code yX2_rest cX2_rest 2 (some .int), Cond.methodLink RX1 44 yX1_clearStep, Cond.instanceMethod yX1_clearStep, Cond.selects RX1 yX1_clearStep yX1_clearStep, Cond.code yX1_clearStep cX1_clearStep 3 none, Cond.methodLink RX1 56 yX1_putCell, Cond.instanceMethod yX1_putCell, Cond.selects RX1 yX1_putCell yX1_putCell, Cond.code yX1_putCell cX1_putCell 4 none, Cond.fieldLink RX1 31 "PolyDrums$Track" "cells" "[I", Cond.static yX2_write, Cond.code yX2_write cX2_write 3 none]
def wsX2_spread : List Cond := .code yX2_spread cX2_spread 5 (some .int) :: ((wsX2_spread_r1 ++ wsX2_spread_r2) ++ wsX10 ++ wsX20 ++ (vx_atS RX2 217 "java/lang/IndexOutOfBoundsException" ["java/lang/RuntimeException", "java/lang/Exception"]).filter goodWord ++ (vx_atS RX2 212 "java/lang/IllegalArgumentException" ["java/lang/RuntimeException", "java/lang/Exception"]).filter goodWord)
def wsX2_rotate_r1 : List Cond := [Cond.methodLink RX2 68 yX2_existingTrack, Cond.instanceMethod yX2_existingTrack, Cond.selects RX2 yX2_existingTrack yX2_existingTrack, Cond.initialized RX2, Cond.code yX2_existingTrack cX2_existingTrack 3 (some (.object "PolyDrums$Track")), Cond.classLink RX2 213 "java/lang/IndexOutOfBoundsException", Cond.initialized "java/lang/IndexOutOfBoundsException", Cond.methodLink RX2 146 yX2_trackOrNull, Cond.instanceMethod yX2_trackOrNull, Cond.selects RX2 yX2_trackOrNull yX2_trackOrNull, Cond.code yX2_trackOrNull cX2_trackOrNull 2 (some (.object "PolyDrums$Track")), Cond.fieldLink RX2 11 "PolyDrums" "tracks" "[LPolyDrums$Track;", Cond.methodLink RX2 31 yX2_isWithin, Cond.static yX2_isWithin, Cond.code yX2_isWithin cX2_isWithin 3 (some .boolean), Cond.methodLink RX2 35 yX2_checkArgument, Cond.static yX2_checkArgument, Cond.code yX2_checkArgument cX2_checkArgument 1 none, Cond.classLink RX2 208 "java/lang/IllegalArgumentException", Cond.initialized "java/lang/IllegalArgumentException", Cond.instanceMethod yX1_moveSteps, Cond.initialized RX1, Cond.selects RX1 yX1_moveSteps yX1_moveSteps, Cond.code yX1_moveSteps cX1_moveSteps 3 none]
def wsX2_rotate_r2 : List Cond := [Cond.fieldLink RX1 31 "PolyDrums$Track" "cells" "[I", Cond.fieldLink RX1 35 "PolyDrums$Track" "spare" "[I", Cond.methodLink RX1 64 arraycopyName, Cond.native arraycopyName, Cond.static arraycopyName, Cond.initialized "java/lang/System", Cond.fieldLink RX1 38 "PolyDrums$Track" "steps" "I", Cond.static yX2_rest, Cond.code yX2_rest cX2_rest 2 (some .int), Cond.methodLink RX1 70 yX1_copyStep, Cond.instanceMethod yX1_copyStep, Cond.selects RX1 yX1_copyStep yX1_copyStep, Cond.code yX1_copyStep cX1_copyStep 5 none, Cond.static yX2_read, Cond.code yX2_read cX2_read 2 (some .int), Cond.methodLink RX1 56 yX1_putCell, Cond.instanceMethod yX1_putCell, Cond.selects RX1 yX1_putCell yX1_putCell, Cond.code yX1_putCell cX1_putCell 4 none, Cond.static yX2_write, Cond.code yX2_write cX2_write 3 none, Cond.instanceMethod yX1_stepsWithForce, Cond.selects RX1 yX1_stepsWithForce yX1_stepsWithForce, Cond.code yX1_stepsWithForce cX1_stepsWithForce 3 (some .int)]
def wsX2_rotate_r3 : List Cond := [Cond.methodLink RX1 73 yX1_cell, Cond.instanceMethod yX1_cell, Cond.selects RX1 yX1_cell yX1_cell, Cond.code yX1_cell cX1_cell 3 (some .int)]
def wsX2_rotate : List Cond := .code yX2_rotate cX2_rotate 4 (some .int) :: ((wsX2_rotate_r1 ++ (wsX2_rotate_r2 ++ wsX2_rotate_r3)) ++ wsX20 ++ wsX10 ++ (vx_atS RX2 217 "java/lang/IndexOutOfBoundsException" ["java/lang/RuntimeException", "java/lang/Exception"]).filter goodWord ++ (vx_atS RX2 212 "java/lang/IllegalArgumentException" ["java/lang/RuntimeException", "java/lang/Exception"]).filter goodWord)
def wsX2_stretch_r1 : List Cond := [Cond.methodLink RX2 68 yX2_existingTrack, Cond.instanceMethod yX2_existingTrack, Cond.selects RX2 yX2_existingTrack yX2_existingTrack, Cond.initialized RX2, Cond.code yX2_existingTrack cX2_existingTrack 3 (some (.object "PolyDrums$Track")), Cond.classLink RX2 213 "java/lang/IndexOutOfBoundsException", Cond.initialized "java/lang/IndexOutOfBoundsException", Cond.methodLink RX2 146 yX2_trackOrNull, Cond.instanceMethod yX2_trackOrNull, Cond.selects RX2 yX2_trackOrNull yX2_trackOrNull, Cond.code yX2_trackOrNull cX2_trackOrNull 2 (some (.object "PolyDrums$Track")), Cond.fieldLink RX2 11 "PolyDrums" "tracks" "[LPolyDrums$Track;", Cond.methodLink RX2 31 yX2_isWithin, Cond.static yX2_isWithin, Cond.code yX2_isWithin cX2_isWithin 3 (some .boolean), Cond.methodLink RX2 35 yX2_checkArgument, Cond.static yX2_checkArgument, Cond.code yX2_checkArgument cX2_checkArgument 1 none, Cond.classLink RX2 208 "java/lang/IllegalArgumentException", Cond.initialized "java/lang/IllegalArgumentException", Cond.instanceMethod yX1_resize, Cond.initialized RX1, Cond.selects RX1 yX1_resize yX1_resize, Cond.code yX1_resize cX1_resize 3 none]
def wsX2_stretch_r2 : List Cond := [Cond.fieldLink RX1 38 "PolyDrums$Track" "steps" "I", Cond.fieldLink RX1 31 "PolyDrums$Track" "cells" "[I", Cond.methodLink RX1 70 yX1_copyStep, Cond.instanceMethod yX1_copyStep, Cond.selects RX1 yX1_copyStep yX1_copyStep, Cond.code yX1_copyStep cX1_copyStep 5 none, Cond.static yX2_read, Cond.code yX2_read cX2_read 2 (some .int), Cond.methodLink RX1 56 yX1_putCell, Cond.instanceMethod yX1_putCell, Cond.selects RX1 yX1_putCell yX1_putCell, Cond.code yX1_putCell cX1_putCell 4 none, Cond.static yX2_write, Cond.code yX2_write cX2_write 3 none]
def wsX2_stretch : List Cond := .code yX2_stretch cX2_stretch 5 (some .int) :: ((wsX2_stretch_r1 ++ wsX2_stretch_r2) ++ wsX10 ++ wsX20 ++ (vx_atS RX2 217 "java/lang/IndexOutOfBoundsException" ["java/lang/RuntimeException", "java/lang/Exception"]).filter goodWord ++ (vx_atS RX2 212 "java/lang/IllegalArgumentException" ["java/lang/RuntimeException", "java/lang/Exception"]).filter goodWord)
def wsX2_isTick : List Cond := .code yX2_isTick cX2_isTick 1 (some .boolean) :: ([.constant RX2 155 (99999), .methodLink RX2 31 yX2_isWithin, .static yX2_isWithin, .initialized RX2, .code yX2_isWithin cX2_isWithin 3 (some .boolean)])
def wsX2_tap_r1 : List Cond := [Cond.methodLink RX2 68 yX2_existingTrack, Cond.instanceMethod yX2_existingTrack, Cond.selects RX2 yX2_existingTrack yX2_existingTrack, Cond.initialized RX2, Cond.code yX2_existingTrack cX2_existingTrack 3 (some (.object "PolyDrums$Track")), Cond.classLink RX2 213 "java/lang/IndexOutOfBoundsException", Cond.initialized "java/lang/IndexOutOfBoundsException", Cond.methodLink RX2 146 yX2_trackOrNull, Cond.instanceMethod yX2_trackOrNull, Cond.selects RX2 yX2_trackOrNull yX2_trackOrNull, Cond.code yX2_trackOrNull cX2_trackOrNull 2 (some (.object "PolyDrums$Track")), Cond.fieldLink RX2 11 "PolyDrums" "tracks" "[LPolyDrums$Track;", Cond.methodLink RX2 108 yX2_isTick, Cond.static yX2_isTick, Cond.code yX2_isTick cX2_isTick 1 (some .boolean), Cond.constant RX2 155 (99999), Cond.methodLink RX2 31 yX2_isWithin, Cond.static yX2_isWithin, Cond.code yX2_isWithin cX2_isWithin 3 (some .boolean), Cond.methodLink RX2 35 yX2_checkArgument, Cond.static yX2_checkArgument, Cond.code yX2_checkArgument cX2_checkArgument 1 none, Cond.classLink RX2 208 "java/lang/IllegalArgumentException", Cond.initialized "java/lang/IllegalArgumentException"]
def wsX2_tap_r2 : List Cond := [Cond.instanceMethod yX1_nearestStep, Cond.initialized RX1, Cond.selects RX1 yX1_nearestStep yX1_nearestStep, Cond.code yX1_nearestStep cX1_nearestStep 7 (some .int), Cond.methodLink RX1 80 Lib.Math.min.name, Cond.static Lib.Math.min.name, Cond.initialized "java/lang/Math", Cond.code Lib.Math.min.name Lib.Math.min.code 2 (some .int), Cond.fieldLink RX1 38 "PolyDrums$Track" "steps" "I", Cond.fieldLink RX1 41 "PolyDrums$Track" "stepTicks" "I", Cond.methodLink RX1 89 Lib.Math.abs.name, Cond.static Lib.Math.abs.name, Cond.code Lib.Math.abs.name Lib.Math.abs.code 1 (some .int), Cond.methodLink RX1 76 yX1_roundTicks, Cond.instanceMethod yX1_roundTicks, Cond.selects RX1 yX1_roundTicks yX1_roundTicks, Cond.code yX1_roundTicks cX1_roundTicks 1 (some .int), Cond.static yX2_rest, Cond.code yX2_rest cX2_rest 2 (some .int), Cond.methodLink RX1 85 yX1_delay, Cond.instanceMethod yX1_delay, Cond.selects RX1 yX1_delay yX1_delay, Cond.code yX1_delay cX1_delay 2 (some .int), Cond.fieldLink RX1 9 "PolyDrums$Track" "swing" "I"]
def wsX2_tap_r3 : List Cond := [Cond.instanceMethod yX1_putCell, Cond.selects RX1 yX1_putCell yX1_putCell, Cond.code yX1_putCell cX1_putCell 4 none, Cond.fieldLink RX1 31 "PolyDrums$Track" "cells" "[I", Cond.static yX2_write, Cond.code yX2_write cX2_write 3 none]
def wsX2_tap : List Cond := .code yX2_tap cX2_tap 6 (some .int) :: ((wsX2_tap_r1 ++ (wsX2_tap_r2 ++ wsX2_tap_r3)) ++ wsX20 ++ wsX10 ++ (vx_atS RX2 217 "java/lang/IndexOutOfBoundsException" ["java/lang/RuntimeException", "java/lang/Exception"]).filter goodWord ++ (vx_atS RX2 212 "java/lang/IllegalArgumentException" ["java/lang/RuntimeException", "java/lang/Exception"]).filter goodWord)
def wsX2_tracks : List Cond := .code yX2_tracks cX2_tracks 1 (some .int) :: ([.fieldLink RX2 15 "PolyDrums" "trackCount" "I"] ++ wsX20)
def wsX2_sectionOrNull : List Cond := .code yX2_sectionOrNull cX2_sectionOrNull 2 (some (.object "PolyDrums$Section")) :: ([.fieldLink RX2 21 "PolyDrums" "sections" "[LPolyDrums$Section;"] ++ wsX20)
def wsX2_songTicks : List Cond := .code yX2_songTicks cX2_songTicks 2 (some .int) :: ([.fieldLink RX2 25 "PolyDrums" "sectionCount" "I", .methodLink RX2 194 yX2_sectionOrNull, .instanceMethod yX2_sectionOrNull, .selects RX2 yX2_sectionOrNull yX2_sectionOrNull, .initialized RX2, .code yX2_sectionOrNull cX2_sectionOrNull 2 (some (.object "PolyDrums$Section")), .fieldLink RX2 21 "PolyDrums" "sections" "[LPolyDrums$Section;"] ++ wsX20 ++ wsX00)
def wsX2_addSection_r1 : List Cond := [Cond.classLink RX2 39 "java/lang/IllegalStateException", Cond.initialized "java/lang/IllegalStateException", Cond.fieldLink RX2 25 "PolyDrums" "sectionCount" "I", Cond.fieldLink RX2 21 "PolyDrums" "sections" "[LPolyDrums$Section;", Cond.classLink RX2 19 RX0, Cond.instantiable RX0 4, Cond.initialized RX0, Cond.methodLink RX2 31 yX2_isWithin, Cond.static yX2_isWithin, Cond.initialized RX2, Cond.code yX2_isWithin cX2_isWithin 3 (some .boolean), Cond.methodLink RX2 35 yX2_checkArgument, Cond.static yX2_checkArgument, Cond.code yX2_checkArgument cX2_checkArgument 1 none, Cond.classLink RX2 208 "java/lang/IllegalArgumentException", Cond.initialized "java/lang/IllegalArgumentException", Cond.methodLink RX2 117 yX2_songTicks, Cond.instanceMethod yX2_songTicks, Cond.selects RX2 yX2_songTicks yX2_songTicks, Cond.code yX2_songTicks cX2_songTicks 2 (some .int), Cond.methodLink RX2 194 yX2_sectionOrNull, Cond.instanceMethod yX2_sectionOrNull, Cond.selects RX2 yX2_sectionOrNull yX2_sectionOrNull, Cond.code yX2_sectionOrNull cX2_sectionOrNull 2 (some (.object "PolyDrums$Section"))]
def wsX2_addSection_r2 : List Cond := [Cond.instanceMethod yX0_init, Cond.code yX0_init cX0_init 5 none, Cond.methodLink RX0 1 objectInit, Cond.instanceMethod objectInit, Cond.code objectInit ⟨#[0xb1]⟩ 1 none, Cond.fieldLink RX0 7 "PolyDrums$Section" "begin" "I", Cond.fieldLink RX0 13 "PolyDrums$Section" "length" "I", Cond.fieldLink RX0 16 "PolyDrums$Section" "set" "I", Cond.fieldLink RX0 19 "PolyDrums$Section" "isNew" "Z"]
def wsX2_addSection : List Cond := .code yX2_addSection cX2_addSection 5 (some .int) :: ((wsX2_addSection_r1 ++ wsX2_addSection_r2) ++ wsX20 ++ wsX00 ++ (vx_atS RX2 43 "java/lang/IllegalStateException" ["java/lang/RuntimeException", "java/lang/Exception"]).filter goodWord ++ (vx_atS RX2 212 "java/lang/IllegalArgumentException" ["java/lang/RuntimeException", "java/lang/Exception"]).filter goodWord)
def wsX2_dropSection : List Cond := .code yX2_dropSection cX2_dropSection 2 (some .int) :: ([.classLink RX2 39 "java/lang/IllegalStateException", .initialized "java/lang/IllegalStateException", .fieldLink RX2 25 "PolyDrums" "sectionCount" "I", .fieldLink RX2 21 "PolyDrums" "sections" "[LPolyDrums$Section;"] ++ wsX20 ++ (vx_atS RX2 43 "java/lang/IllegalStateException" ["java/lang/RuntimeException", "java/lang/Exception"]).filter goodWord)
def wsX2_sectionNumber : List Cond := .code yX2_sectionNumber cX2_sectionNumber 4 (some .int) :: ([.fieldLink RX2 25 "PolyDrums" "sectionCount" "I", .methodLink RX2 194 yX2_sectionOrNull, .instanceMethod yX2_sectionOrNull, .selects RX2 yX2_sectionOrNull yX2_sectionOrNull, .initialized RX2, .code yX2_sectionOrNull cX2_sectionOrNull 2 (some (.object "PolyDrums$Section")), .fieldLink RX2 21 "PolyDrums" "sections" "[LPolyDrums$Section;"] ++ wsX20 ++ wsX00)
def wsX2_sectionAt : List Cond := .code yX2_sectionAt cX2_sectionAt 2 (some .int) :: ([.methodLink RX2 108 yX2_isTick, .static yX2_isTick, .initialized RX2, .code yX2_isTick cX2_isTick 1 (some .boolean), .constant RX2 155 (99999), .methodLink RX2 31 yX2_isWithin, .static yX2_isWithin, .code yX2_isWithin cX2_isWithin 3 (some .boolean), .methodLink RX2 35 yX2_checkArgument, .static yX2_checkArgument, .code yX2_checkArgument cX2_checkArgument 1 none, .classLink RX2 208 "java/lang/IllegalArgumentException", .initialized "java/lang/IllegalArgumentException", .methodLink RX2 125 yX2_sectionNumber, .instanceMethod yX2_sectionNumber, .selects RX2 yX2_sectionNumber yX2_sectionNumber, .code yX2_sectionNumber cX2_sectionNumber 4 (some .int), .fieldLink RX2 25 "PolyDrums" "sectionCount" "I", .methodLink RX2 194 yX2_sectionOrNull, .instanceMethod yX2_sectionOrNull, .selects RX2 yX2_sectionOrNull yX2_sectionOrNull, .code yX2_sectionOrNull cX2_sectionOrNull 2 (some (.object "PolyDrums$Section")), .fieldLink RX2 21 "PolyDrums" "sections" "[LPolyDrums$Section;"] ++ wsX20 ++ wsX00 ++ (vx_atS RX2 212 "java/lang/IllegalArgumentException" ["java/lang/RuntimeException", "java/lang/Exception"]).filter goodWord)
def wsX2_length : List Cond := .code yX2_length cX2_length 1 (some .int) :: ([.methodLink RX2 117 yX2_songTicks, .instanceMethod yX2_songTicks, .selects RX2 yX2_songTicks yX2_songTicks, .initialized RX2, .code yX2_songTicks cX2_songTicks 2 (some .int), .fieldLink RX2 25 "PolyDrums" "sectionCount" "I", .methodLink RX2 194 yX2_sectionOrNull, .instanceMethod yX2_sectionOrNull, .selects RX2 yX2_sectionOrNull yX2_sectionOrNull, .code yX2_sectionOrNull cX2_sectionOrNull 2 (some (.object "PolyDrums$Section")), .fieldLink RX2 21 "PolyDrums" "sections" "[LPolyDrums$Section;"] ++ wsX20 ++ wsX00)
def wsX2_isAnySolo : List Cond := .code yX2_isAnySolo cX2_isAnySolo 3 (some .boolean) :: ([.fieldLink RX2 15 "PolyDrums" "trackCount" "I", .methodLink RX2 146 yX2_trackOrNull, .instanceMethod yX2_trackOrNull, .selects RX2 yX2_trackOrNull yX2_trackOrNull, .initialized RX2, .code yX2_trackOrNull cX2_trackOrNull 2 (some (.object "PolyDrums$Track")), .fieldLink RX2 11 "PolyDrums" "tracks" "[LPolyDrums$Track;"] ++ wsX20 ++ wsX10)
def wsX2_isSilenced : List Cond := .code yX2_isSilenced cX2_isSilenced 2 (some .boolean) :: ([.methodLink RX2 229 yX2_isAnySolo, .instanceMethod yX2_isAnySolo, .selects RX2 yX2_isAnySolo yX2_isAnySolo, .initialized RX2, .code yX2_isAnySolo cX2_isAnySolo 3 (some .boolean), .fieldLink RX2 15 "PolyDrums" "trackCount" "I", .methodLink RX2 146 yX2_trackOrNull, .instanceMethod yX2_trackOrNull, .selects RX2 yX2_trackOrNull yX2_trackOrNull, .code yX2_trackOrNull cX2_trackOrNull 2 (some (.object "PolyDrums$Track")), .fieldLink RX2 11 "PolyDrums" "tracks" "[LPolyDrums$Track;"] ++ wsX10 ++ wsX20)
def wsX2_isInSet : List Cond := .code yX2_isInSet cX2_isInSet 2 (some .boolean) :: ([])
def wsX2_localTime : List Cond := .code yX2_localTime cX2_localTime 4 (some .int) :: ([.fieldLink RX2 25 "PolyDrums" "sectionCount" "I", .methodLink RX2 125 yX2_sectionNumber, .instanceMethod yX2_sectionNumber, .selects RX2 yX2_sectionNumber yX2_sectionNumber, .initialized RX2, .code yX2_sectionNumber cX2_sectionNumber 4 (some .int), .methodLink RX2 194 yX2_sectionOrNull, .instanceMethod yX2_sectionOrNull, .selects RX2 yX2_sectionOrNull yX2_sectionOrNull, .code yX2_sectionOrNull cX2_sectionOrNull 2 (some (.object "PolyDrums$Section")), .fieldLink RX2 21 "PolyDrums" "sections" "[LPolyDrums$Section;", .methodLink RX2 149 yX2_isInSet, .static yX2_isInSet, .code yX2_isInSet cX2_isInSet 2 (some .boolean)] ++ wsX20 ++ wsX00)
def wsX2_struckForce_r1 : List Cond := [Cond.methodLink RX2 146 yX2_trackOrNull, Cond.instanceMethod yX2_trackOrNull, Cond.selects RX2 yX2_trackOrNull yX2_trackOrNull, Cond.initialized RX2, Cond.code yX2_trackOrNull cX2_trackOrNull 2 (some (.object "PolyDrums$Track")), Cond.fieldLink RX2 11 "PolyDrums" "tracks" "[LPolyDrums$Track;", Cond.methodLink RX2 233 yX2_isSilenced, Cond.instanceMethod yX2_isSilenced, Cond.selects RX2 yX2_isSilenced yX2_isSilenced, Cond.code yX2_isSilenced cX2_isSilenced 2 (some .boolean), Cond.methodLink RX2 229 yX2_isAnySolo, Cond.instanceMethod yX2_isAnySolo, Cond.selects RX2 yX2_isAnySolo yX2_isAnySolo, Cond.code yX2_isAnySolo cX2_isAnySolo 3 (some .boolean), Cond.fieldLink RX2 15 "PolyDrums" "trackCount" "I", Cond.methodLink RX2 237 yX2_localTime, Cond.instanceMethod yX2_localTime, Cond.selects RX2 yX2_localTime yX2_localTime, Cond.code yX2_localTime cX2_localTime 4 (some .int), Cond.fieldLink RX2 25 "PolyDrums" "sectionCount" "I", Cond.methodLink RX2 125 yX2_sectionNumber, Cond.instanceMethod yX2_sectionNumber, Cond.selects RX2 yX2_sectionNumber yX2_sectionNumber, Cond.code yX2_sectionNumber cX2_sectionNumber 4 (some .int)]
def wsX2_struckForce_r2 : List Cond := [Cond.methodLink RX2 194 yX2_sectionOrNull, Cond.instanceMethod yX2_sectionOrNull, Cond.selects RX2 yX2_sectionOrNull yX2_sectionOrNull, Cond.code yX2_sectionOrNull cX2_sectionOrNull 2 (some (.object "PolyDrums$Section")), Cond.fieldLink RX2 21 "PolyDrums" "sections" "[LPolyDrums$Section;", Cond.methodLink RX2 149 yX2_isInSet, Cond.static yX2_isInSet, Cond.code yX2_isInSet cX2_isInSet 2 (some .boolean), Cond.instanceMethod yX1_forceAt, Cond.initialized RX1, Cond.selects RX1 yX1_forceAt yX1_forceAt, Cond.code yX1_forceAt cX1_forceAt 8 (some .int), Cond.fieldLink RX1 41 "PolyDrums$Track" "stepTicks" "I", Cond.methodLink RX1 76 yX1_roundTicks, Cond.instanceMethod yX1_roundTicks, Cond.selects RX1 yX1_roundTicks yX1_roundTicks, Cond.code yX1_roundTicks cX1_roundTicks 1 (some .int), Cond.fieldLink RX1 38 "PolyDrums$Track" "steps" "I", Cond.static yX2_quotient, Cond.code yX2_quotient cX2_quotient 2 (some .int), Cond.static yX2_rest, Cond.code yX2_rest cX2_rest 2 (some .int), Cond.methodLink RX1 73 yX1_cell, Cond.instanceMethod yX1_cell]
def wsX2_struckForce_r3 : List Cond := [Cond.selects RX1 yX1_cell yX1_cell, Cond.code yX1_cell cX1_cell 3 (some .int), Cond.fieldLink RX1 31 "PolyDrums$Track" "cells" "[I", Cond.static yX2_read, Cond.code yX2_read cX2_read 2 (some .int), Cond.methodLink RX1 85 yX1_delay, Cond.instanceMethod yX1_delay, Cond.selects RX1 yX1_delay yX1_delay, Cond.code yX1_delay cX1_delay 2 (some .int), Cond.fieldLink RX1 9 "PolyDrums$Track" "swing" "I", Cond.methodLink RX1 95 yX1_isStroke, Cond.static yX1_isStroke, Cond.code yX1_isStroke cX1_isStroke 4 (some .boolean)]
def wsX2_struckForce : List Cond := .code yX2_struckForce cX2_struckForce 5 (some .int) :: ((wsX2_struckForce_r1 ++ (wsX2_struckForce_r2 ++ wsX2_struckForce_r3)) ++ wsX20 ++ wsX10 ++ wsX00)
def wsX2_makesHit_r1 : List Cond := [Cond.methodLink RX2 146 yX2_trackOrNull, Cond.instanceMethod yX2_trackOrNull, Cond.selects RX2 yX2_trackOrNull yX2_trackOrNull, Cond.initialized RX2, Cond.code yX2_trackOrNull cX2_trackOrNull 2 (some (.object "PolyDrums$Track")), Cond.fieldLink RX2 11 "PolyDrums" "tracks" "[LPolyDrums$Track;", Cond.methodLink RX2 132 yX2_struckForce, Cond.instanceMethod yX2_struckForce, Cond.selects RX2 yX2_struckForce yX2_struckForce, Cond.code yX2_struckForce cX2_struckForce 5 (some .int), Cond.methodLink RX2 233 yX2_isSilenced, Cond.instanceMethod yX2_isSilenced, Cond.selects RX2 yX2_isSilenced yX2_isSilenced, Cond.code yX2_isSilenced cX2_isSilenced 2 (some .boolean), Cond.methodLink RX2 229 yX2_isAnySolo, Cond.instanceMethod yX2_isAnySolo, Cond.selects RX2 yX2_isAnySolo yX2_isAnySolo, Cond.code yX2_isAnySolo cX2_isAnySolo 3 (some .boolean), Cond.fieldLink RX2 15 "PolyDrums" "trackCount" "I", Cond.methodLink RX2 237 yX2_localTime, Cond.instanceMethod yX2_localTime, Cond.selects RX2 yX2_localTime yX2_localTime, Cond.code yX2_localTime cX2_localTime 4 (some .int), Cond.fieldLink RX2 25 "PolyDrums" "sectionCount" "I"]
def wsX2_makesHit_r2 : List Cond := [Cond.methodLink RX2 125 yX2_sectionNumber, Cond.instanceMethod yX2_sectionNumber, Cond.selects RX2 yX2_sectionNumber yX2_sectionNumber, Cond.code yX2_sectionNumber cX2_sectionNumber 4 (some .int), Cond.methodLink RX2 194 yX2_sectionOrNull, Cond.instanceMethod yX2_sectionOrNull, Cond.selects RX2 yX2_sectionOrNull yX2_sectionOrNull, Cond.code yX2_sectionOrNull cX2_sectionOrNull 2 (some (.object "PolyDrums$Section")), Cond.fieldLink RX2 21 "PolyDrums" "sections" "[LPolyDrums$Section;", Cond.methodLink RX2 149 yX2_isInSet, Cond.static yX2_isInSet, Cond.code yX2_isInSet cX2_isInSet 2 (some .boolean), Cond.instanceMethod yX1_forceAt, Cond.initialized RX1, Cond.selects RX1 yX1_forceAt yX1_forceAt, Cond.code yX1_forceAt cX1_forceAt 8 (some .int), Cond.fieldLink RX1 41 "PolyDrums$Track" "stepTicks" "I", Cond.methodLink RX1 76 yX1_roundTicks, Cond.instanceMethod yX1_roundTicks, Cond.selects RX1 yX1_roundTicks yX1_roundTicks, Cond.code yX1_roundTicks cX1_roundTicks 1 (some .int), Cond.fieldLink RX1 38 "PolyDrums$Track" "steps" "I", Cond.static yX2_quotient, Cond.code yX2_quotient cX2_quotient 2 (some .int)]
def wsX2_makesHit_r3 : List Cond := [Cond.static yX2_rest, Cond.code yX2_rest cX2_rest 2 (some .int), Cond.methodLink RX1 73 yX1_cell, Cond.instanceMethod yX1_cell, Cond.selects RX1 yX1_cell yX1_cell, Cond.code yX1_cell cX1_cell 3 (some .int), Cond.fieldLink RX1 31 "PolyDrums$Track" "cells" "[I", Cond.static yX2_read, Cond.code yX2_read cX2_read 2 (some .int), Cond.methodLink RX1 85 yX1_delay, Cond.instanceMethod yX1_delay, Cond.selects RX1 yX1_delay yX1_delay, Cond.code yX1_delay cX1_delay 2 (some .int), Cond.fieldLink RX1 9 "PolyDrums$Track" "swing" "I", Cond.methodLink RX1 95 yX1_isStroke, Cond.static yX1_isStroke, Cond.code yX1_isStroke cX1_isStroke 4 (some .boolean)]
def wsX2_makesHit : List Cond := .code yX2_makesHit cX2_makesHit 4 (some .boolean) :: ((wsX2_makesHit_r1 ++ (wsX2_makesHit_r2 ++ wsX2_makesHit_r3)) ++ wsX10 ++ wsX20 ++ wsX00)
def wsX2_accentForce_r1 : List Cond := [Cond.fieldLink RX2 15 "PolyDrums" "trackCount" "I", Cond.methodLink RX2 146 yX2_trackOrNull, Cond.instanceMethod yX2_trackOrNull, Cond.selects RX2 yX2_trackOrNull yX2_trackOrNull, Cond.initialized RX2, Cond.code yX2_trackOrNull cX2_trackOrNull 2 (some (.object "PolyDrums$Track")), Cond.fieldLink RX2 11 "PolyDrums" "tracks" "[LPolyDrums$Track;", Cond.methodLink RX2 132 yX2_struckForce, Cond.instanceMethod yX2_struckForce, Cond.selects RX2 yX2_struckForce yX2_struckForce, Cond.code yX2_struckForce cX2_struckForce 5 (some .int), Cond.methodLink RX2 233 yX2_isSilenced, Cond.instanceMethod yX2_isSilenced, Cond.selects RX2 yX2_isSilenced yX2_isSilenced, Cond.code yX2_isSilenced cX2_isSilenced 2 (some .boolean), Cond.methodLink RX2 229 yX2_isAnySolo, Cond.instanceMethod yX2_isAnySolo, Cond.selects RX2 yX2_isAnySolo yX2_isAnySolo, Cond.code yX2_isAnySolo cX2_isAnySolo 3 (some .boolean), Cond.methodLink RX2 237 yX2_localTime, Cond.instanceMethod yX2_localTime, Cond.selects RX2 yX2_localTime yX2_localTime, Cond.code yX2_localTime cX2_localTime 4 (some .int), Cond.fieldLink RX2 25 "PolyDrums" "sectionCount" "I"]
def wsX2_accentForce_r2 : List Cond := [Cond.methodLink RX2 125 yX2_sectionNumber, Cond.instanceMethod yX2_sectionNumber, Cond.selects RX2 yX2_sectionNumber yX2_sectionNumber, Cond.code yX2_sectionNumber cX2_sectionNumber 4 (some .int), Cond.methodLink RX2 194 yX2_sectionOrNull, Cond.instanceMethod yX2_sectionOrNull, Cond.selects RX2 yX2_sectionOrNull yX2_sectionOrNull, Cond.code yX2_sectionOrNull cX2_sectionOrNull 2 (some (.object "PolyDrums$Section")), Cond.fieldLink RX2 21 "PolyDrums" "sections" "[LPolyDrums$Section;", Cond.methodLink RX2 149 yX2_isInSet, Cond.static yX2_isInSet, Cond.code yX2_isInSet cX2_isInSet 2 (some .boolean), Cond.instanceMethod yX1_forceAt, Cond.initialized RX1, Cond.selects RX1 yX1_forceAt yX1_forceAt, Cond.code yX1_forceAt cX1_forceAt 8 (some .int), Cond.fieldLink RX1 41 "PolyDrums$Track" "stepTicks" "I", Cond.methodLink RX1 76 yX1_roundTicks, Cond.instanceMethod yX1_roundTicks, Cond.selects RX1 yX1_roundTicks yX1_roundTicks, Cond.code yX1_roundTicks cX1_roundTicks 1 (some .int), Cond.fieldLink RX1 38 "PolyDrums$Track" "steps" "I", Cond.static yX2_quotient, Cond.code yX2_quotient cX2_quotient 2 (some .int)]
def wsX2_accentForce_r3 : List Cond := [Cond.static yX2_rest, Cond.code yX2_rest cX2_rest 2 (some .int), Cond.methodLink RX1 73 yX1_cell, Cond.instanceMethod yX1_cell, Cond.selects RX1 yX1_cell yX1_cell, Cond.code yX1_cell cX1_cell 3 (some .int), Cond.fieldLink RX1 31 "PolyDrums$Track" "cells" "[I", Cond.static yX2_read, Cond.code yX2_read cX2_read 2 (some .int), Cond.methodLink RX1 85 yX1_delay, Cond.instanceMethod yX1_delay, Cond.selects RX1 yX1_delay yX1_delay, Cond.code yX1_delay cX1_delay 2 (some .int), Cond.fieldLink RX1 9 "PolyDrums$Track" "swing" "I", Cond.methodLink RX1 95 yX1_isStroke, Cond.static yX1_isStroke, Cond.code yX1_isStroke cX1_isStroke 4 (some .boolean)]
def wsX2_accentForce : List Cond := .code yX2_accentForce cX2_accentForce 5 (some .int) :: ((wsX2_accentForce_r1 ++ (wsX2_accentForce_r2 ++ wsX2_accentForce_r3)) ++ wsX20 ++ wsX10 ++ wsX00)
def wsX2_loudness_r1 : List Cond := [Cond.methodLink RX2 138 Lib.Math.min.name, Cond.static Lib.Math.min.name, Cond.initialized "java/lang/Math", Cond.code Lib.Math.min.name Lib.Math.min.code 2 (some .int), Cond.methodLink RX2 68 yX2_existingTrack, Cond.instanceMethod yX2_existingTrack, Cond.selects RX2 yX2_existingTrack yX2_existingTrack, Cond.initialized RX2, Cond.code yX2_existingTrack cX2_existingTrack 3 (some (.object "PolyDrums$Track")), Cond.classLink RX2 213 "java/lang/IndexOutOfBoundsException", Cond.initialized "java/lang/IndexOutOfBoundsException", Cond.methodLink RX2 146 yX2_trackOrNull, Cond.instanceMethod yX2_trackOrNull, Cond.selects RX2 yX2_trackOrNull yX2_trackOrNull, Cond.code yX2_trackOrNull cX2_trackOrNull 2 (some (.object "PolyDrums$Track")), Cond.fieldLink RX2 11 "PolyDrums" "tracks" "[LPolyDrums$Track;", Cond.methodLink RX2 108 yX2_isTick, Cond.static yX2_isTick, Cond.code yX2_isTick cX2_isTick 1 (some .boolean), Cond.constant RX2 155 (99999), Cond.methodLink RX2 31 yX2_isWithin, Cond.static yX2_isWithin, Cond.code yX2_isWithin cX2_isWithin 3 (some .boolean), Cond.methodLink RX2 35 yX2_checkArgument]
def wsX2_loudness_r2 : List Cond := [Cond.static yX2_checkArgument, Cond.code yX2_checkArgument cX2_checkArgument 1 none, Cond.classLink RX2 208 "java/lang/IllegalArgumentException", Cond.initialized "java/lang/IllegalArgumentException", Cond.methodLink RX2 128 yX2_makesHit, Cond.instanceMethod yX2_makesHit, Cond.selects RX2 yX2_makesHit yX2_makesHit, Cond.code yX2_makesHit cX2_makesHit 4 (some .boolean), Cond.methodLink RX2 132 yX2_struckForce, Cond.instanceMethod yX2_struckForce, Cond.selects RX2 yX2_struckForce yX2_struckForce, Cond.code yX2_struckForce cX2_struckForce 5 (some .int), Cond.methodLink RX2 233 yX2_isSilenced, Cond.instanceMethod yX2_isSilenced, Cond.selects RX2 yX2_isSilenced yX2_isSilenced, Cond.code yX2_isSilenced cX2_isSilenced 2 (some .boolean), Cond.methodLink RX2 229 yX2_isAnySolo, Cond.instanceMethod yX2_isAnySolo, Cond.selects RX2 yX2_isAnySolo yX2_isAnySolo, Cond.code yX2_isAnySolo cX2_isAnySolo 3 (some .boolean), Cond.fieldLink RX2 15 "PolyDrums" "trackCount" "I", Cond.methodLink RX2 237 yX2_localTime, Cond.instanceMethod yX2_localTime, Cond.selects RX2 yX2_localTime yX2_localTime]
def wsX2_loudness_r3 : List Cond := [Cond.code yX2_localTime cX2_localTime 4 (some .int), Cond.fieldLink RX2 25 "PolyDrums" "sectionCount" "I", Cond.methodLink RX2 125 yX2_sectionNumber, Cond.instanceMethod yX2_sectionNumber, Cond.selects RX2 yX2_sectionNumber yX2_sectionNumber, Cond.code yX2_sectionNumber cX2_sectionNumber 4 (some .int), Cond.methodLink RX2 194 yX2_sectionOrNull, Cond.instanceMethod yX2_sectionOrNull, Cond.selects RX2 yX2_sectionOrNull yX2_sectionOrNull, Cond.code yX2_sectionOrNull cX2_sectionOrNull 2 (some (.object "PolyDrums$Section")), Cond.fieldLink RX2 21 "PolyDrums" "sections" "[LPolyDrums$Section;", Cond.methodLink RX2 149 yX2_isInSet, Cond.static yX2_isInSet, Cond.code yX2_isInSet cX2_isInSet 2 (some .boolean), Cond.instanceMethod yX1_forceAt, Cond.initialized RX1, Cond.selects RX1 yX1_forceAt yX1_forceAt, Cond.code yX1_forceAt cX1_forceAt 8 (some .int), Cond.fieldLink RX1 41 "PolyDrums$Track" "stepTicks" "I", Cond.methodLink RX1 76 yX1_roundTicks, Cond.instanceMethod yX1_roundTicks, Cond.selects RX1 yX1_roundTicks yX1_roundTicks, Cond.code yX1_roundTicks cX1_roundTicks 1 (some .int), Cond.fieldLink RX1 38 "PolyDrums$Track" "steps" "I"]
def wsX2_loudness_r4 : List Cond := [Cond.static yX2_quotient, Cond.code yX2_quotient cX2_quotient 2 (some .int), Cond.static yX2_rest, Cond.code yX2_rest cX2_rest 2 (some .int), Cond.methodLink RX1 73 yX1_cell, Cond.instanceMethod yX1_cell, Cond.selects RX1 yX1_cell yX1_cell, Cond.code yX1_cell cX1_cell 3 (some .int), Cond.fieldLink RX1 31 "PolyDrums$Track" "cells" "[I", Cond.static yX2_read, Cond.code yX2_read cX2_read 2 (some .int), Cond.methodLink RX1 85 yX1_delay, Cond.instanceMethod yX1_delay, Cond.selects RX1 yX1_delay yX1_delay, Cond.code yX1_delay cX1_delay 2 (some .int), Cond.fieldLink RX1 9 "PolyDrums$Track" "swing" "I", Cond.methodLink RX1 95 yX1_isStroke, Cond.static yX1_isStroke, Cond.code yX1_isStroke cX1_isStroke 4 (some .boolean), Cond.methodLink RX2 135 yX2_accentForce, Cond.instanceMethod yX2_accentForce, Cond.selects RX2 yX2_accentForce yX2_accentForce, Cond.code yX2_accentForce cX2_accentForce 5 (some .int)]
def wsX2_loudness : List Cond := .code yX2_loudness cX2_loudness 3 (some .int) :: ((wsX2_loudness_r1 ++ (wsX2_loudness_r2 ++ (wsX2_loudness_r3 ++ wsX2_loudness_r4))) ++ wsX20 ++ wsX10 ++ wsX00 ++ (vx_atS RX2 217 "java/lang/IndexOutOfBoundsException" ["java/lang/RuntimeException", "java/lang/Exception"]).filter goodWord ++ (vx_atS RX2 212 "java/lang/IllegalArgumentException" ["java/lang/RuntimeException", "java/lang/Exception"]).filter goodWord)
def wsX2_hitSet_r1 : List Cond := [Cond.fieldLink RX2 15 "PolyDrums" "trackCount" "I", Cond.methodLink RX2 128 yX2_makesHit, Cond.instanceMethod yX2_makesHit, Cond.selects RX2 yX2_makesHit yX2_makesHit, Cond.initialized RX2, Cond.code yX2_makesHit cX2_makesHit 4 (some .boolean), Cond.methodLink RX2 146 yX2_trackOrNull, Cond.instanceMethod yX2_trackOrNull, Cond.selects RX2 yX2_trackOrNull yX2_trackOrNull, Cond.code yX2_trackOrNull cX2_trackOrNull 2 (some (.object "PolyDrums$Track")), Cond.fieldLink RX2 11 "PolyDrums" "tracks" "[LPolyDrums$Track;", Cond.methodLink RX2 132 yX2_struckForce, Cond.instanceMethod yX2_struckForce, Cond.selects RX2 yX2_struckForce yX2_struckForce, Cond.code yX2_struckForce cX2_struckForce 5 (some .int), Cond.methodLink RX2 233 yX2_isSilenced, Cond.instanceMethod yX2_isSilenced, Cond.selects RX2 yX2_isSilenced yX2_isSilenced, Cond.code yX2_isSilenced cX2_isSilenced 2 (some .boolean), Cond.methodLink RX2 229 yX2_isAnySolo, Cond.instanceMethod yX2_isAnySolo, Cond.selects RX2 yX2_isAnySolo yX2_isAnySolo, Cond.code yX2_isAnySolo cX2_isAnySolo 3 (some .boolean), Cond.methodLink RX2 237 yX2_localTime]
def wsX2_hitSet_r2 : List Cond := [Cond.instanceMethod yX2_localTime, Cond.selects RX2 yX2_localTime yX2_localTime, Cond.code yX2_localTime cX2_localTime 4 (some .int), Cond.fieldLink RX2 25 "PolyDrums" "sectionCount" "I", Cond.methodLink RX2 125 yX2_sectionNumber, Cond.instanceMethod yX2_sectionNumber, Cond.selects RX2 yX2_sectionNumber yX2_sectionNumber, Cond.code yX2_sectionNumber cX2_sectionNumber 4 (some .int), Cond.methodLink RX2 194 yX2_sectionOrNull, Cond.instanceMethod yX2_sectionOrNull, Cond.selects RX2 yX2_sectionOrNull yX2_sectionOrNull, Cond.code yX2_sectionOrNull cX2_sectionOrNull 2 (some (.object "PolyDrums$Section")), Cond.fieldLink RX2 21 "PolyDrums" "sections" "[LPolyDrums$Section;", Cond.methodLink RX2 149 yX2_isInSet, Cond.static yX2_isInSet, Cond.code yX2_isInSet cX2_isInSet 2 (some .boolean), Cond.instanceMethod yX1_forceAt, Cond.initialized RX1, Cond.selects RX1 yX1_forceAt yX1_forceAt, Cond.code yX1_forceAt cX1_forceAt 8 (some .int), Cond.fieldLink RX1 41 "PolyDrums$Track" "stepTicks" "I", Cond.methodLink RX1 76 yX1_roundTicks, Cond.instanceMethod yX1_roundTicks, Cond.selects RX1 yX1_roundTicks yX1_roundTicks]
def wsX2_hitSet_r3 : List Cond := [Cond.code yX1_roundTicks cX1_roundTicks 1 (some .int), Cond.fieldLink RX1 38 "PolyDrums$Track" "steps" "I", Cond.static yX2_quotient, Cond.code yX2_quotient cX2_quotient 2 (some .int), Cond.static yX2_rest, Cond.code yX2_rest cX2_rest 2 (some .int), Cond.methodLink RX1 73 yX1_cell, Cond.instanceMethod yX1_cell, Cond.selects RX1 yX1_cell yX1_cell, Cond.code yX1_cell cX1_cell 3 (some .int), Cond.fieldLink RX1 31 "PolyDrums$Track" "cells" "[I", Cond.static yX2_read, Cond.code yX2_read cX2_read 2 (some .int), Cond.methodLink RX1 85 yX1_delay, Cond.instanceMethod yX1_delay, Cond.selects RX1 yX1_delay yX1_delay, Cond.code yX1_delay cX1_delay 2 (some .int), Cond.fieldLink RX1 9 "PolyDrums$Track" "swing" "I", Cond.methodLink RX1 95 yX1_isStroke, Cond.static yX1_isStroke, Cond.code yX1_isStroke cX1_isStroke 4 (some .boolean)]
def wsX2_hitSet : List Cond := .code yX2_hitSet cX2_hitSet 4 (some .int) :: ((wsX2_hitSet_r1 ++ (wsX2_hitSet_r2 ++ wsX2_hitSet_r3)) ++ wsX20 ++ wsX10 ++ wsX00)
def wsX2_hits_r1 : List Cond := [Cond.methodLink RX2 108 yX2_isTick, Cond.static yX2_isTick, Cond.initialized RX2, Cond.code yX2_isTick cX2_isTick 1 (some .boolean), Cond.constant RX2 155 (99999), Cond.methodLink RX2 31 yX2_isWithin, Cond.static yX2_isWithin, Cond.code yX2_isWithin cX2_isWithin 3 (some .boolean), Cond.methodLink RX2 35 yX2_checkArgument, Cond.static yX2_checkArgument, Cond.code yX2_checkArgument cX2_checkArgument 1 none, Cond.classLink RX2 208 "java/lang/IllegalArgumentException", Cond.initialized "java/lang/IllegalArgumentException", Cond.methodLink RX2 143 yX2_hitSet, Cond.instanceMethod yX2_hitSet, Cond.selects RX2 yX2_hitSet yX2_hitSet, Cond.code yX2_hitSet cX2_hitSet 4 (some .int), Cond.fieldLink RX2 15 "PolyDrums" "trackCount" "I", Cond.methodLink RX2 128 yX2_makesHit, Cond.instanceMethod yX2_makesHit, Cond.selects RX2 yX2_makesHit yX2_makesHit, Cond.code yX2_makesHit cX2_makesHit 4 (some .boolean), Cond.methodLink RX2 146 yX2_trackOrNull, Cond.instanceMethod yX2_trackOrNull]
def wsX2_hits_r2 : List Cond := [Cond.selects RX2 yX2_trackOrNull yX2_trackOrNull, Cond.code yX2_trackOrNull cX2_trackOrNull 2 (some (.object "PolyDrums$Track")), Cond.fieldLink RX2 11 "PolyDrums" "tracks" "[LPolyDrums$Track;", Cond.methodLink RX2 132 yX2_struckForce, Cond.instanceMethod yX2_struckForce, Cond.selects RX2 yX2_struckForce yX2_struckForce, Cond.code yX2_struckForce cX2_struckForce 5 (some .int), Cond.methodLink RX2 233 yX2_isSilenced, Cond.instanceMethod yX2_isSilenced, Cond.selects RX2 yX2_isSilenced yX2_isSilenced, Cond.code yX2_isSilenced cX2_isSilenced 2 (some .boolean), Cond.methodLink RX2 229 yX2_isAnySolo, Cond.instanceMethod yX2_isAnySolo, Cond.selects RX2 yX2_isAnySolo yX2_isAnySolo, Cond.code yX2_isAnySolo cX2_isAnySolo 3 (some .boolean), Cond.methodLink RX2 237 yX2_localTime, Cond.instanceMethod yX2_localTime, Cond.selects RX2 yX2_localTime yX2_localTime, Cond.code yX2_localTime cX2_localTime 4 (some .int), Cond.fieldLink RX2 25 "PolyDrums" "sectionCount" "I", Cond.methodLink RX2 125 yX2_sectionNumber, Cond.instanceMethod yX2_sectionNumber, Cond.selects RX2 yX2_sectionNumber yX2_sectionNumber, Cond.code yX2_sectionNumber cX2_sectionNumber 4 (some .int)]
def wsX2_hits_r3 : List Cond := [Cond.methodLink RX2 194 yX2_sectionOrNull, Cond.instanceMethod yX2_sectionOrNull, Cond.selects RX2 yX2_sectionOrNull yX2_sectionOrNull, Cond.code yX2_sectionOrNull cX2_sectionOrNull 2 (some (.object "PolyDrums$Section")), Cond.fieldLink RX2 21 "PolyDrums" "sections" "[LPolyDrums$Section;", Cond.methodLink RX2 149 yX2_isInSet, Cond.static yX2_isInSet, Cond.code yX2_isInSet cX2_isInSet 2 (some .boolean), Cond.instanceMethod yX1_forceAt, Cond.initialized RX1, Cond.selects RX1 yX1_forceAt yX1_forceAt, Cond.code yX1_forceAt cX1_forceAt 8 (some .int), Cond.fieldLink RX1 41 "PolyDrums$Track" "stepTicks" "I", Cond.methodLink RX1 76 yX1_roundTicks, Cond.instanceMethod yX1_roundTicks, Cond.selects RX1 yX1_roundTicks yX1_roundTicks, Cond.code yX1_roundTicks cX1_roundTicks 1 (some .int), Cond.fieldLink RX1 38 "PolyDrums$Track" "steps" "I", Cond.static yX2_quotient, Cond.code yX2_quotient cX2_quotient 2 (some .int), Cond.static yX2_rest, Cond.code yX2_rest cX2_rest 2 (some .int), Cond.methodLink RX1 73 yX1_cell, Cond.instanceMethod yX1_cell]
def wsX2_hits_r4 : List Cond := [Cond.selects RX1 yX1_cell yX1_cell, Cond.code yX1_cell cX1_cell 3 (some .int), Cond.fieldLink RX1 31 "PolyDrums$Track" "cells" "[I", Cond.static yX2_read, Cond.code yX2_read cX2_read 2 (some .int), Cond.methodLink RX1 85 yX1_delay, Cond.instanceMethod yX1_delay, Cond.selects RX1 yX1_delay yX1_delay, Cond.code yX1_delay cX1_delay 2 (some .int), Cond.fieldLink RX1 9 "PolyDrums$Track" "swing" "I", Cond.methodLink RX1 95 yX1_isStroke, Cond.static yX1_isStroke, Cond.code yX1_isStroke cX1_isStroke 4 (some .boolean)]
def wsX2_hits : List Cond := .code yX2_hits cX2_hits 2 (some .int) :: ((wsX2_hits_r1 ++ (wsX2_hits_r2 ++ (wsX2_hits_r3 ++ wsX2_hits_r4))) ++ wsX20 ++ wsX10 ++ wsX00 ++ (vx_atS RX2 212 "java/lang/IllegalArgumentException" ["java/lang/RuntimeException", "java/lang/Exception"]).filter goodWord)
def wsX2_groupSet : List Cond := .code yX2_groupSet cX2_groupSet 5 (some .int) :: ([.fieldLink RX2 15 "PolyDrums" "trackCount" "I", .methodLink RX2 146 yX2_trackOrNull, .instanceMethod yX2_trackOrNull, .selects RX2 yX2_trackOrNull yX2_trackOrNull, .initialized RX2, .code yX2_trackOrNull cX2_trackOrNull 2 (some (.object "PolyDrums$Track")), .fieldLink RX2 11 "PolyDrums" "tracks" "[LPolyDrums$Track;"] ++ wsX20 ++ wsX10)
def wsX2_sounding_r1 : List Cond := [Cond.fieldLink RX2 15 "PolyDrums" "trackCount" "I", Cond.methodLink RX2 108 yX2_isTick, Cond.static yX2_isTick, Cond.initialized RX2, Cond.code yX2_isTick cX2_isTick 1 (some .boolean), Cond.constant RX2 155 (99999), Cond.methodLink RX2 31 yX2_isWithin, Cond.static yX2_isWithin, Cond.code yX2_isWithin cX2_isWithin 3 (some .boolean), Cond.methodLink RX2 35 yX2_checkArgument, Cond.static yX2_checkArgument, Cond.code yX2_checkArgument cX2_checkArgument 1 none, Cond.classLink RX2 208 "java/lang/IllegalArgumentException", Cond.initialized "java/lang/IllegalArgumentException", Cond.methodLink RX2 143 yX2_hitSet, Cond.instanceMethod yX2_hitSet, Cond.selects RX2 yX2_hitSet yX2_hitSet, Cond.code yX2_hitSet cX2_hitSet 4 (some .int), Cond.methodLink RX2 128 yX2_makesHit, Cond.instanceMethod yX2_makesHit, Cond.selects RX2 yX2_makesHit yX2_makesHit, Cond.code yX2_makesHit cX2_makesHit 4 (some .boolean), Cond.methodLink RX2 146 yX2_trackOrNull, Cond.instanceMethod yX2_trackOrNull]
def wsX2_sounding_r2 : List Cond := [Cond.selects RX2 yX2_trackOrNull yX2_trackOrNull, Cond.code yX2_trackOrNull cX2_trackOrNull 2 (some (.object "PolyDrums$Track")), Cond.fieldLink RX2 11 "PolyDrums" "tracks" "[LPolyDrums$Track;", Cond.methodLink RX2 132 yX2_struckForce, Cond.instanceMethod yX2_struckForce, Cond.selects RX2 yX2_struckForce yX2_struckForce, Cond.code yX2_struckForce cX2_struckForce 5 (some .int), Cond.methodLink RX2 233 yX2_isSilenced, Cond.instanceMethod yX2_isSilenced, Cond.selects RX2 yX2_isSilenced yX2_isSilenced, Cond.code yX2_isSilenced cX2_isSilenced 2 (some .boolean), Cond.methodLink RX2 229 yX2_isAnySolo, Cond.instanceMethod yX2_isAnySolo, Cond.selects RX2 yX2_isAnySolo yX2_isAnySolo, Cond.code yX2_isAnySolo cX2_isAnySolo 3 (some .boolean), Cond.methodLink RX2 237 yX2_localTime, Cond.instanceMethod yX2_localTime, Cond.selects RX2 yX2_localTime yX2_localTime, Cond.code yX2_localTime cX2_localTime 4 (some .int), Cond.fieldLink RX2 25 "PolyDrums" "sectionCount" "I", Cond.methodLink RX2 125 yX2_sectionNumber, Cond.instanceMethod yX2_sectionNumber, Cond.selects RX2 yX2_sectionNumber yX2_sectionNumber, Cond.code yX2_sectionNumber cX2_sectionNumber 4 (some .int)]
def wsX2_sounding_r3 : List Cond := [Cond.methodLink RX2 194 yX2_sectionOrNull, Cond.instanceMethod yX2_sectionOrNull, Cond.selects RX2 yX2_sectionOrNull yX2_sectionOrNull, Cond.code yX2_sectionOrNull cX2_sectionOrNull 2 (some (.object "PolyDrums$Section")), Cond.fieldLink RX2 21 "PolyDrums" "sections" "[LPolyDrums$Section;", Cond.methodLink RX2 149 yX2_isInSet, Cond.static yX2_isInSet, Cond.code yX2_isInSet cX2_isInSet 2 (some .boolean), Cond.instanceMethod yX1_forceAt, Cond.initialized RX1, Cond.selects RX1 yX1_forceAt yX1_forceAt, Cond.code yX1_forceAt cX1_forceAt 8 (some .int), Cond.fieldLink RX1 41 "PolyDrums$Track" "stepTicks" "I", Cond.methodLink RX1 76 yX1_roundTicks, Cond.instanceMethod yX1_roundTicks, Cond.selects RX1 yX1_roundTicks yX1_roundTicks, Cond.code yX1_roundTicks cX1_roundTicks 1 (some .int), Cond.fieldLink RX1 38 "PolyDrums$Track" "steps" "I", Cond.static yX2_quotient, Cond.code yX2_quotient cX2_quotient 2 (some .int), Cond.static yX2_rest, Cond.code yX2_rest cX2_rest 2 (some .int), Cond.methodLink RX1 73 yX1_cell, Cond.instanceMethod yX1_cell]
def wsX2_sounding_r4 : List Cond := [Cond.selects RX1 yX1_cell yX1_cell, Cond.code yX1_cell cX1_cell 3 (some .int), Cond.fieldLink RX1 31 "PolyDrums$Track" "cells" "[I", Cond.static yX2_read, Cond.code yX2_read cX2_read 2 (some .int), Cond.methodLink RX1 85 yX1_delay, Cond.instanceMethod yX1_delay, Cond.selects RX1 yX1_delay yX1_delay, Cond.code yX1_delay cX1_delay 2 (some .int), Cond.fieldLink RX1 9 "PolyDrums$Track" "swing" "I", Cond.methodLink RX1 95 yX1_isStroke, Cond.static yX1_isStroke, Cond.code yX1_isStroke cX1_isStroke 4 (some .boolean), Cond.methodLink RX2 152 yX2_groupSet, Cond.instanceMethod yX2_groupSet, Cond.selects RX2 yX2_groupSet yX2_groupSet, Cond.code yX2_groupSet cX2_groupSet 5 (some .int)]
def wsX2_sounding : List Cond := .code yX2_sounding cX2_sounding 8 (some .int) :: ((wsX2_sounding_r1 ++ (wsX2_sounding_r2 ++ (wsX2_sounding_r3 ++ wsX2_sounding_r4))) ++ wsX20 ++ wsX10 ++ wsX00 ++ (vx_atS RX2 212 "java/lang/IllegalArgumentException" ["java/lang/RuntimeException", "java/lang/Exception"]).filter goodWord)
def wsX2_next_r1 : List Cond := [Cond.constant RX2 155 (99999), Cond.methodLink RX2 138 Lib.Math.min.name, Cond.static Lib.Math.min.name, Cond.initialized "java/lang/Math", Cond.code Lib.Math.min.name Lib.Math.min.code 2 (some .int), Cond.methodLink RX2 68 yX2_existingTrack, Cond.instanceMethod yX2_existingTrack, Cond.selects RX2 yX2_existingTrack yX2_existingTrack, Cond.initialized RX2, Cond.code yX2_existingTrack cX2_existingTrack 3 (some (.object "PolyDrums$Track")), Cond.classLink RX2 213 "java/lang/IndexOutOfBoundsException", Cond.initialized "java/lang/IndexOutOfBoundsException", Cond.methodLink RX2 146 yX2_trackOrNull, Cond.instanceMethod yX2_trackOrNull, Cond.selects RX2 yX2_trackOrNull yX2_trackOrNull, Cond.code yX2_trackOrNull cX2_trackOrNull 2 (some (.object "PolyDrums$Track")), Cond.fieldLink RX2 11 "PolyDrums" "tracks" "[LPolyDrums$Track;", Cond.methodLink RX2 108 yX2_isTick, Cond.static yX2_isTick, Cond.code yX2_isTick cX2_isTick 1 (some .boolean), Cond.methodLink RX2 31 yX2_isWithin, Cond.static yX2_isWithin, Cond.code yX2_isWithin cX2_isWithin 3 (some .boolean), Cond.methodLink RX2 35 yX2_checkArgument]
def wsX2_next_r2 : List Cond := [Cond.static yX2_checkArgument, Cond.code yX2_checkArgument cX2_checkArgument 1 none, Cond.classLink RX2 208 "java/lang/IllegalArgumentException", Cond.initialized "java/lang/IllegalArgumentException", Cond.methodLink RX2 128 yX2_makesHit, Cond.instanceMethod yX2_makesHit, Cond.selects RX2 yX2_makesHit yX2_makesHit, Cond.code yX2_makesHit cX2_makesHit 4 (some .boolean), Cond.methodLink RX2 132 yX2_struckForce, Cond.instanceMethod yX2_struckForce, Cond.selects RX2 yX2_struckForce yX2_struckForce, Cond.code yX2_struckForce cX2_struckForce 5 (some .int), Cond.methodLink RX2 233 yX2_isSilenced, Cond.instanceMethod yX2_isSilenced, Cond.selects RX2 yX2_isSilenced yX2_isSilenced, Cond.code yX2_isSilenced cX2_isSilenced 2 (some .boolean), Cond.methodLink RX2 229 yX2_isAnySolo, Cond.instanceMethod yX2_isAnySolo, Cond.selects RX2 yX2_isAnySolo yX2_isAnySolo, Cond.code yX2_isAnySolo cX2_isAnySolo 3 (some .boolean), Cond.fieldLink RX2 15 "PolyDrums" "trackCount" "I", Cond.methodLink RX2 237 yX2_localTime, Cond.instanceMethod yX2_localTime, Cond.selects RX2 yX2_localTime yX2_localTime]
def wsX2_next_r3 : List Cond := [Cond.code yX2_localTime cX2_localTime 4 (some .int), Cond.fieldLink RX2 25 "PolyDrums" "sectionCount" "I", Cond.methodLink RX2 125 yX2_sectionNumber, Cond.instanceMethod yX2_sectionNumber, Cond.selects RX2 yX2_sectionNumber yX2_sectionNumber, Cond.code yX2_sectionNumber cX2_sectionNumber 4 (some .int), Cond.methodLink RX2 194 yX2_sectionOrNull, Cond.instanceMethod yX2_sectionOrNull, Cond.selects RX2 yX2_sectionOrNull yX2_sectionOrNull, Cond.code yX2_sectionOrNull cX2_sectionOrNull 2 (some (.object "PolyDrums$Section")), Cond.fieldLink RX2 21 "PolyDrums" "sections" "[LPolyDrums$Section;", Cond.methodLink RX2 149 yX2_isInSet, Cond.static yX2_isInSet, Cond.code yX2_isInSet cX2_isInSet 2 (some .boolean), Cond.instanceMethod yX1_forceAt, Cond.initialized RX1, Cond.selects RX1 yX1_forceAt yX1_forceAt, Cond.code yX1_forceAt cX1_forceAt 8 (some .int), Cond.fieldLink RX1 41 "PolyDrums$Track" "stepTicks" "I", Cond.methodLink RX1 76 yX1_roundTicks, Cond.instanceMethod yX1_roundTicks, Cond.selects RX1 yX1_roundTicks yX1_roundTicks, Cond.code yX1_roundTicks cX1_roundTicks 1 (some .int), Cond.fieldLink RX1 38 "PolyDrums$Track" "steps" "I"]
def wsX2_next_r4 : List Cond := [Cond.static yX2_quotient, Cond.code yX2_quotient cX2_quotient 2 (some .int), Cond.static yX2_rest, Cond.code yX2_rest cX2_rest 2 (some .int), Cond.methodLink RX1 73 yX1_cell, Cond.instanceMethod yX1_cell, Cond.selects RX1 yX1_cell yX1_cell, Cond.code yX1_cell cX1_cell 3 (some .int), Cond.fieldLink RX1 31 "PolyDrums$Track" "cells" "[I", Cond.static yX2_read, Cond.code yX2_read cX2_read 2 (some .int), Cond.methodLink RX1 85 yX1_delay, Cond.instanceMethod yX1_delay, Cond.selects RX1 yX1_delay yX1_delay, Cond.code yX1_delay cX1_delay 2 (some .int), Cond.fieldLink RX1 9 "PolyDrums$Track" "swing" "I", Cond.methodLink RX1 95 yX1_isStroke, Cond.static yX1_isStroke, Cond.code yX1_isStroke cX1_isStroke 4 (some .boolean)]
def wsX2_next : List Cond := .code yX2_next cX2_next 5 (some .int) :: ((wsX2_next_r1 ++ (wsX2_next_r2 ++ (wsX2_next_r3 ++ wsX2_next_r4))) ++ wsX20 ++ wsX10 ++ wsX00 ++ (vx_atS RX2 217 "java/lang/IndexOutOfBoundsException" ["java/lang/RuntimeException", "java/lang/Exception"]).filter goodWord ++ (vx_atS RX2 212 "java/lang/IllegalArgumentException" ["java/lang/RuntimeException", "java/lang/Exception"]).filter goodWord)
def wsX2_isSpan : List Cond := .code yX2_isSpan cX2_isSpan 2 (some .boolean) :: ([.methodLink RX2 108 yX2_isTick, .static yX2_isTick, .initialized RX2, .code yX2_isTick cX2_isTick 1 (some .boolean), .constant RX2 155 (99999), .methodLink RX2 31 yX2_isWithin, .static yX2_isWithin, .code yX2_isWithin cX2_isWithin 3 (some .boolean)])
def wsX2_commonHits_r1 : List Cond := [Cond.methodLink RX2 128 yX2_makesHit, Cond.instanceMethod yX2_makesHit, Cond.selects RX2 yX2_makesHit yX2_makesHit, Cond.initialized RX2, Cond.code yX2_makesHit cX2_makesHit 4 (some .boolean), Cond.methodLink RX2 146 yX2_trackOrNull, Cond.instanceMethod yX2_trackOrNull, Cond.selects RX2 yX2_trackOrNull yX2_trackOrNull, Cond.code yX2_trackOrNull cX2_trackOrNull 2 (some (.object "PolyDrums$Track")), Cond.fieldLink RX2 11 "PolyDrums" "tracks" "[LPolyDrums$Track;", Cond.methodLink RX2 132 yX2_struckForce, Cond.instanceMethod yX2_struckForce, Cond.selects RX2 yX2_struckForce yX2_struckForce, Cond.code yX2_struckForce cX2_struckForce 5 (some .int), Cond.methodLink RX2 233 yX2_isSilenced, Cond.instanceMethod yX2_isSilenced, Cond.selects RX2 yX2_isSilenced yX2_isSilenced, Cond.code yX2_isSilenced cX2_isSilenced 2 (some .boolean), Cond.methodLink RX2 229 yX2_isAnySolo, Cond.instanceMethod yX2_isAnySolo, Cond.selects RX2 yX2_isAnySolo yX2_isAnySolo, Cond.code yX2_isAnySolo cX2_isAnySolo 3 (some .boolean), Cond.fieldLink RX2 15 "PolyDrums" "trackCount" "I", Cond.methodLink RX2 237 yX2_localTime]
def wsX2_commonHits_r2 : List Cond := [Cond.instanceMethod yX2_localTime, Cond.selects RX2 yX2_localTime yX2_localTime, Cond.code yX2_localTime cX2_localTime 4 (some .int), Cond.fieldLink RX2 25 "PolyDrums" "sectionCount" "I", Cond.methodLink RX2 125 yX2_sectionNumber, Cond.instanceMethod yX2_sectionNumber, Cond.selects RX2 yX2_sectionNumber yX2_sectionNumber, Cond.code yX2_sectionNumber cX2_sectionNumber 4 (some .int), Cond.methodLink RX2 194 yX2_sectionOrNull, Cond.instanceMethod yX2_sectionOrNull, Cond.selects RX2 yX2_sectionOrNull yX2_sectionOrNull, Cond.code yX2_sectionOrNull cX2_sectionOrNull 2 (some (.object "PolyDrums$Section")), Cond.fieldLink RX2 21 "PolyDrums" "sections" "[LPolyDrums$Section;", Cond.methodLink RX2 149 yX2_isInSet, Cond.static yX2_isInSet, Cond.code yX2_isInSet cX2_isInSet 2 (some .boolean), Cond.instanceMethod yX1_forceAt, Cond.initialized RX1, Cond.selects RX1 yX1_forceAt yX1_forceAt, Cond.code yX1_forceAt cX1_forceAt 8 (some .int), Cond.fieldLink RX1 41 "PolyDrums$Track" "stepTicks" "I", Cond.methodLink RX1 76 yX1_roundTicks, Cond.instanceMethod yX1_roundTicks, Cond.selects RX1 yX1_roundTicks yX1_roundTicks]
def wsX2_commonHits_r3 : List Cond := [Cond.code yX1_roundTicks cX1_roundTicks 1 (some .int), Cond.fieldLink RX1 38 "PolyDrums$Track" "steps" "I", Cond.static yX2_quotient, Cond.code yX2_quotient cX2_quotient 2 (some .int), Cond.static yX2_rest, Cond.code yX2_rest cX2_rest 2 (some .int), Cond.methodLink RX1 73 yX1_cell, Cond.instanceMethod yX1_cell, Cond.selects RX1 yX1_cell yX1_cell, Cond.code yX1_cell cX1_cell 3 (some .int), Cond.fieldLink RX1 31 "PolyDrums$Track" "cells" "[I", Cond.static yX2_read, Cond.code yX2_read cX2_read 2 (some .int), Cond.methodLink RX1 85 yX1_delay, Cond.instanceMethod yX1_delay, Cond.selects RX1 yX1_delay yX1_delay, Cond.code yX1_delay cX1_delay 2 (some .int), Cond.fieldLink RX1 9 "PolyDrums$Track" "swing" "I", Cond.methodLink RX1 95 yX1_isStroke, Cond.static yX1_isStroke, Cond.code yX1_isStroke cX1_isStroke 4 (some .boolean)]
def wsX2_commonHits : List Cond := .code yX2_commonHits cX2_commonHits 7 (some .int) :: ((wsX2_commonHits_r1 ++ (wsX2_commonHits_r2 ++ wsX2_commonHits_r3)) ++ wsX10 ++ wsX20 ++ wsX00)
def wsX2_count_r1 : List Cond := [Cond.methodLink RX2 68 yX2_existingTrack, Cond.instanceMethod yX2_existingTrack, Cond.selects RX2 yX2_existingTrack yX2_existingTrack, Cond.initialized RX2, Cond.code yX2_existingTrack cX2_existingTrack 3 (some (.object "PolyDrums$Track")), Cond.classLink RX2 213 "java/lang/IndexOutOfBoundsException", Cond.initialized "java/lang/IndexOutOfBoundsException", Cond.methodLink RX2 146 yX2_trackOrNull, Cond.instanceMethod yX2_trackOrNull, Cond.selects RX2 yX2_trackOrNull yX2_trackOrNull, Cond.code yX2_trackOrNull cX2_trackOrNull 2 (some (.object "PolyDrums$Track")), Cond.fieldLink RX2 11 "PolyDrums" "tracks" "[LPolyDrums$Track;", Cond.methodLink RX2 156 yX2_isSpan, Cond.static yX2_isSpan, Cond.code yX2_isSpan cX2_isSpan 2 (some .boolean), Cond.methodLink RX2 108 yX2_isTick, Cond.static yX2_isTick, Cond.code yX2_isTick cX2_isTick 1 (some .boolean), Cond.constant RX2 155 (99999), Cond.methodLink RX2 31 yX2_isWithin, Cond.static yX2_isWithin, Cond.code yX2_isWithin cX2_isWithin 3 (some .boolean), Cond.methodLink RX2 35 yX2_checkArgument, Cond.static yX2_checkArgument]
def wsX2_count_r2 : List Cond := [Cond.code yX2_checkArgument cX2_checkArgument 1 none, Cond.classLink RX2 208 "java/lang/IllegalArgumentException", Cond.initialized "java/lang/IllegalArgumentException", Cond.methodLink RX2 159 yX2_commonHits, Cond.instanceMethod yX2_commonHits, Cond.selects RX2 yX2_commonHits yX2_commonHits, Cond.code yX2_commonHits cX2_commonHits 7 (some .int), Cond.methodLink RX2 128 yX2_makesHit, Cond.instanceMethod yX2_makesHit, Cond.selects RX2 yX2_makesHit yX2_makesHit, Cond.code yX2_makesHit cX2_makesHit 4 (some .boolean), Cond.methodLink RX2 132 yX2_struckForce, Cond.instanceMethod yX2_struckForce, Cond.selects RX2 yX2_struckForce yX2_struckForce, Cond.code yX2_struckForce cX2_struckForce 5 (some .int), Cond.methodLink RX2 233 yX2_isSilenced, Cond.instanceMethod yX2_isSilenced, Cond.selects RX2 yX2_isSilenced yX2_isSilenced, Cond.code yX2_isSilenced cX2_isSilenced 2 (some .boolean), Cond.methodLink RX2 229 yX2_isAnySolo, Cond.instanceMethod yX2_isAnySolo, Cond.selects RX2 yX2_isAnySolo yX2_isAnySolo, Cond.code yX2_isAnySolo cX2_isAnySolo 3 (some .boolean), Cond.fieldLink RX2 15 "PolyDrums" "trackCount" "I"]
def wsX2_count_r3 : List Cond := [Cond.methodLink RX2 237 yX2_localTime, Cond.instanceMethod yX2_localTime, Cond.selects RX2 yX2_localTime yX2_localTime, Cond.code yX2_localTime cX2_localTime 4 (some .int), Cond.fieldLink RX2 25 "PolyDrums" "sectionCount" "I", Cond.methodLink RX2 125 yX2_sectionNumber, Cond.instanceMethod yX2_sectionNumber, Cond.selects RX2 yX2_sectionNumber yX2_sectionNumber, Cond.code yX2_sectionNumber cX2_sectionNumber 4 (some .int), Cond.methodLink RX2 194 yX2_sectionOrNull, Cond.instanceMethod yX2_sectionOrNull, Cond.selects RX2 yX2_sectionOrNull yX2_sectionOrNull, Cond.code yX2_sectionOrNull cX2_sectionOrNull 2 (some (.object "PolyDrums$Section")), Cond.fieldLink RX2 21 "PolyDrums" "sections" "[LPolyDrums$Section;", Cond.methodLink RX2 149 yX2_isInSet, Cond.static yX2_isInSet, Cond.code yX2_isInSet cX2_isInSet 2 (some .boolean), Cond.instanceMethod yX1_forceAt, Cond.initialized RX1, Cond.selects RX1 yX1_forceAt yX1_forceAt, Cond.code yX1_forceAt cX1_forceAt 8 (some .int), Cond.fieldLink RX1 41 "PolyDrums$Track" "stepTicks" "I", Cond.methodLink RX1 76 yX1_roundTicks, Cond.instanceMethod yX1_roundTicks]
def wsX2_count_r4 : List Cond := [Cond.selects RX1 yX1_roundTicks yX1_roundTicks, Cond.code yX1_roundTicks cX1_roundTicks 1 (some .int), Cond.fieldLink RX1 38 "PolyDrums$Track" "steps" "I", Cond.static yX2_quotient, Cond.code yX2_quotient cX2_quotient 2 (some .int), Cond.static yX2_rest, Cond.code yX2_rest cX2_rest 2 (some .int), Cond.methodLink RX1 73 yX1_cell, Cond.instanceMethod yX1_cell, Cond.selects RX1 yX1_cell yX1_cell, Cond.code yX1_cell cX1_cell 3 (some .int), Cond.fieldLink RX1 31 "PolyDrums$Track" "cells" "[I", Cond.static yX2_read, Cond.code yX2_read cX2_read 2 (some .int), Cond.methodLink RX1 85 yX1_delay, Cond.instanceMethod yX1_delay, Cond.selects RX1 yX1_delay yX1_delay, Cond.code yX1_delay cX1_delay 2 (some .int), Cond.fieldLink RX1 9 "PolyDrums$Track" "swing" "I", Cond.methodLink RX1 95 yX1_isStroke, Cond.static yX1_isStroke, Cond.code yX1_isStroke cX1_isStroke 4 (some .boolean)]
def wsX2_count : List Cond := .code yX2_count cX2_count 4 (some .int) :: ((wsX2_count_r1 ++ (wsX2_count_r2 ++ (wsX2_count_r3 ++ wsX2_count_r4))) ++ wsX20 ++ wsX10 ++ wsX00 ++ (vx_atS RX2 217 "java/lang/IndexOutOfBoundsException" ["java/lang/RuntimeException", "java/lang/Exception"]).filter goodWord ++ (vx_atS RX2 212 "java/lang/IllegalArgumentException" ["java/lang/RuntimeException", "java/lang/Exception"]).filter goodWord)
def wsX2_together_r1 : List Cond := [Cond.methodLink RX2 68 yX2_existingTrack, Cond.instanceMethod yX2_existingTrack, Cond.selects RX2 yX2_existingTrack yX2_existingTrack, Cond.initialized RX2, Cond.code yX2_existingTrack cX2_existingTrack 3 (some (.object "PolyDrums$Track")), Cond.classLink RX2 213 "java/lang/IndexOutOfBoundsException", Cond.initialized "java/lang/IndexOutOfBoundsException", Cond.methodLink RX2 146 yX2_trackOrNull, Cond.instanceMethod yX2_trackOrNull, Cond.selects RX2 yX2_trackOrNull yX2_trackOrNull, Cond.code yX2_trackOrNull cX2_trackOrNull 2 (some (.object "PolyDrums$Track")), Cond.fieldLink RX2 11 "PolyDrums" "tracks" "[LPolyDrums$Track;", Cond.methodLink RX2 156 yX2_isSpan, Cond.static yX2_isSpan, Cond.code yX2_isSpan cX2_isSpan 2 (some .boolean), Cond.methodLink RX2 108 yX2_isTick, Cond.static yX2_isTick, Cond.code yX2_isTick cX2_isTick 1 (some .boolean), Cond.constant RX2 155 (99999), Cond.methodLink RX2 31 yX2_isWithin, Cond.static yX2_isWithin, Cond.code yX2_isWithin cX2_isWithin 3 (some .boolean), Cond.methodLink RX2 35 yX2_checkArgument, Cond.static yX2_checkArgument]
def wsX2_together_r2 : List Cond := [Cond.code yX2_checkArgument cX2_checkArgument 1 none, Cond.classLink RX2 208 "java/lang/IllegalArgumentException", Cond.initialized "java/lang/IllegalArgumentException", Cond.methodLink RX2 159 yX2_commonHits, Cond.instanceMethod yX2_commonHits, Cond.selects RX2 yX2_commonHits yX2_commonHits, Cond.code yX2_commonHits cX2_commonHits 7 (some .int), Cond.methodLink RX2 128 yX2_makesHit, Cond.instanceMethod yX2_makesHit, Cond.selects RX2 yX2_makesHit yX2_makesHit, Cond.code yX2_makesHit cX2_makesHit 4 (some .boolean), Cond.methodLink RX2 132 yX2_struckForce, Cond.instanceMethod yX2_struckForce, Cond.selects RX2 yX2_struckForce yX2_struckForce, Cond.code yX2_struckForce cX2_struckForce 5 (some .int), Cond.methodLink RX2 233 yX2_isSilenced, Cond.instanceMethod yX2_isSilenced, Cond.selects RX2 yX2_isSilenced yX2_isSilenced, Cond.code yX2_isSilenced cX2_isSilenced 2 (some .boolean), Cond.methodLink RX2 229 yX2_isAnySolo, Cond.instanceMethod yX2_isAnySolo, Cond.selects RX2 yX2_isAnySolo yX2_isAnySolo, Cond.code yX2_isAnySolo cX2_isAnySolo 3 (some .boolean), Cond.fieldLink RX2 15 "PolyDrums" "trackCount" "I"]
def wsX2_together_r3 : List Cond := [Cond.methodLink RX2 237 yX2_localTime, Cond.instanceMethod yX2_localTime, Cond.selects RX2 yX2_localTime yX2_localTime, Cond.code yX2_localTime cX2_localTime 4 (some .int), Cond.fieldLink RX2 25 "PolyDrums" "sectionCount" "I", Cond.methodLink RX2 125 yX2_sectionNumber, Cond.instanceMethod yX2_sectionNumber, Cond.selects RX2 yX2_sectionNumber yX2_sectionNumber, Cond.code yX2_sectionNumber cX2_sectionNumber 4 (some .int), Cond.methodLink RX2 194 yX2_sectionOrNull, Cond.instanceMethod yX2_sectionOrNull, Cond.selects RX2 yX2_sectionOrNull yX2_sectionOrNull, Cond.code yX2_sectionOrNull cX2_sectionOrNull 2 (some (.object "PolyDrums$Section")), Cond.fieldLink RX2 21 "PolyDrums" "sections" "[LPolyDrums$Section;", Cond.methodLink RX2 149 yX2_isInSet, Cond.static yX2_isInSet, Cond.code yX2_isInSet cX2_isInSet 2 (some .boolean), Cond.instanceMethod yX1_forceAt, Cond.initialized RX1, Cond.selects RX1 yX1_forceAt yX1_forceAt, Cond.code yX1_forceAt cX1_forceAt 8 (some .int), Cond.fieldLink RX1 41 "PolyDrums$Track" "stepTicks" "I", Cond.methodLink RX1 76 yX1_roundTicks, Cond.instanceMethod yX1_roundTicks]
def wsX2_together_r4 : List Cond := [Cond.selects RX1 yX1_roundTicks yX1_roundTicks, Cond.code yX1_roundTicks cX1_roundTicks 1 (some .int), Cond.fieldLink RX1 38 "PolyDrums$Track" "steps" "I", Cond.static yX2_quotient, Cond.code yX2_quotient cX2_quotient 2 (some .int), Cond.static yX2_rest, Cond.code yX2_rest cX2_rest 2 (some .int), Cond.methodLink RX1 73 yX1_cell, Cond.instanceMethod yX1_cell, Cond.selects RX1 yX1_cell yX1_cell, Cond.code yX1_cell cX1_cell 3 (some .int), Cond.fieldLink RX1 31 "PolyDrums$Track" "cells" "[I", Cond.static yX2_read, Cond.code yX2_read cX2_read 2 (some .int), Cond.methodLink RX1 85 yX1_delay, Cond.instanceMethod yX1_delay, Cond.selects RX1 yX1_delay yX1_delay, Cond.code yX1_delay cX1_delay 2 (some .int), Cond.fieldLink RX1 9 "PolyDrums$Track" "swing" "I", Cond.methodLink RX1 95 yX1_isStroke, Cond.static yX1_isStroke, Cond.code yX1_isStroke cX1_isStroke 4 (some .boolean)]
def wsX2_together : List Cond := .code yX2_together cX2_together 5 (some .int) :: ((wsX2_together_r1 ++ (wsX2_together_r2 ++ (wsX2_together_r3 ++ wsX2_together_r4))) ++ wsX20 ++ wsX10 ++ wsX00 ++ (vx_atS RX2 217 "java/lang/IndexOutOfBoundsException" ["java/lang/RuntimeException", "java/lang/Exception"]).filter goodWord ++ (vx_atS RX2 212 "java/lang/IllegalArgumentException" ["java/lang/RuntimeException", "java/lang/Exception"]).filter goodWord)
def wsX2_rounds_r1 : List Cond := [Cond.methodLink RX2 68 yX2_existingTrack, Cond.instanceMethod yX2_existingTrack, Cond.selects RX2 yX2_existingTrack yX2_existingTrack, Cond.initialized RX2, Cond.code yX2_existingTrack cX2_existingTrack 3 (some (.object "PolyDrums$Track")), Cond.classLink RX2 213 "java/lang/IndexOutOfBoundsException", Cond.initialized "java/lang/IndexOutOfBoundsException", Cond.methodLink RX2 146 yX2_trackOrNull, Cond.instanceMethod yX2_trackOrNull, Cond.selects RX2 yX2_trackOrNull yX2_trackOrNull, Cond.code yX2_trackOrNull cX2_trackOrNull 2 (some (.object "PolyDrums$Track")), Cond.fieldLink RX2 11 "PolyDrums" "tracks" "[LPolyDrums$Track;", Cond.instanceMethod yX1_roundsOfTurns, Cond.initialized RX1, Cond.selects RX1 yX1_roundsOfTurns yX1_roundsOfTurns, Cond.code yX1_roundsOfTurns cX1_roundsOfTurns 4 (some .int), Cond.fieldLink RX1 38 "PolyDrums$Track" "steps" "I", Cond.methodLink RX1 73 yX1_cell, Cond.instanceMethod yX1_cell, Cond.selects RX1 yX1_cell yX1_cell, Cond.code yX1_cell cX1_cell 3 (some .int), Cond.fieldLink RX1 31 "PolyDrums$Track" "cells" "[I", Cond.static yX2_read, Cond.code yX2_read cX2_read 2 (some .int)]
def wsX2_rounds_r2 : List Cond := [Cond.static yX2_leastCommonMultiple, Cond.code yX2_leastCommonMultiple cX2_leastCommonMultiple 6 (some .long), Cond.methodLink RX2 247 yX2_greatestCommonDivisor, Cond.static yX2_greatestCommonDivisor, Cond.code yX2_greatestCommonDivisor cX2_greatestCommonDivisor 11 (some .long), Cond.constant RX2 246 (1000000)]
def wsX2_rounds : List Cond := .code yX2_rounds cX2_rounds 2 (some .int) :: ((wsX2_rounds_r1 ++ wsX2_rounds_r2) ++ wsX20 ++ wsX10 ++ (vx_atS RX2 217 "java/lang/IndexOutOfBoundsException" ["java/lang/RuntimeException", "java/lang/Exception"]).filter goodWord)
def wsX2_period_r1 : List Cond := [Cond.fieldLink RX2 15 "PolyDrums" "trackCount" "I", Cond.constantLong RX2 173 (1000000000), Cond.constantLong RX2 175 (-1), Cond.methodLink RX2 146 yX2_trackOrNull, Cond.instanceMethod yX2_trackOrNull, Cond.selects RX2 yX2_trackOrNull yX2_trackOrNull, Cond.initialized RX2, Cond.code yX2_trackOrNull cX2_trackOrNull 2 (some (.object "PolyDrums$Track")), Cond.fieldLink RX2 11 "PolyDrums" "tracks" "[LPolyDrums$Track;", Cond.instanceMethod yX1_roundTicks, Cond.initialized RX1, Cond.selects RX1 yX1_roundTicks yX1_roundTicks, Cond.code yX1_roundTicks cX1_roundTicks 1 (some .int), Cond.fieldLink RX1 38 "PolyDrums$Track" "steps" "I", Cond.fieldLink RX1 41 "PolyDrums$Track" "stepTicks" "I", Cond.instanceMethod yX1_roundsOfTurns, Cond.selects RX1 yX1_roundsOfTurns yX1_roundsOfTurns, Cond.code yX1_roundsOfTurns cX1_roundsOfTurns 4 (some .int), Cond.methodLink RX1 73 yX1_cell, Cond.instanceMethod yX1_cell, Cond.selects RX1 yX1_cell yX1_cell, Cond.code yX1_cell cX1_cell 3 (some .int), Cond.fieldLink RX1 31 "PolyDrums$Track" "cells" "[I", Cond.static yX2_read]
def wsX2_period_r2 : List Cond := [Cond.code yX2_read cX2_read 2 (some .int), Cond.static yX2_leastCommonMultiple, Cond.code yX2_leastCommonMultiple cX2_leastCommonMultiple 6 (some .long), Cond.methodLink RX2 247 yX2_greatestCommonDivisor, Cond.static yX2_greatestCommonDivisor, Cond.code yX2_greatestCommonDivisor cX2_greatestCommonDivisor 11 (some .long), Cond.constant RX2 246 (1000000), Cond.methodLink RX2 169 yX2_leastCommonMultiple]
def wsX2_period : List Cond := .code yX2_period cX2_period 5 (some .long) :: ((wsX2_period_r1 ++ wsX2_period_r2) ++ wsX20 ++ wsX10)
def wsX2_density : List Cond := .code yX2_density cX2_density 2 (some .double) :: ([.methodLink RX2 68 yX2_existingTrack, .instanceMethod yX2_existingTrack, .selects RX2 yX2_existingTrack yX2_existingTrack, .initialized RX2, .code yX2_existingTrack cX2_existingTrack 3 (some (.object "PolyDrums$Track")), .classLink RX2 213 "java/lang/IndexOutOfBoundsException", .initialized "java/lang/IndexOutOfBoundsException", .methodLink RX2 146 yX2_trackOrNull, .instanceMethod yX2_trackOrNull, .selects RX2 yX2_trackOrNull yX2_trackOrNull, .code yX2_trackOrNull cX2_trackOrNull 2 (some (.object "PolyDrums$Track")), .fieldLink RX2 11 "PolyDrums" "tracks" "[LPolyDrums$Track;", .instanceMethod yX1_strokesPerRound, .initialized RX1, .selects RX1 yX1_strokesPerRound yX1_strokesPerRound, .code yX1_strokesPerRound cX1_strokesPerRound 5 (some .double), .fieldLink RX1 38 "PolyDrums$Track" "steps" "I", .methodLink RX1 73 yX1_cell, .instanceMethod yX1_cell, .selects RX1 yX1_cell yX1_cell, .code yX1_cell cX1_cell 3 (some .int), .fieldLink RX1 31 "PolyDrums$Track" "cells" "[I", .static yX2_read, .code yX2_read cX2_read 2 (some .int)] ++ wsX20 ++ wsX10 ++ (vx_atS RX2 217 "java/lang/IndexOutOfBoundsException" ["java/lang/RuntimeException", "java/lang/Exception"]).filter goodWord)
def wsX2_setSpeed : List Cond := .code yX2_setSpeed cX2_setSpeed 3 (some .int) :: ([.fieldLink RX2 28 "PolyDrums" "beats" "I", .methodLink RX2 31 yX2_isWithin, .static yX2_isWithin, .initialized RX2, .code yX2_isWithin cX2_isWithin 3 (some .boolean), .methodLink RX2 35 yX2_checkArgument, .static yX2_checkArgument, .code yX2_checkArgument cX2_checkArgument 1 none, .classLink RX2 208 "java/lang/IllegalArgumentException", .initialized "java/lang/IllegalArgumentException"] ++ wsX20 ++ (vx_atS RX2 212 "java/lang/IllegalArgumentException" ["java/lang/RuntimeException", "java/lang/Exception"]).filter goodWord)
def wsX2_seconds : List Cond := .code yX2_seconds cX2_seconds 2 (some .double) :: ([.constantDouble RX2 181 (4633641066610819072), .fieldLink RX2 28 "PolyDrums" "beats" "I", .constantDouble RX2 183 (4627448617123184640), .methodLink RX2 108 yX2_isTick, .static yX2_isTick, .initialized RX2, .code yX2_isTick cX2_isTick 1 (some .boolean), .constant RX2 155 (99999), .methodLink RX2 31 yX2_isWithin, .static yX2_isWithin, .code yX2_isWithin cX2_isWithin 3 (some .boolean), .methodLink RX2 35 yX2_checkArgument, .static yX2_checkArgument, .code yX2_checkArgument cX2_checkArgument 1 none, .classLink RX2 208 "java/lang/IllegalArgumentException", .initialized "java/lang/IllegalArgumentException"] ++ wsX20 ++ (vx_atS RX2 212 "java/lang/IllegalArgumentException" ["java/lang/RuntimeException", "java/lang/Exception"]).filter goodWord)
def wsX2_digest_r1 : List Cond := [Cond.constantLong RX2 185 (313), Cond.fieldLink RX2 28 "PolyDrums" "beats" "I", Cond.fieldLink RX2 15 "PolyDrums" "trackCount" "I", Cond.fieldLink RX2 25 "PolyDrums" "sectionCount" "I", Cond.methodLink RX2 187 yX2_mix, Cond.static yX2_mix, Cond.initialized RX2, Cond.code yX2_mix cX2_mix 4 (some .long), Cond.constantLong RX2 250 (31), Cond.methodLink RX2 146 yX2_trackOrNull, Cond.instanceMethod yX2_trackOrNull, Cond.selects RX2 yX2_trackOrNull yX2_trackOrNull, Cond.code yX2_trackOrNull cX2_trackOrNull 2 (some (.object "PolyDrums$Track")), Cond.fieldLink RX2 11 "PolyDrums" "tracks" "[LPolyDrums$Track;", Cond.instanceMethod yX1_mixInto, Cond.initialized RX1, Cond.selects RX1 yX1_mixInto yX1_mixInto, Cond.code yX1_mixInto cX1_mixInto 7 (some .long), Cond.fieldLink RX1 38 "PolyDrums$Track" "steps" "I", Cond.methodLink RX1 103 yX1_setting, Cond.instanceMethod yX1_setting, Cond.selects RX1 yX1_setting yX1_setting, Cond.code yX1_setting cX1_setting 2 (some .int), Cond.fieldLink RX1 41 "PolyDrums$Track" "stepTicks" "I"]
def wsX2_digest_r2 : List Cond := [Cond.fieldLink RX1 9 "PolyDrums$Track" "swing" "I", Cond.fieldLink RX1 15 "PolyDrums$Track" "ring" "I", Cond.fieldLink RX1 18 "PolyDrums$Track" "group" "I", Cond.fieldLink RX1 21 "PolyDrums$Track" "isMuted" "Z", Cond.fieldLink RX1 25 "PolyDrums$Track" "isSolo" "Z", Cond.fieldLink RX1 28 "PolyDrums$Track" "isAccent" "Z", Cond.methodLink RX1 73 yX1_cell, Cond.instanceMethod yX1_cell, Cond.selects RX1 yX1_cell yX1_cell, Cond.code yX1_cell cX1_cell 3 (some .int), Cond.fieldLink RX1 31 "PolyDrums$Track" "cells" "[I", Cond.static yX2_read, Cond.code yX2_read cX2_read 2 (some .int), Cond.methodLink RX2 194 yX2_sectionOrNull, Cond.instanceMethod yX2_sectionOrNull, Cond.selects RX2 yX2_sectionOrNull yX2_sectionOrNull, Cond.code yX2_sectionOrNull cX2_sectionOrNull 2 (some (.object "PolyDrums$Section")), Cond.fieldLink RX2 21 "PolyDrums" "sections" "[LPolyDrums$Section;"]
def wsX2_digest : List Cond := .code yX2_digest cX2_digest 5 (some .long) :: ((wsX2_digest_r1 ++ wsX2_digest_r2) ++ wsX20 ++ wsX00 ++ wsX10)
def wsX3_init : List Cond := .code yX3_init cX3_init 1 none :: ([.methodLink RX3 1 objectInit, .instanceMethod objectInit, .code objectInit ⟨#[0xb1]⟩ 1 none, .arrayClass .int, .fieldLink RX3 9 "PolyDrumsModel" "counts" "[I", .fieldLink RX3 13 "PolyDrumsModel" "ticks" "[I", .fieldLink RX3 16 "PolyDrumsModel" "swings" "[I", .fieldLink RX3 19 "PolyDrumsModel" "rings" "[I", .fieldLink RX3 22 "PolyDrumsModel" "groups" "[I", .arrayClass .boolean, .fieldLink RX3 25 "PolyDrumsModel" "flags" "[Z", .fieldLink RX3 29 "PolyDrumsModel" "steps" "[I", .fieldLink RX3 32 "PolyDrumsModel" "begins" "[I", .fieldLink RX3 35 "PolyDrumsModel" "sets" "[I", .fieldLink RX3 38 "PolyDrumsModel" "areNew" "[Z", .fieldLink RX3 41 "PolyDrumsModel" "speed" "I"] ++ wsX30)
def wsX3_thrown : List Cond := .code yX3_thrown cX3_thrown 1 (some .int) :: ([.fieldLink RX3 45 "PolyDrumsModel" "thrown" "I"] ++ wsX30)
def wsX3_no : List Cond := .code yX3_no cX3_no 2 (some .int) :: ([.fieldLink RX3 45 "PolyDrumsModel" "thrown" "I"] ++ wsX30)
def wsX3_isIn : List Cond := .code yX3_isIn cX3_isIn 3 (some .boolean) :: ([])
def wsX3_isTrack : List Cond := .code yX3_isTrack cX3_isTrack 2 (some .boolean) :: ([.fieldLink RX3 48 "PolyDrumsModel" "tracks" "I", .methodLink RX3 51 yX3_isIn, .static yX3_isIn, .initialized RX3, .code yX3_isIn cX3_isIn 3 (some .boolean)] ++ wsX30)
def wsX3_isStep : List Cond := .code yX3_isStep cX3_isStep 3 (some .boolean) :: ([.fieldLink RX3 9 "PolyDrumsModel" "counts" "[I", .methodLink RX3 55 yX3_isTrack, .instanceMethod yX3_isTrack, .selects RX3 yX3_isTrack yX3_isTrack, .initialized RX3, .code yX3_isTrack cX3_isTrack 2 (some .boolean), .fieldLink RX3 48 "PolyDrumsModel" "tracks" "I", .methodLink RX3 51 yX3_isIn, .static yX3_isIn, .code yX3_isIn cX3_isIn 3 (some .boolean)] ++ wsX30)
def wsX3_at : List Cond := .code yX3_at cX3_at 2 (some .int) :: ([])
def wsX3_isTick : List Cond := .code yX3_isTick cX3_isTick 1 (some .boolean) :: ([.constant RX3 59 (99999), .methodLink RX3 51 yX3_isIn, .static yX3_isIn, .initialized RX3, .code yX3_isIn cX3_isIn 3 (some .boolean)])
def wsX3_plain : List Cond := .code yX3_plain cX3_plain 4 none :: ([.fieldLink RX3 29 "PolyDrumsModel" "steps" "[I", .methodLink RX3 60 yX3_at, .static yX3_at, .initialized RX3, .code yX3_at cX3_at 2 (some .int)] ++ wsX30)
def wsX3_addTrack : List Cond := .code yX3_addTrack cX3_addTrack 4 (some .int) :: ([.fieldLink RX3 45 "PolyDrumsModel" "thrown" "I", .fieldLink RX3 48 "PolyDrumsModel" "tracks" "I", .fieldLink RX3 9 "PolyDrumsModel" "counts" "[I", .fieldLink RX3 13 "PolyDrumsModel" "ticks" "[I", .fieldLink RX3 19 "PolyDrumsModel" "rings" "[I", .methodLink RX3 51 yX3_isIn, .static yX3_isIn, .initialized RX3, .code yX3_isIn cX3_isIn 3 (some .boolean), .methodLink RX3 64 yX3_no, .instanceMethod yX3_no, .selects RX3 yX3_no yX3_no, .code yX3_no cX3_no 2 (some .int), .methodLink RX3 68 yX3_plain, .instanceMethod yX3_plain, .selects RX3 yX3_plain yX3_plain, .code yX3_plain cX3_plain 4 none, .fieldLink RX3 29 "PolyDrumsModel" "steps" "[I", .methodLink RX3 60 yX3_at, .static yX3_at, .code yX3_at cX3_at 2 (some .int)] ++ wsX30)
def wsX3_set : List Cond := .code yX3_set cX3_set 6 (some .int) :: ([.fieldLink RX3 45 "PolyDrumsModel" "thrown" "I", .fieldLink RX3 29 "PolyDrumsModel" "steps" "[I", .methodLink RX3 72 yX3_isStep, .instanceMethod yX3_isStep, .selects RX3 yX3_isStep yX3_isStep, .initialized RX3, .code yX3_isStep cX3_isStep 3 (some .boolean), .fieldLink RX3 9 "PolyDrumsModel" "counts" "[I", .methodLink RX3 55 yX3_isTrack, .instanceMethod yX3_isTrack, .selects RX3 yX3_isTrack yX3_isTrack, .code yX3_isTrack cX3_isTrack 2 (some .boolean), .fieldLink RX3 48 "PolyDrumsModel" "tracks" "I", .methodLink RX3 51 yX3_isIn, .static yX3_isIn, .code yX3_isIn cX3_isIn 3 (some .boolean), .methodLink RX3 64 yX3_no, .instanceMethod yX3_no, .selects RX3 yX3_no yX3_no, .code yX3_no cX3_no 2 (some .int), .methodLink RX3 60 yX3_at, .static yX3_at, .code yX3_at cX3_at 2 (some .int)] ++ wsX30)
def wsX3_setTurn : List Cond := .code yX3_setTurn cX3_setTurn 6 (some .int) :: ([.fieldLink RX3 45 "PolyDrumsModel" "thrown" "I", .fieldLink RX3 29 "PolyDrumsModel" "steps" "[I", .methodLink RX3 72 yX3_isStep, .instanceMethod yX3_isStep, .selects RX3 yX3_isStep yX3_isStep, .initialized RX3, .code yX3_isStep cX3_isStep 3 (some .boolean), .fieldLink RX3 9 "PolyDrumsModel" "counts" "[I", .methodLink RX3 55 yX3_isTrack, .instanceMethod yX3_isTrack, .selects RX3 yX3_isTrack yX3_isTrack, .code yX3_isTrack cX3_isTrack 2 (some .boolean), .fieldLink RX3 48 "PolyDrumsModel" "tracks" "I", .methodLink RX3 51 yX3_isIn, .static yX3_isIn, .code yX3_isIn cX3_isIn 3 (some .boolean), .methodLink RX3 64 yX3_no, .instanceMethod yX3_no, .selects RX3 yX3_no yX3_no, .code yX3_no cX3_no 2 (some .int), .methodLink RX3 60 yX3_at, .static yX3_at, .code yX3_at cX3_at 2 (some .int)] ++ wsX30)
def wsX3_delay : List Cond := .code yX3_delay cX3_delay 3 (some .int) :: ([.fieldLink RX3 16 "PolyDrumsModel" "swings" "[I"] ++ wsX30)
def wsX3_step_r1 : List Cond := [Cond.fieldLink RX3 45 "PolyDrumsModel" "thrown" "I", Cond.fieldLink RX3 29 "PolyDrumsModel" "steps" "[I", Cond.methodLink RX3 72 yX3_isStep, Cond.instanceMethod yX3_isStep, Cond.selects RX3 yX3_isStep yX3_isStep, Cond.initialized RX3, Cond.code yX3_isStep cX3_isStep 3 (some .boolean), Cond.fieldLink RX3 9 "PolyDrumsModel" "counts" "[I", Cond.methodLink RX3 55 yX3_isTrack, Cond.instanceMethod yX3_isTrack, Cond.selects RX3 yX3_isTrack yX3_isTrack, Cond.code yX3_isTrack cX3_isTrack 2 (some .boolean), Cond.fieldLink RX3 48 "PolyDrumsModel" "tracks" "I", Cond.methodLink RX3 51 yX3_isIn, Cond.static yX3_isIn, Cond.code yX3_isIn cX3_isIn 3 (some .boolean), Cond.methodLink RX3 64 yX3_no, Cond.instanceMethod yX3_no, Cond.selects RX3 yX3_no yX3_no, Cond.code yX3_no cX3_no 2 (some .int), Cond.methodLink RX3 76 yX3_delay, Cond.instanceMethod yX3_delay, Cond.selects RX3 yX3_delay yX3_delay, Cond.code yX3_delay cX3_delay 3 (some .int)]
def wsX3_step_r2 : List Cond := [Cond.fieldLink RX3 16 "PolyDrumsModel" "swings" "[I", Cond.methodLink RX3 60 yX3_at, Cond.static yX3_at, Cond.code yX3_at cX3_at 2 (some .int)]
def wsX3_step : List Cond := .code yX3_step cX3_step 4 (some .int) :: ((wsX3_step_r1 ++ wsX3_step_r2) ++ wsX30)
def wsX3_told : List Cond := .code yX3_told cX3_told 3 (some .int) :: ([.fieldLink RX3 9 "PolyDrumsModel" "counts" "[I", .fieldLink RX3 13 "PolyDrumsModel" "ticks" "[I", .fieldLink RX3 16 "PolyDrumsModel" "swings" "[I", .fieldLink RX3 19 "PolyDrumsModel" "rings" "[I", .fieldLink RX3 22 "PolyDrumsModel" "groups" "[I", .fieldLink RX3 25 "PolyDrumsModel" "flags" "[Z"] ++ wsX30)
def wsX3_track : List Cond := .code yX3_track cX3_track 3 (some .int) :: ([.fieldLink RX3 45 "PolyDrumsModel" "thrown" "I", .methodLink RX3 55 yX3_isTrack, .instanceMethod yX3_isTrack, .selects RX3 yX3_isTrack yX3_isTrack, .initialized RX3, .code yX3_isTrack cX3_isTrack 2 (some .boolean), .fieldLink RX3 48 "PolyDrumsModel" "tracks" "I", .methodLink RX3 51 yX3_isIn, .static yX3_isIn, .code yX3_isIn cX3_isIn 3 (some .boolean), .methodLink RX3 79 yX3_told, .instanceMethod yX3_told, .selects RX3 yX3_told yX3_told, .code yX3_told cX3_told 3 (some .int), .fieldLink RX3 9 "PolyDrumsModel" "counts" "[I", .fieldLink RX3 13 "PolyDrumsModel" "ticks" "[I", .fieldLink RX3 16 "PolyDrumsModel" "swings" "[I", .fieldLink RX3 19 "PolyDrumsModel" "rings" "[I", .fieldLink RX3 22 "PolyDrumsModel" "groups" "[I", .fieldLink RX3 25 "PolyDrumsModel" "flags" "[Z", .methodLink RX3 64 yX3_no, .instanceMethod yX3_no, .selects RX3 yX3_no yX3_no, .code yX3_no cX3_no 2 (some .int)] ++ wsX30)
def wsX3_tune : List Cond := .code yX3_tune cX3_tune 6 (some .int) :: ([.fieldLink RX3 45 "PolyDrumsModel" "thrown" "I", .fieldLink RX3 13 "PolyDrumsModel" "ticks" "[I", .fieldLink RX3 16 "PolyDrumsModel" "swings" "[I", .fieldLink RX3 19 "PolyDrumsModel" "rings" "[I", .fieldLink RX3 22 "PolyDrumsModel" "groups" "[I", .methodLink RX3 55 yX3_isTrack, .instanceMethod yX3_isTrack, .selects RX3 yX3_isTrack yX3_isTrack, .initialized RX3, .code yX3_isTrack cX3_isTrack 2 (some .boolean), .fieldLink RX3 48 "PolyDrumsModel" "tracks" "I", .methodLink RX3 51 yX3_isIn, .static yX3_isIn, .code yX3_isIn cX3_isIn 3 (some .boolean), .methodLink RX3 64 yX3_no, .instanceMethod yX3_no, .selects RX3 yX3_no yX3_no, .code yX3_no cX3_no 2 (some .int)] ++ wsX30)
def wsX3_turn : List Cond := .code yX3_turn cX3_turn 5 (some .boolean) :: ([.fieldLink RX3 45 "PolyDrumsModel" "thrown" "I", .fieldLink RX3 25 "PolyDrumsModel" "flags" "[Z", .methodLink RX3 55 yX3_isTrack, .instanceMethod yX3_isTrack, .selects RX3 yX3_isTrack yX3_isTrack, .initialized RX3, .code yX3_isTrack cX3_isTrack 2 (some .boolean), .fieldLink RX3 48 "PolyDrumsModel" "tracks" "I", .methodLink RX3 51 yX3_isIn, .static yX3_isIn, .code yX3_isIn cX3_isIn 3 (some .boolean)] ++ wsX30)
def wsX3_spread : List Cond := .code yX3_spread cX3_spread 7 (some .int) :: ([.fieldLink RX3 45 "PolyDrumsModel" "thrown" "I", .fieldLink RX3 9 "PolyDrumsModel" "counts" "[I", .methodLink RX3 55 yX3_isTrack, .instanceMethod yX3_isTrack, .selects RX3 yX3_isTrack yX3_isTrack, .initialized RX3, .code yX3_isTrack cX3_isTrack 2 (some .boolean), .fieldLink RX3 48 "PolyDrumsModel" "tracks" "I", .methodLink RX3 51 yX3_isIn, .static yX3_isIn, .code yX3_isIn cX3_isIn 3 (some .boolean), .methodLink RX3 64 yX3_no, .instanceMethod yX3_no, .selects RX3 yX3_no yX3_no, .code yX3_no cX3_no 2 (some .int), .methodLink RX3 68 yX3_plain, .instanceMethod yX3_plain, .selects RX3 yX3_plain yX3_plain, .code yX3_plain cX3_plain 4 none, .fieldLink RX3 29 "PolyDrumsModel" "steps" "[I", .methodLink RX3 60 yX3_at, .static yX3_at, .code yX3_at cX3_at 2 (some .int)] ++ wsX30)
def wsX3_take : List Cond := .code yX3_take cX3_take 6 none :: ([.fieldLink RX3 9 "PolyDrumsModel" "counts" "[I", .fieldLink RX3 29 "PolyDrumsModel" "steps" "[I", .methodLink RX3 82 arraycopyName, .native arraycopyName, .static arraycopyName, .initialized "java/lang/System", .methodLink RX3 60 yX3_at, .static yX3_at, .initialized RX3, .code yX3_at cX3_at 2 (some .int)] ++ wsX30)
def wsX3_loud : List Cond := .code yX3_loud cX3_loud 4 (some .int) :: ([.fieldLink RX3 9 "PolyDrumsModel" "counts" "[I", .fieldLink RX3 29 "PolyDrumsModel" "steps" "[I", .methodLink RX3 60 yX3_at, .static yX3_at, .initialized RX3, .code yX3_at cX3_at 2 (some .int)] ++ wsX30)
def wsX3_rotate_r1 : List Cond := [Cond.fieldLink RX3 45 "PolyDrumsModel" "thrown" "I", Cond.fieldLink RX3 9 "PolyDrumsModel" "counts" "[I", Cond.fieldLink RX3 29 "PolyDrumsModel" "steps" "[I", Cond.methodLink RX3 88 ⟨"[I", "clone", "()Ljava/lang/Object;"⟩, Cond.sameMethod "[I" "java/lang/Object" "clone" "()Ljava/lang/Object;", Cond.native ⟨"java/lang/Object", "clone", "()Ljava/lang/Object;"⟩, Cond.instanceMethod ⟨"java/lang/Object", "clone", "()Ljava/lang/Object;"⟩, Cond.selects "[I" ⟨"[I", "clone", "()Ljava/lang/Object;"⟩ ⟨"java/lang/Object", "clone", "()Ljava/lang/Object;"⟩, Cond.classLink RX3 89 "[I", Cond.methodLink RX3 55 yX3_isTrack, Cond.instanceMethod yX3_isTrack, Cond.selects RX3 yX3_isTrack yX3_isTrack, Cond.initialized RX3, Cond.code yX3_isTrack cX3_isTrack 2 (some .boolean), Cond.fieldLink RX3 48 "PolyDrumsModel" "tracks" "I", Cond.methodLink RX3 51 yX3_isIn, Cond.static yX3_isIn, Cond.code yX3_isIn cX3_isIn 3 (some .boolean), Cond.methodLink RX3 64 yX3_no, Cond.instanceMethod yX3_no, Cond.selects RX3 yX3_no yX3_no, Cond.code yX3_no cX3_no 2 (some .int), Cond.methodLink RX3 93 yX3_take, Cond.instanceMethod yX3_take]
def wsX3_rotate_r2 : List Cond := [Cond.selects RX3 yX3_take yX3_take, Cond.code yX3_take cX3_take 6 none, Cond.methodLink RX3 82 arraycopyName, Cond.native arraycopyName, Cond.static arraycopyName, Cond.initialized "java/lang/System", Cond.methodLink RX3 60 yX3_at, Cond.static yX3_at, Cond.code yX3_at cX3_at 2 (some .int), Cond.methodLink RX3 97 yX3_loud, Cond.instanceMethod yX3_loud, Cond.selects RX3 yX3_loud yX3_loud, Cond.code yX3_loud cX3_loud 4 (some .int)]
def wsX3_rotate : List Cond := .code yX3_rotate cX3_rotate 4 (some .int) :: ((wsX3_rotate_r1 ++ wsX3_rotate_r2) ++ wsX30)
def wsX3_stretch_r1 : List Cond := [Cond.fieldLink RX3 45 "PolyDrumsModel" "thrown" "I", Cond.fieldLink RX3 9 "PolyDrumsModel" "counts" "[I", Cond.fieldLink RX3 29 "PolyDrumsModel" "steps" "[I", Cond.methodLink RX3 88 ⟨"[I", "clone", "()Ljava/lang/Object;"⟩, Cond.sameMethod "[I" "java/lang/Object" "clone" "()Ljava/lang/Object;", Cond.native ⟨"java/lang/Object", "clone", "()Ljava/lang/Object;"⟩, Cond.instanceMethod ⟨"java/lang/Object", "clone", "()Ljava/lang/Object;"⟩, Cond.selects "[I" ⟨"[I", "clone", "()Ljava/lang/Object;"⟩ ⟨"java/lang/Object", "clone", "()Ljava/lang/Object;"⟩, Cond.classLink RX3 89 "[I", Cond.methodLink RX3 55 yX3_isTrack, Cond.instanceMethod yX3_isTrack, Cond.selects RX3 yX3_isTrack yX3_isTrack, Cond.initialized RX3, Cond.code yX3_isTrack cX3_isTrack 2 (some .boolean), Cond.fieldLink RX3 48 "PolyDrumsModel" "tracks" "I", Cond.methodLink RX3 51 yX3_isIn, Cond.static yX3_isIn, Cond.code yX3_isIn cX3_isIn 3 (some .boolean), Cond.methodLink RX3 64 yX3_no, Cond.instanceMethod yX3_no, Cond.selects RX3 yX3_no yX3_no, Cond.code yX3_no cX3_no 2 (some .int), Cond.methodLink RX3 93 yX3_take, Cond.instanceMethod yX3_take]
def wsX3_stretch_r2 : List Cond := [Cond.selects RX3 yX3_take yX3_take, Cond.code yX3_take cX3_take 6 none, Cond.methodLink RX3 82 arraycopyName, Cond.native arraycopyName, Cond.static arraycopyName, Cond.initialized "java/lang/System", Cond.methodLink RX3 60 yX3_at, Cond.static yX3_at, Cond.code yX3_at cX3_at 2 (some .int)]
def wsX3_stretch : List Cond := .code yX3_stretch cX3_stretch 4 (some .int) :: ((wsX3_stretch_r1 ++ wsX3_stretch_r2) ++ wsX30)
def wsX3_tap_r1 : List Cond := [Cond.fieldLink RX3 45 "PolyDrumsModel" "thrown" "I", Cond.fieldLink RX3 9 "PolyDrumsModel" "counts" "[I", Cond.fieldLink RX3 13 "PolyDrumsModel" "ticks" "[I", Cond.methodLink RX3 103 Lib.Math.min.name, Cond.static Lib.Math.min.name, Cond.initialized "java/lang/Math", Cond.code Lib.Math.min.name Lib.Math.min.code 2 (some .int), Cond.methodLink RX3 108 Lib.Math.abs.name, Cond.static Lib.Math.abs.name, Cond.code Lib.Math.abs.name Lib.Math.abs.code 1 (some .int), Cond.fieldLink RX3 29 "PolyDrumsModel" "steps" "[I", Cond.methodLink RX3 55 yX3_isTrack, Cond.instanceMethod yX3_isTrack, Cond.selects RX3 yX3_isTrack yX3_isTrack, Cond.initialized RX3, Cond.code yX3_isTrack cX3_isTrack 2 (some .boolean), Cond.fieldLink RX3 48 "PolyDrumsModel" "tracks" "I", Cond.methodLink RX3 51 yX3_isIn, Cond.static yX3_isIn, Cond.code yX3_isIn cX3_isIn 3 (some .boolean), Cond.methodLink RX3 64 yX3_no, Cond.instanceMethod yX3_no, Cond.selects RX3 yX3_no yX3_no, Cond.code yX3_no cX3_no 2 (some .int)]
def wsX3_tap_r2 : List Cond := [Cond.methodLink RX3 100 yX3_isTick, Cond.static yX3_isTick, Cond.code yX3_isTick cX3_isTick 1 (some .boolean), Cond.constant RX3 59 (99999), Cond.methodLink RX3 76 yX3_delay, Cond.instanceMethod yX3_delay, Cond.selects RX3 yX3_delay yX3_delay, Cond.code yX3_delay cX3_delay 3 (some .int), Cond.fieldLink RX3 16 "PolyDrumsModel" "swings" "[I", Cond.methodLink RX3 60 yX3_at, Cond.static yX3_at, Cond.code yX3_at cX3_at 2 (some .int)]
def wsX3_tap : List Cond := .code yX3_tap cX3_tap 10 (some .int) :: ((wsX3_tap_r1 ++ wsX3_tap_r2) ++ wsX30)
def wsX3_tracks : List Cond := .code yX3_tracks cX3_tracks 1 (some .int) :: ([.fieldLink RX3 45 "PolyDrumsModel" "thrown" "I", .fieldLink RX3 48 "PolyDrumsModel" "tracks" "I"] ++ wsX30)
def wsX3_addSection : List Cond := .code yX3_addSection cX3_addSection 4 (some .int) :: ([.fieldLink RX3 45 "PolyDrumsModel" "thrown" "I", .fieldLink RX3 111 "PolyDrumsModel" "sections" "I", .fieldLink RX3 35 "PolyDrumsModel" "sets" "[I", .fieldLink RX3 38 "PolyDrumsModel" "areNew" "[Z", .fieldLink RX3 32 "PolyDrumsModel" "begins" "[I", .methodLink RX3 51 yX3_isIn, .static yX3_isIn, .initialized RX3, .code yX3_isIn cX3_isIn 3 (some .boolean), .methodLink RX3 64 yX3_no, .instanceMethod yX3_no, .selects RX3 yX3_no yX3_no, .code yX3_no cX3_no 2 (some .int)] ++ wsX30)
def wsX3_dropSection : List Cond := .code yX3_dropSection cX3_dropSection 1 (some .int) :: ([.fieldLink RX3 45 "PolyDrumsModel" "thrown" "I", .fieldLink RX3 111 "PolyDrumsModel" "sections" "I", .methodLink RX3 64 yX3_no, .instanceMethod yX3_no, .selects RX3 yX3_no yX3_no, .initialized RX3, .code yX3_no cX3_no 2 (some .int)] ++ wsX30)
def wsX3_section : List Cond := .code yX3_section cX3_section 3 (some .int) :: ([.fieldLink RX3 111 "PolyDrumsModel" "sections" "I", .fieldLink RX3 32 "PolyDrumsModel" "begins" "[I"] ++ wsX30)
def wsX3_sectionAt : List Cond := .code yX3_sectionAt cX3_sectionAt 2 (some .int) :: ([.fieldLink RX3 45 "PolyDrumsModel" "thrown" "I", .methodLink RX3 100 yX3_isTick, .static yX3_isTick, .initialized RX3, .code yX3_isTick cX3_isTick 1 (some .boolean), .constant RX3 59 (99999), .methodLink RX3 51 yX3_isIn, .static yX3_isIn, .code yX3_isIn cX3_isIn 3 (some .boolean), .methodLink RX3 114 yX3_section, .instanceMethod yX3_section, .selects RX3 yX3_section yX3_section, .code yX3_section cX3_section 3 (some .int), .fieldLink RX3 111 "PolyDrumsModel" "sections" "I", .fieldLink RX3 32 "PolyDrumsModel" "begins" "[I", .methodLink RX3 64 yX3_no, .instanceMethod yX3_no, .selects RX3 yX3_no yX3_no, .code yX3_no cX3_no 2 (some .int)] ++ wsX30)
def wsX3_length : List Cond := .code yX3_length cX3_length 1 (some .int) :: ([.fieldLink RX3 45 "PolyDrumsModel" "thrown" "I", .fieldLink RX3 32 "PolyDrumsModel" "begins" "[I", .fieldLink RX3 111 "PolyDrumsModel" "sections" "I"] ++ wsX30)
def wsX3_isSilent : List Cond := .code yX3_isSilent cX3_isSilent 4 (some .boolean) :: ([.fieldLink RX3 48 "PolyDrumsModel" "tracks" "I", .fieldLink RX3 25 "PolyDrumsModel" "flags" "[Z"] ++ wsX30)
def wsX3_strike_r1 : List Cond := [Cond.fieldLink RX3 111 "PolyDrumsModel" "sections" "I", Cond.fieldLink RX3 35 "PolyDrumsModel" "sets" "[I", Cond.fieldLink RX3 38 "PolyDrumsModel" "areNew" "[Z", Cond.fieldLink RX3 32 "PolyDrumsModel" "begins" "[I", Cond.fieldLink RX3 13 "PolyDrumsModel" "ticks" "[I", Cond.fieldLink RX3 9 "PolyDrumsModel" "counts" "[I", Cond.fieldLink RX3 29 "PolyDrumsModel" "steps" "[I", Cond.methodLink RX3 117 yX3_isSilent, Cond.instanceMethod yX3_isSilent, Cond.selects RX3 yX3_isSilent yX3_isSilent, Cond.initialized RX3, Cond.code yX3_isSilent cX3_isSilent 4 (some .boolean), Cond.fieldLink RX3 48 "PolyDrumsModel" "tracks" "I", Cond.fieldLink RX3 25 "PolyDrumsModel" "flags" "[Z", Cond.methodLink RX3 114 yX3_section, Cond.instanceMethod yX3_section, Cond.selects RX3 yX3_section yX3_section, Cond.code yX3_section cX3_section 3 (some .int), Cond.methodLink RX3 60 yX3_at, Cond.static yX3_at, Cond.code yX3_at cX3_at 2 (some .int), Cond.methodLink RX3 76 yX3_delay, Cond.instanceMethod yX3_delay, Cond.selects RX3 yX3_delay yX3_delay]
def wsX3_strike_r2 : List Cond := [Cond.code yX3_delay cX3_delay 3 (some .int), Cond.fieldLink RX3 16 "PolyDrumsModel" "swings" "[I"]
def wsX3_strike : List Cond := .code yX3_strike cX3_strike 12 (some .int) :: ((wsX3_strike_r1 ++ wsX3_strike_r2) ++ wsX30)
def wsX3_loud__r1 : List Cond := [Cond.fieldLink RX3 25 "PolyDrumsModel" "flags" "[Z", Cond.fieldLink RX3 48 "PolyDrumsModel" "tracks" "I", Cond.methodLink RX3 103 Lib.Math.min.name, Cond.static Lib.Math.min.name, Cond.initialized "java/lang/Math", Cond.code Lib.Math.min.name Lib.Math.min.code 2 (some .int), Cond.methodLink RX3 120 yX3_strike, Cond.instanceMethod yX3_strike, Cond.selects RX3 yX3_strike yX3_strike, Cond.initialized RX3, Cond.code yX3_strike cX3_strike 12 (some .int), Cond.fieldLink RX3 111 "PolyDrumsModel" "sections" "I", Cond.fieldLink RX3 35 "PolyDrumsModel" "sets" "[I", Cond.fieldLink RX3 38 "PolyDrumsModel" "areNew" "[Z", Cond.fieldLink RX3 32 "PolyDrumsModel" "begins" "[I", Cond.fieldLink RX3 13 "PolyDrumsModel" "ticks" "[I", Cond.fieldLink RX3 9 "PolyDrumsModel" "counts" "[I", Cond.fieldLink RX3 29 "PolyDrumsModel" "steps" "[I", Cond.methodLink RX3 117 yX3_isSilent, Cond.instanceMethod yX3_isSilent, Cond.selects RX3 yX3_isSilent yX3_isSilent, Cond.code yX3_isSilent cX3_isSilent 4 (some .boolean), Cond.methodLink RX3 114 yX3_section, Cond.instanceMethod yX3_section]
def wsX3_loud__r2 : List Cond := [Cond.selects RX3 yX3_section yX3_section, Cond.code yX3_section cX3_section 3 (some .int), Cond.methodLink RX3 60 yX3_at, Cond.static yX3_at, Cond.code yX3_at cX3_at 2 (some .int), Cond.methodLink RX3 76 yX3_delay, Cond.instanceMethod yX3_delay, Cond.selects RX3 yX3_delay yX3_delay, Cond.code yX3_delay cX3_delay 3 (some .int), Cond.fieldLink RX3 16 "PolyDrumsModel" "swings" "[I"]
def wsX3_loud_ : List Cond := .code yX3_loud_ cX3_loud_ 6 (some .int) :: ((wsX3_loud__r1 ++ wsX3_loud__r2) ++ wsX30)
def wsX3_hits_r1 : List Cond := [Cond.fieldLink RX3 25 "PolyDrumsModel" "flags" "[Z", Cond.methodLink RX3 120 yX3_strike, Cond.instanceMethod yX3_strike, Cond.selects RX3 yX3_strike yX3_strike, Cond.initialized RX3, Cond.code yX3_strike cX3_strike 12 (some .int), Cond.fieldLink RX3 111 "PolyDrumsModel" "sections" "I", Cond.fieldLink RX3 35 "PolyDrumsModel" "sets" "[I", Cond.fieldLink RX3 38 "PolyDrumsModel" "areNew" "[Z", Cond.fieldLink RX3 32 "PolyDrumsModel" "begins" "[I", Cond.fieldLink RX3 13 "PolyDrumsModel" "ticks" "[I", Cond.fieldLink RX3 9 "PolyDrumsModel" "counts" "[I", Cond.fieldLink RX3 29 "PolyDrumsModel" "steps" "[I", Cond.methodLink RX3 117 yX3_isSilent, Cond.instanceMethod yX3_isSilent, Cond.selects RX3 yX3_isSilent yX3_isSilent, Cond.code yX3_isSilent cX3_isSilent 4 (some .boolean), Cond.fieldLink RX3 48 "PolyDrumsModel" "tracks" "I", Cond.methodLink RX3 114 yX3_section, Cond.instanceMethod yX3_section, Cond.selects RX3 yX3_section yX3_section, Cond.code yX3_section cX3_section 3 (some .int), Cond.methodLink RX3 60 yX3_at, Cond.static yX3_at]
def wsX3_hits_r2 : List Cond := [Cond.code yX3_at cX3_at 2 (some .int), Cond.methodLink RX3 76 yX3_delay, Cond.instanceMethod yX3_delay, Cond.selects RX3 yX3_delay yX3_delay, Cond.code yX3_delay cX3_delay 3 (some .int), Cond.fieldLink RX3 16 "PolyDrumsModel" "swings" "[I"]
def wsX3_hits : List Cond := .code yX3_hits cX3_hits 3 (some .boolean) :: ((wsX3_hits_r1 ++ wsX3_hits_r2) ++ wsX30)
def wsX3_loudness_r1 : List Cond := [Cond.fieldLink RX3 45 "PolyDrumsModel" "thrown" "I", Cond.methodLink RX3 55 yX3_isTrack, Cond.instanceMethod yX3_isTrack, Cond.selects RX3 yX3_isTrack yX3_isTrack, Cond.initialized RX3, Cond.code yX3_isTrack cX3_isTrack 2 (some .boolean), Cond.fieldLink RX3 48 "PolyDrumsModel" "tracks" "I", Cond.methodLink RX3 51 yX3_isIn, Cond.static yX3_isIn, Cond.code yX3_isIn cX3_isIn 3 (some .boolean), Cond.methodLink RX3 64 yX3_no, Cond.instanceMethod yX3_no, Cond.selects RX3 yX3_no yX3_no, Cond.code yX3_no cX3_no 2 (some .int), Cond.methodLink RX3 100 yX3_isTick, Cond.static yX3_isTick, Cond.code yX3_isTick cX3_isTick 1 (some .boolean), Cond.constant RX3 59 (99999), Cond.methodLink RX3 123 yX3_loud_, Cond.instanceMethod yX3_loud_, Cond.selects RX3 yX3_loud_ yX3_loud_, Cond.code yX3_loud_ cX3_loud_ 6 (some .int), Cond.fieldLink RX3 25 "PolyDrumsModel" "flags" "[Z", Cond.methodLink RX3 103 Lib.Math.min.name]
def wsX3_loudness_r2 : List Cond := [Cond.static Lib.Math.min.name, Cond.initialized "java/lang/Math", Cond.code Lib.Math.min.name Lib.Math.min.code 2 (some .int), Cond.methodLink RX3 120 yX3_strike, Cond.instanceMethod yX3_strike, Cond.selects RX3 yX3_strike yX3_strike, Cond.code yX3_strike cX3_strike 12 (some .int), Cond.fieldLink RX3 111 "PolyDrumsModel" "sections" "I", Cond.fieldLink RX3 35 "PolyDrumsModel" "sets" "[I", Cond.fieldLink RX3 38 "PolyDrumsModel" "areNew" "[Z", Cond.fieldLink RX3 32 "PolyDrumsModel" "begins" "[I", Cond.fieldLink RX3 13 "PolyDrumsModel" "ticks" "[I", Cond.fieldLink RX3 9 "PolyDrumsModel" "counts" "[I", Cond.fieldLink RX3 29 "PolyDrumsModel" "steps" "[I", Cond.methodLink RX3 117 yX3_isSilent, Cond.instanceMethod yX3_isSilent, Cond.selects RX3 yX3_isSilent yX3_isSilent, Cond.code yX3_isSilent cX3_isSilent 4 (some .boolean), Cond.methodLink RX3 114 yX3_section, Cond.instanceMethod yX3_section, Cond.selects RX3 yX3_section yX3_section, Cond.code yX3_section cX3_section 3 (some .int), Cond.methodLink RX3 60 yX3_at, Cond.static yX3_at]
def wsX3_loudness_r3 : List Cond := [Cond.code yX3_at cX3_at 2 (some .int), Cond.methodLink RX3 76 yX3_delay, Cond.instanceMethod yX3_delay, Cond.selects RX3 yX3_delay yX3_delay, Cond.code yX3_delay cX3_delay 3 (some .int), Cond.fieldLink RX3 16 "PolyDrumsModel" "swings" "[I"]
def wsX3_loudness : List Cond := .code yX3_loudness cX3_loudness 3 (some .int) :: ((wsX3_loudness_r1 ++ (wsX3_loudness_r2 ++ wsX3_loudness_r3)) ++ wsX30)
def wsX3_hits__r1 : List Cond := [Cond.fieldLink RX3 45 "PolyDrumsModel" "thrown" "I", Cond.fieldLink RX3 48 "PolyDrumsModel" "tracks" "I", Cond.methodLink RX3 100 yX3_isTick, Cond.static yX3_isTick, Cond.initialized RX3, Cond.code yX3_isTick cX3_isTick 1 (some .boolean), Cond.constant RX3 59 (99999), Cond.methodLink RX3 51 yX3_isIn, Cond.static yX3_isIn, Cond.code yX3_isIn cX3_isIn 3 (some .boolean), Cond.methodLink RX3 64 yX3_no, Cond.instanceMethod yX3_no, Cond.selects RX3 yX3_no yX3_no, Cond.code yX3_no cX3_no 2 (some .int), Cond.methodLink RX3 125 yX3_hits, Cond.instanceMethod yX3_hits, Cond.selects RX3 yX3_hits yX3_hits, Cond.code yX3_hits cX3_hits 3 (some .boolean), Cond.fieldLink RX3 25 "PolyDrumsModel" "flags" "[Z", Cond.methodLink RX3 120 yX3_strike, Cond.instanceMethod yX3_strike, Cond.selects RX3 yX3_strike yX3_strike, Cond.code yX3_strike cX3_strike 12 (some .int), Cond.fieldLink RX3 111 "PolyDrumsModel" "sections" "I"]
def wsX3_hits__r2 : List Cond := [Cond.fieldLink RX3 35 "PolyDrumsModel" "sets" "[I", Cond.fieldLink RX3 38 "PolyDrumsModel" "areNew" "[Z", Cond.fieldLink RX3 32 "PolyDrumsModel" "begins" "[I", Cond.fieldLink RX3 13 "PolyDrumsModel" "ticks" "[I", Cond.fieldLink RX3 9 "PolyDrumsModel" "counts" "[I", Cond.fieldLink RX3 29 "PolyDrumsModel" "steps" "[I", Cond.methodLink RX3 117 yX3_isSilent, Cond.instanceMethod yX3_isSilent, Cond.selects RX3 yX3_isSilent yX3_isSilent, Cond.code yX3_isSilent cX3_isSilent 4 (some .boolean), Cond.methodLink RX3 114 yX3_section, Cond.instanceMethod yX3_section, Cond.selects RX3 yX3_section yX3_section, Cond.code yX3_section cX3_section 3 (some .int), Cond.methodLink RX3 60 yX3_at, Cond.static yX3_at, Cond.code yX3_at cX3_at 2 (some .int), Cond.methodLink RX3 76 yX3_delay, Cond.instanceMethod yX3_delay, Cond.selects RX3 yX3_delay yX3_delay, Cond.code yX3_delay cX3_delay 3 (some .int), Cond.fieldLink RX3 16 "PolyDrumsModel" "swings" "[I"]
def wsX3_hits_ : List Cond := .code yX3_hits_ cX3_hits_ 4 (some .int) :: ((wsX3_hits__r1 ++ wsX3_hits__r2) ++ wsX30)
def wsX3_sounds_r1 : List Cond := [Cond.fieldLink RX3 19 "PolyDrumsModel" "rings" "[I", Cond.fieldLink RX3 48 "PolyDrumsModel" "tracks" "I", Cond.fieldLink RX3 22 "PolyDrumsModel" "groups" "[I", Cond.methodLink RX3 125 yX3_hits, Cond.instanceMethod yX3_hits, Cond.selects RX3 yX3_hits yX3_hits, Cond.initialized RX3, Cond.code yX3_hits cX3_hits 3 (some .boolean), Cond.fieldLink RX3 25 "PolyDrumsModel" "flags" "[Z", Cond.methodLink RX3 120 yX3_strike, Cond.instanceMethod yX3_strike, Cond.selects RX3 yX3_strike yX3_strike, Cond.code yX3_strike cX3_strike 12 (some .int), Cond.fieldLink RX3 111 "PolyDrumsModel" "sections" "I", Cond.fieldLink RX3 35 "PolyDrumsModel" "sets" "[I", Cond.fieldLink RX3 38 "PolyDrumsModel" "areNew" "[Z", Cond.fieldLink RX3 32 "PolyDrumsModel" "begins" "[I", Cond.fieldLink RX3 13 "PolyDrumsModel" "ticks" "[I", Cond.fieldLink RX3 9 "PolyDrumsModel" "counts" "[I", Cond.fieldLink RX3 29 "PolyDrumsModel" "steps" "[I", Cond.methodLink RX3 117 yX3_isSilent, Cond.instanceMethod yX3_isSilent, Cond.selects RX3 yX3_isSilent yX3_isSilent, Cond.code yX3_isSilent cX3_isSilent 4 (some .boolean)]
def wsX3_sounds_r2 : List Cond := [Cond.methodLink RX3 114 yX3_section, Cond.instanceMethod yX3_section, Cond.selects RX3 yX3_section yX3_section, Cond.code yX3_section cX3_section 3 (some .int), Cond.methodLink RX3 60 yX3_at, Cond.static yX3_at, Cond.code yX3_at cX3_at 2 (some .int), Cond.methodLink RX3 76 yX3_delay, Cond.instanceMethod yX3_delay, Cond.selects RX3 yX3_delay yX3_delay, Cond.code yX3_delay cX3_delay 3 (some .int), Cond.fieldLink RX3 16 "PolyDrumsModel" "swings" "[I"]
def wsX3_sounds : List Cond := .code yX3_sounds cX3_sounds 7 (some .boolean) :: ((wsX3_sounds_r1 ++ wsX3_sounds_r2) ++ wsX30)
def wsX3_sounding_r1 : List Cond := [Cond.fieldLink RX3 45 "PolyDrumsModel" "thrown" "I", Cond.fieldLink RX3 48 "PolyDrumsModel" "tracks" "I", Cond.methodLink RX3 100 yX3_isTick, Cond.static yX3_isTick, Cond.initialized RX3, Cond.code yX3_isTick cX3_isTick 1 (some .boolean), Cond.constant RX3 59 (99999), Cond.methodLink RX3 51 yX3_isIn, Cond.static yX3_isIn, Cond.code yX3_isIn cX3_isIn 3 (some .boolean), Cond.methodLink RX3 64 yX3_no, Cond.instanceMethod yX3_no, Cond.selects RX3 yX3_no yX3_no, Cond.code yX3_no cX3_no 2 (some .int), Cond.methodLink RX3 128 yX3_sounds, Cond.instanceMethod yX3_sounds, Cond.selects RX3 yX3_sounds yX3_sounds, Cond.code yX3_sounds cX3_sounds 7 (some .boolean), Cond.fieldLink RX3 19 "PolyDrumsModel" "rings" "[I", Cond.fieldLink RX3 22 "PolyDrumsModel" "groups" "[I", Cond.methodLink RX3 125 yX3_hits, Cond.instanceMethod yX3_hits, Cond.selects RX3 yX3_hits yX3_hits, Cond.code yX3_hits cX3_hits 3 (some .boolean)]
def wsX3_sounding_r2 : List Cond := [Cond.fieldLink RX3 25 "PolyDrumsModel" "flags" "[Z", Cond.methodLink RX3 120 yX3_strike, Cond.instanceMethod yX3_strike, Cond.selects RX3 yX3_strike yX3_strike, Cond.code yX3_strike cX3_strike 12 (some .int), Cond.fieldLink RX3 111 "PolyDrumsModel" "sections" "I", Cond.fieldLink RX3 35 "PolyDrumsModel" "sets" "[I", Cond.fieldLink RX3 38 "PolyDrumsModel" "areNew" "[Z", Cond.fieldLink RX3 32 "PolyDrumsModel" "begins" "[I", Cond.fieldLink RX3 13 "PolyDrumsModel" "ticks" "[I", Cond.fieldLink RX3 9 "PolyDrumsModel" "counts" "[I", Cond.fieldLink RX3 29 "PolyDrumsModel" "steps" "[I", Cond.methodLink RX3 117 yX3_isSilent, Cond.instanceMethod yX3_isSilent, Cond.selects RX3 yX3_isSilent yX3_isSilent, Cond.code yX3_isSilent cX3_isSilent 4 (some .boolean), Cond.methodLink RX3 114 yX3_section, Cond.instanceMethod yX3_section, Cond.selects RX3 yX3_section yX3_section, Cond.code yX3_section cX3_section 3 (some .int), Cond.methodLink RX3 60 yX3_at, Cond.static yX3_at, Cond.code yX3_at cX3_at 2 (some .int), Cond.methodLink RX3 76 yX3_delay]
def wsX3_sounding_r3 : List Cond := [Cond.instanceMethod yX3_delay, Cond.selects RX3 yX3_delay yX3_delay, Cond.code yX3_delay cX3_delay 3 (some .int), Cond.fieldLink RX3 16 "PolyDrumsModel" "swings" "[I"]
def wsX3_sounding : List Cond := .code yX3_sounding cX3_sounding 4 (some .int) :: ((wsX3_sounding_r1 ++ (wsX3_sounding_r2 ++ wsX3_sounding_r3)) ++ wsX30)
def wsX3_next_r1 : List Cond := [Cond.fieldLink RX3 45 "PolyDrumsModel" "thrown" "I", Cond.constant RX3 59 (99999), Cond.methodLink RX3 55 yX3_isTrack, Cond.instanceMethod yX3_isTrack, Cond.selects RX3 yX3_isTrack yX3_isTrack, Cond.initialized RX3, Cond.code yX3_isTrack cX3_isTrack 2 (some .boolean), Cond.fieldLink RX3 48 "PolyDrumsModel" "tracks" "I", Cond.methodLink RX3 51 yX3_isIn, Cond.static yX3_isIn, Cond.code yX3_isIn cX3_isIn 3 (some .boolean), Cond.methodLink RX3 64 yX3_no, Cond.instanceMethod yX3_no, Cond.selects RX3 yX3_no yX3_no, Cond.code yX3_no cX3_no 2 (some .int), Cond.methodLink RX3 100 yX3_isTick, Cond.static yX3_isTick, Cond.code yX3_isTick cX3_isTick 1 (some .boolean), Cond.methodLink RX3 125 yX3_hits, Cond.instanceMethod yX3_hits, Cond.selects RX3 yX3_hits yX3_hits, Cond.code yX3_hits cX3_hits 3 (some .boolean), Cond.fieldLink RX3 25 "PolyDrumsModel" "flags" "[Z", Cond.methodLink RX3 120 yX3_strike]
def wsX3_next_r2 : List Cond := [Cond.instanceMethod yX3_strike, Cond.selects RX3 yX3_strike yX3_strike, Cond.code yX3_strike cX3_strike 12 (some .int), Cond.fieldLink RX3 111 "PolyDrumsModel" "sections" "I", Cond.fieldLink RX3 35 "PolyDrumsModel" "sets" "[I", Cond.fieldLink RX3 38 "PolyDrumsModel" "areNew" "[Z", Cond.fieldLink RX3 32 "PolyDrumsModel" "begins" "[I", Cond.fieldLink RX3 13 "PolyDrumsModel" "ticks" "[I", Cond.fieldLink RX3 9 "PolyDrumsModel" "counts" "[I", Cond.fieldLink RX3 29 "PolyDrumsModel" "steps" "[I", Cond.methodLink RX3 117 yX3_isSilent, Cond.instanceMethod yX3_isSilent, Cond.selects RX3 yX3_isSilent yX3_isSilent, Cond.code yX3_isSilent cX3_isSilent 4 (some .boolean), Cond.methodLink RX3 114 yX3_section, Cond.instanceMethod yX3_section, Cond.selects RX3 yX3_section yX3_section, Cond.code yX3_section cX3_section 3 (some .int), Cond.methodLink RX3 60 yX3_at, Cond.static yX3_at, Cond.code yX3_at cX3_at 2 (some .int), Cond.methodLink RX3 76 yX3_delay, Cond.instanceMethod yX3_delay, Cond.selects RX3 yX3_delay yX3_delay]
def wsX3_next_r3 : List Cond := [Cond.code yX3_delay cX3_delay 3 (some .int), Cond.fieldLink RX3 16 "PolyDrumsModel" "swings" "[I"]
def wsX3_next : List Cond := .code yX3_next cX3_next 4 (some .int) :: ((wsX3_next_r1 ++ (wsX3_next_r2 ++ wsX3_next_r3)) ++ wsX30)
def wsX3_isSpan : List Cond := .code yX3_isSpan cX3_isSpan 2 (some .boolean) :: ([.methodLink RX3 100 yX3_isTick, .static yX3_isTick, .initialized RX3, .code yX3_isTick cX3_isTick 1 (some .boolean), .constant RX3 59 (99999), .methodLink RX3 51 yX3_isIn, .static yX3_isIn, .code yX3_isIn cX3_isIn 3 (some .boolean)])
def wsX3_count_r1 : List Cond := [Cond.fieldLink RX3 45 "PolyDrumsModel" "thrown" "I", Cond.methodLink RX3 55 yX3_isTrack, Cond.instanceMethod yX3_isTrack, Cond.selects RX3 yX3_isTrack yX3_isTrack, Cond.initialized RX3, Cond.code yX3_isTrack cX3_isTrack 2 (some .boolean), Cond.fieldLink RX3 48 "PolyDrumsModel" "tracks" "I", Cond.methodLink RX3 51 yX3_isIn, Cond.static yX3_isIn, Cond.code yX3_isIn cX3_isIn 3 (some .boolean), Cond.methodLink RX3 64 yX3_no, Cond.instanceMethod yX3_no, Cond.selects RX3 yX3_no yX3_no, Cond.code yX3_no cX3_no 2 (some .int), Cond.methodLink RX3 131 yX3_isSpan, Cond.static yX3_isSpan, Cond.code yX3_isSpan cX3_isSpan 2 (some .boolean), Cond.methodLink RX3 100 yX3_isTick, Cond.static yX3_isTick, Cond.code yX3_isTick cX3_isTick 1 (some .boolean), Cond.constant RX3 59 (99999), Cond.methodLink RX3 125 yX3_hits, Cond.instanceMethod yX3_hits, Cond.selects RX3 yX3_hits yX3_hits]
def wsX3_count_r2 : List Cond := [Cond.code yX3_hits cX3_hits 3 (some .boolean), Cond.fieldLink RX3 25 "PolyDrumsModel" "flags" "[Z", Cond.methodLink RX3 120 yX3_strike, Cond.instanceMethod yX3_strike, Cond.selects RX3 yX3_strike yX3_strike, Cond.code yX3_strike cX3_strike 12 (some .int), Cond.fieldLink RX3 111 "PolyDrumsModel" "sections" "I", Cond.fieldLink RX3 35 "PolyDrumsModel" "sets" "[I", Cond.fieldLink RX3 38 "PolyDrumsModel" "areNew" "[Z", Cond.fieldLink RX3 32 "PolyDrumsModel" "begins" "[I", Cond.fieldLink RX3 13 "PolyDrumsModel" "ticks" "[I", Cond.fieldLink RX3 9 "PolyDrumsModel" "counts" "[I", Cond.fieldLink RX3 29 "PolyDrumsModel" "steps" "[I", Cond.methodLink RX3 117 yX3_isSilent, Cond.instanceMethod yX3_isSilent, Cond.selects RX3 yX3_isSilent yX3_isSilent, Cond.code yX3_isSilent cX3_isSilent 4 (some .boolean), Cond.methodLink RX3 114 yX3_section, Cond.instanceMethod yX3_section, Cond.selects RX3 yX3_section yX3_section, Cond.code yX3_section cX3_section 3 (some .int), Cond.methodLink RX3 60 yX3_at, Cond.static yX3_at, Cond.code yX3_at cX3_at 2 (some .int)]
def wsX3_count_r3 : List Cond := [Cond.methodLink RX3 76 yX3_delay, Cond.instanceMethod yX3_delay, Cond.selects RX3 yX3_delay yX3_delay, Cond.code yX3_delay cX3_delay 3 (some .int), Cond.fieldLink RX3 16 "PolyDrumsModel" "swings" "[I"]
def wsX3_count : List Cond := .code yX3_count cX3_count 6 (some .int) :: ((wsX3_count_r1 ++ (wsX3_count_r2 ++ wsX3_count_r3)) ++ wsX30)
def wsX3_together_r1 : List Cond := [Cond.fieldLink RX3 45 "PolyDrumsModel" "thrown" "I", Cond.methodLink RX3 55 yX3_isTrack, Cond.instanceMethod yX3_isTrack, Cond.selects RX3 yX3_isTrack yX3_isTrack, Cond.initialized RX3, Cond.code yX3_isTrack cX3_isTrack 2 (some .boolean), Cond.fieldLink RX3 48 "PolyDrumsModel" "tracks" "I", Cond.methodLink RX3 51 yX3_isIn, Cond.static yX3_isIn, Cond.code yX3_isIn cX3_isIn 3 (some .boolean), Cond.methodLink RX3 64 yX3_no, Cond.instanceMethod yX3_no, Cond.selects RX3 yX3_no yX3_no, Cond.code yX3_no cX3_no 2 (some .int), Cond.methodLink RX3 131 yX3_isSpan, Cond.static yX3_isSpan, Cond.code yX3_isSpan cX3_isSpan 2 (some .boolean), Cond.methodLink RX3 100 yX3_isTick, Cond.static yX3_isTick, Cond.code yX3_isTick cX3_isTick 1 (some .boolean), Cond.constant RX3 59 (99999), Cond.methodLink RX3 125 yX3_hits, Cond.instanceMethod yX3_hits, Cond.selects RX3 yX3_hits yX3_hits]
def wsX3_together_r2 : List Cond := [Cond.code yX3_hits cX3_hits 3 (some .boolean), Cond.fieldLink RX3 25 "PolyDrumsModel" "flags" "[Z", Cond.methodLink RX3 120 yX3_strike, Cond.instanceMethod yX3_strike, Cond.selects RX3 yX3_strike yX3_strike, Cond.code yX3_strike cX3_strike 12 (some .int), Cond.fieldLink RX3 111 "PolyDrumsModel" "sections" "I", Cond.fieldLink RX3 35 "PolyDrumsModel" "sets" "[I", Cond.fieldLink RX3 38 "PolyDrumsModel" "areNew" "[Z", Cond.fieldLink RX3 32 "PolyDrumsModel" "begins" "[I", Cond.fieldLink RX3 13 "PolyDrumsModel" "ticks" "[I", Cond.fieldLink RX3 9 "PolyDrumsModel" "counts" "[I", Cond.fieldLink RX3 29 "PolyDrumsModel" "steps" "[I", Cond.methodLink RX3 117 yX3_isSilent, Cond.instanceMethod yX3_isSilent, Cond.selects RX3 yX3_isSilent yX3_isSilent, Cond.code yX3_isSilent cX3_isSilent 4 (some .boolean), Cond.methodLink RX3 114 yX3_section, Cond.instanceMethod yX3_section, Cond.selects RX3 yX3_section yX3_section, Cond.code yX3_section cX3_section 3 (some .int), Cond.methodLink RX3 60 yX3_at, Cond.static yX3_at, Cond.code yX3_at cX3_at 2 (some .int)]
def wsX3_together_r3 : List Cond := [Cond.methodLink RX3 76 yX3_delay, Cond.instanceMethod yX3_delay, Cond.selects RX3 yX3_delay yX3_delay, Cond.code yX3_delay cX3_delay 3 (some .int), Cond.fieldLink RX3 16 "PolyDrumsModel" "swings" "[I"]
def wsX3_together : List Cond := .code yX3_together cX3_together 7 (some .int) :: ((wsX3_together_r1 ++ (wsX3_together_r2 ++ wsX3_together_r3)) ++ wsX30)
def wsX3_divisor : List Cond := .code yX3_divisor cX3_divisor 10 (some .long) :: ([])
def wsX3_roundsOf : List Cond := .code yX3_roundsOf cX3_roundsOf 7 (some .int) :: ([.fieldLink RX3 9 "PolyDrumsModel" "counts" "[I", .fieldLink RX3 29 "PolyDrumsModel" "steps" "[I", .methodLink RX3 60 yX3_at, .static yX3_at, .initialized RX3, .code yX3_at cX3_at 2 (some .int), .methodLink RX3 134 yX3_divisor, .static yX3_divisor, .code yX3_divisor cX3_divisor 10 (some .long)] ++ wsX30)
def wsX3_rounds_r1 : List Cond := [Cond.fieldLink RX3 45 "PolyDrumsModel" "thrown" "I", Cond.methodLink RX3 55 yX3_isTrack, Cond.instanceMethod yX3_isTrack, Cond.selects RX3 yX3_isTrack yX3_isTrack, Cond.initialized RX3, Cond.code yX3_isTrack cX3_isTrack 2 (some .boolean), Cond.fieldLink RX3 48 "PolyDrumsModel" "tracks" "I", Cond.methodLink RX3 51 yX3_isIn, Cond.static yX3_isIn, Cond.code yX3_isIn cX3_isIn 3 (some .boolean), Cond.methodLink RX3 138 yX3_roundsOf, Cond.instanceMethod yX3_roundsOf, Cond.selects RX3 yX3_roundsOf yX3_roundsOf, Cond.code yX3_roundsOf cX3_roundsOf 7 (some .int), Cond.fieldLink RX3 9 "PolyDrumsModel" "counts" "[I", Cond.fieldLink RX3 29 "PolyDrumsModel" "steps" "[I", Cond.methodLink RX3 60 yX3_at, Cond.static yX3_at, Cond.code yX3_at cX3_at 2 (some .int), Cond.methodLink RX3 134 yX3_divisor, Cond.static yX3_divisor, Cond.code yX3_divisor cX3_divisor 10 (some .long), Cond.methodLink RX3 64 yX3_no, Cond.instanceMethod yX3_no]
def wsX3_rounds_r2 : List Cond := [Cond.selects RX3 yX3_no yX3_no, Cond.code yX3_no cX3_no 2 (some .int)]
def wsX3_rounds : List Cond := .code yX3_rounds cX3_rounds 2 (some .int) :: ((wsX3_rounds_r1 ++ wsX3_rounds_r2) ++ wsX30)
def wsX3_period : List Cond := .code yX3_period cX3_period 6 (some .long) :: ([.fieldLink RX3 45 "PolyDrumsModel" "thrown" "I", .fieldLink RX3 48 "PolyDrumsModel" "tracks" "I", .fieldLink RX3 9 "PolyDrumsModel" "counts" "[I", .fieldLink RX3 13 "PolyDrumsModel" "ticks" "[I", .constantLong RX3 141 (1000000000), .constantLong RX3 143 (-1), .methodLink RX3 138 yX3_roundsOf, .instanceMethod yX3_roundsOf, .selects RX3 yX3_roundsOf yX3_roundsOf, .initialized RX3, .code yX3_roundsOf cX3_roundsOf 7 (some .int), .fieldLink RX3 29 "PolyDrumsModel" "steps" "[I", .methodLink RX3 60 yX3_at, .static yX3_at, .code yX3_at cX3_at 2 (some .int), .methodLink RX3 134 yX3_divisor, .static yX3_divisor, .code yX3_divisor cX3_divisor 10 (some .long)] ++ wsX30)
def wsX3_density : List Cond := .code yX3_density cX3_density 5 (some .double) :: ([.fieldLink RX3 45 "PolyDrumsModel" "thrown" "I", .fieldLink RX3 9 "PolyDrumsModel" "counts" "[I", .fieldLink RX3 29 "PolyDrumsModel" "steps" "[I", .methodLink RX3 55 yX3_isTrack, .instanceMethod yX3_isTrack, .selects RX3 yX3_isTrack yX3_isTrack, .initialized RX3, .code yX3_isTrack cX3_isTrack 2 (some .boolean), .fieldLink RX3 48 "PolyDrumsModel" "tracks" "I", .methodLink RX3 51 yX3_isIn, .static yX3_isIn, .code yX3_isIn cX3_isIn 3 (some .boolean), .methodLink RX3 60 yX3_at, .static yX3_at, .code yX3_at cX3_at 2 (some .int)] ++ wsX30)
def wsX3_setSpeed : List Cond := .code yX3_setSpeed cX3_setSpeed 3 (some .int) :: ([.fieldLink RX3 45 "PolyDrumsModel" "thrown" "I", .fieldLink RX3 41 "PolyDrumsModel" "speed" "I", .methodLink RX3 51 yX3_isIn, .static yX3_isIn, .initialized RX3, .code yX3_isIn cX3_isIn 3 (some .boolean), .methodLink RX3 64 yX3_no, .instanceMethod yX3_no, .selects RX3 yX3_no yX3_no, .code yX3_no cX3_no 2 (some .int)] ++ wsX30)
def wsX3_seconds : List Cond := .code yX3_seconds cX3_seconds 2 (some .double) :: ([.fieldLink RX3 45 "PolyDrumsModel" "thrown" "I", .constantDouble RX3 145 (4633641066610819072), .fieldLink RX3 41 "PolyDrumsModel" "speed" "I", .constantDouble RX3 147 (4627448617123184640), .methodLink RX3 100 yX3_isTick, .static yX3_isTick, .initialized RX3, .code yX3_isTick cX3_isTick 1 (some .boolean), .constant RX3 59 (99999), .methodLink RX3 51 yX3_isIn, .static yX3_isIn, .code yX3_isIn cX3_isIn 3 (some .boolean)] ++ wsX30)
def wsX3_digest : List Cond := .code yX3_digest cX3_digest 5 (some .long) :: ([.fieldLink RX3 45 "PolyDrumsModel" "thrown" "I", .constantLong RX3 149 (9703), .fieldLink RX3 41 "PolyDrumsModel" "speed" "I", .constantLong RX3 151 (31), .fieldLink RX3 48 "PolyDrumsModel" "tracks" "I", .fieldLink RX3 9 "PolyDrumsModel" "counts" "[I", .fieldLink RX3 29 "PolyDrumsModel" "steps" "[I", .fieldLink RX3 111 "PolyDrumsModel" "sections" "I", .fieldLink RX3 32 "PolyDrumsModel" "begins" "[I", .fieldLink RX3 35 "PolyDrumsModel" "sets" "[I", .fieldLink RX3 38 "PolyDrumsModel" "areNew" "[Z", .methodLink RX3 79 yX3_told, .instanceMethod yX3_told, .selects RX3 yX3_told yX3_told, .initialized RX3, .code yX3_told cX3_told 3 (some .int), .fieldLink RX3 13 "PolyDrumsModel" "ticks" "[I", .fieldLink RX3 16 "PolyDrumsModel" "swings" "[I", .fieldLink RX3 19 "PolyDrumsModel" "rings" "[I", .fieldLink RX3 22 "PolyDrumsModel" "groups" "[I", .fieldLink RX3 25 "PolyDrumsModel" "flags" "[Z", .methodLink RX3 60 yX3_at, .static yX3_at, .code yX3_at cX3_at 2 (some .int)] ++ wsX30)
def wsJ9_abs_0f7a4 : List Cond := .code yJ9_abs_0f7a4 cJ9_abs_0f7a4 1 (some .int) :: ([])
def wsJ9_min_7cf53 : List Cond := .code yJ9_min_7cf53 cJ9_min_7cf53 2 (some .int) :: ([])
def wsL_addTrack_r1 : List Cond := [Cond.classLink RL 13 "java/lang/IllegalArgumentException", Cond.classLink RL 15 "java/lang/IllegalStateException", Cond.methodLink RL 7 yX2_addTrack, Cond.instanceMethod yX2_addTrack, Cond.selects RX2 yX2_addTrack yX2_addTrack, Cond.initialized RX2, Cond.code yX2_addTrack cX2_addTrack 4 (some .int), Cond.classLink RX2 39 "java/lang/IllegalStateException", Cond.initialized "java/lang/IllegalStateException", Cond.fieldLink RX2 15 "PolyDrums" "trackCount" "I", Cond.fieldLink RX2 11 "PolyDrums" "tracks" "[LPolyDrums$Track;", Cond.classLink RX2 9 RX1, Cond.instantiable RX1 10, Cond.initialized RX1, Cond.methodLink RX2 31 yX2_isWithin, Cond.static yX2_isWithin, Cond.code yX2_isWithin cX2_isWithin 3 (some .boolean), Cond.methodLink RX2 35 yX2_checkArgument, Cond.static yX2_checkArgument, Cond.code yX2_checkArgument cX2_checkArgument 1 none, Cond.classLink RX2 208 "java/lang/IllegalArgumentException", Cond.initialized "java/lang/IllegalArgumentException", Cond.instanceMethod yX1_init, Cond.code yX1_init cX1_init 4 none]
def wsL_addTrack_r2 : List Cond := [Cond.methodLink RX1 3 objectInit, Cond.instanceMethod objectInit, Cond.code objectInit ⟨#[0xb1]⟩ 1 none, Cond.fieldLink RX1 9 "PolyDrums$Track" "swing" "I", Cond.fieldLink RX1 15 "PolyDrums$Track" "ring" "I", Cond.fieldLink RX1 18 "PolyDrums$Track" "group" "I", Cond.fieldLink RX1 21 "PolyDrums$Track" "isMuted" "Z", Cond.fieldLink RX1 25 "PolyDrums$Track" "isSolo" "Z", Cond.fieldLink RX1 28 "PolyDrums$Track" "isAccent" "Z", Cond.arrayClass .int, Cond.fieldLink RX1 31 "PolyDrums$Track" "cells" "[I", Cond.fieldLink RX1 35 "PolyDrums$Track" "spare" "[I", Cond.fieldLink RX1 38 "PolyDrums$Track" "steps" "I", Cond.fieldLink RX1 41 "PolyDrums$Track" "stepTicks" "I", Cond.methodLink RX1 44 yX1_clearStep, Cond.instanceMethod yX1_clearStep, Cond.selects RX1 yX1_clearStep yX1_clearStep, Cond.code yX1_clearStep cX1_clearStep 3 none, Cond.methodLink RX1 56 yX1_putCell, Cond.instanceMethod yX1_putCell, Cond.selects RX1 yX1_putCell yX1_putCell, Cond.code yX1_putCell cX1_putCell 4 none, Cond.static yX2_write, Cond.code yX2_write cX2_write 3 none]
def wsL_addTrack : List Cond := .codeWith yL_addTrack cL_addTrack 5 (some .int) [(0, 10, 13, 13), (0, 10, 17, 15)] :: ((wsL_addTrack_r1 ++ wsL_addTrack_r2) ++ wsX20 ++ wsX10 ++ (vx_atS RX2 43 "java/lang/IllegalStateException" ["java/lang/RuntimeException", "java/lang/Exception"]).filter goodWord ++ (vx_atS RX2 212 "java/lang/IllegalArgumentException" ["java/lang/RuntimeException", "java/lang/Exception"]).filter goodWord)
def wsL_set_r1 : List Cond := [Cond.classLink RL 21 "java/lang/IndexOutOfBoundsException", Cond.classLink RL 13 "java/lang/IllegalArgumentException", Cond.methodLink RL 17 yX2_set, Cond.instanceMethod yX2_set, Cond.selects RX2 yX2_set yX2_set, Cond.initialized RX2, Cond.code yX2_set cX2_set 7 (some .int), Cond.methodLink RX2 49 yX2_trackWithStep, Cond.instanceMethod yX2_trackWithStep, Cond.selects RX2 yX2_trackWithStep yX2_trackWithStep, Cond.code yX2_trackWithStep cX2_trackWithStep 4 (some (.object "PolyDrums$Track")), Cond.methodLink RX2 68 yX2_existingTrack, Cond.instanceMethod yX2_existingTrack, Cond.selects RX2 yX2_existingTrack yX2_existingTrack, Cond.code yX2_existingTrack cX2_existingTrack 3 (some (.object "PolyDrums$Track")), Cond.classLink RX2 213 "java/lang/IndexOutOfBoundsException", Cond.initialized "java/lang/IndexOutOfBoundsException", Cond.methodLink RX2 146 yX2_trackOrNull, Cond.instanceMethod yX2_trackOrNull, Cond.selects RX2 yX2_trackOrNull yX2_trackOrNull, Cond.code yX2_trackOrNull cX2_trackOrNull 2 (some (.object "PolyDrums$Track")), Cond.fieldLink RX2 11 "PolyDrums" "tracks" "[LPolyDrums$Track;", Cond.methodLink RX2 31 yX2_isWithin, Cond.static yX2_isWithin]
def wsL_set_r2 : List Cond := [Cond.code yX2_isWithin cX2_isWithin 3 (some .boolean), Cond.methodLink RX2 61 yX2_checkIndex, Cond.static yX2_checkIndex, Cond.code yX2_checkIndex cX2_checkIndex 1 none, Cond.methodLink RX2 35 yX2_checkArgument, Cond.static yX2_checkArgument, Cond.code yX2_checkArgument cX2_checkArgument 1 none, Cond.classLink RX2 208 "java/lang/IllegalArgumentException", Cond.initialized "java/lang/IllegalArgumentException", Cond.instanceMethod yX1_cell, Cond.initialized RX1, Cond.selects RX1 yX1_cell yX1_cell, Cond.code yX1_cell cX1_cell 3 (some .int), Cond.fieldLink RX1 31 "PolyDrums$Track" "cells" "[I", Cond.static yX2_read, Cond.code yX2_read cX2_read 2 (some .int), Cond.instanceMethod yX1_putCell, Cond.selects RX1 yX1_putCell yX1_putCell, Cond.code yX1_putCell cX1_putCell 4 none, Cond.static yX2_write, Cond.code yX2_write cX2_write 3 none]
def wsL_set : List Cond := .codeWith yL_set cL_set 7 (some .int) [(0, 14, 17, 21), (0, 14, 21, 13)] :: ((wsL_set_r1 ++ wsL_set_r2) ++ wsX10 ++ wsX20 ++ (vx_atS RX2 217 "java/lang/IndexOutOfBoundsException" ["java/lang/RuntimeException", "java/lang/Exception"]).filter goodWord ++ (vx_atS RX2 212 "java/lang/IllegalArgumentException" ["java/lang/RuntimeException", "java/lang/Exception"]).filter goodWord)
def wsL_setTurn_r1 : List Cond := [Cond.classLink RL 21 "java/lang/IndexOutOfBoundsException", Cond.classLink RL 13 "java/lang/IllegalArgumentException", Cond.methodLink RL 23 yX2_setTurn, Cond.instanceMethod yX2_setTurn, Cond.selects RX2 yX2_setTurn yX2_setTurn, Cond.initialized RX2, Cond.code yX2_setTurn cX2_setTurn 7 (some .int), Cond.methodLink RX2 49 yX2_trackWithStep, Cond.instanceMethod yX2_trackWithStep, Cond.selects RX2 yX2_trackWithStep yX2_trackWithStep, Cond.code yX2_trackWithStep cX2_trackWithStep 4 (some (.object "PolyDrums$Track")), Cond.methodLink RX2 68 yX2_existingTrack, Cond.instanceMethod yX2_existingTrack, Cond.selects RX2 yX2_existingTrack yX2_existingTrack, Cond.code yX2_existingTrack cX2_existingTrack 3 (some (.object "PolyDrums$Track")), Cond.classLink RX2 213 "java/lang/IndexOutOfBoundsException", Cond.initialized "java/lang/IndexOutOfBoundsException", Cond.methodLink RX2 146 yX2_trackOrNull, Cond.instanceMethod yX2_trackOrNull, Cond.selects RX2 yX2_trackOrNull yX2_trackOrNull, Cond.code yX2_trackOrNull cX2_trackOrNull 2 (some (.object "PolyDrums$Track")), Cond.fieldLink RX2 11 "PolyDrums" "tracks" "[LPolyDrums$Track;", Cond.methodLink RX2 31 yX2_isWithin, Cond.static yX2_isWithin]
def wsL_setTurn_r2 : List Cond := [Cond.code yX2_isWithin cX2_isWithin 3 (some .boolean), Cond.methodLink RX2 61 yX2_checkIndex, Cond.static yX2_checkIndex, Cond.code yX2_checkIndex cX2_checkIndex 1 none, Cond.methodLink RX2 35 yX2_checkArgument, Cond.static yX2_checkArgument, Cond.code yX2_checkArgument cX2_checkArgument 1 none, Cond.classLink RX2 208 "java/lang/IllegalArgumentException", Cond.initialized "java/lang/IllegalArgumentException", Cond.instanceMethod yX1_cell, Cond.initialized RX1, Cond.selects RX1 yX1_cell yX1_cell, Cond.code yX1_cell cX1_cell 3 (some .int), Cond.fieldLink RX1 31 "PolyDrums$Track" "cells" "[I", Cond.static yX2_read, Cond.code yX2_read cX2_read 2 (some .int), Cond.instanceMethod yX1_putCell, Cond.selects RX1 yX1_putCell yX1_putCell, Cond.code yX1_putCell cX1_putCell 4 none, Cond.static yX2_write, Cond.code yX2_write cX2_write 3 none]
def wsL_setTurn : List Cond := .codeWith yL_setTurn cL_setTurn 7 (some .int) [(0, 14, 17, 21), (0, 14, 21, 13)] :: ((wsL_setTurn_r1 ++ wsL_setTurn_r2) ++ wsX10 ++ wsX20 ++ (vx_atS RX2 217 "java/lang/IndexOutOfBoundsException" ["java/lang/RuntimeException", "java/lang/Exception"]).filter goodWord ++ (vx_atS RX2 212 "java/lang/IllegalArgumentException" ["java/lang/RuntimeException", "java/lang/Exception"]).filter goodWord)
def wsL_step_r1 : List Cond := [Cond.classLink RL 21 "java/lang/IndexOutOfBoundsException", Cond.methodLink RL 26 yX2_step, Cond.instanceMethod yX2_step, Cond.selects RX2 yX2_step yX2_step, Cond.initialized RX2, Cond.code yX2_step cX2_step 5 (some .int), Cond.methodLink RX2 49 yX2_trackWithStep, Cond.instanceMethod yX2_trackWithStep, Cond.selects RX2 yX2_trackWithStep yX2_trackWithStep, Cond.code yX2_trackWithStep cX2_trackWithStep 4 (some (.object "PolyDrums$Track")), Cond.methodLink RX2 68 yX2_existingTrack, Cond.instanceMethod yX2_existingTrack, Cond.selects RX2 yX2_existingTrack yX2_existingTrack, Cond.code yX2_existingTrack cX2_existingTrack 3 (some (.object "PolyDrums$Track")), Cond.classLink RX2 213 "java/lang/IndexOutOfBoundsException", Cond.initialized "java/lang/IndexOutOfBoundsException", Cond.methodLink RX2 146 yX2_trackOrNull, Cond.instanceMethod yX2_trackOrNull, Cond.selects RX2 yX2_trackOrNull yX2_trackOrNull, Cond.code yX2_trackOrNull cX2_trackOrNull 2 (some (.object "PolyDrums$Track")), Cond.fieldLink RX2 11 "PolyDrums" "tracks" "[LPolyDrums$Track;", Cond.methodLink RX2 31 yX2_isWithin, Cond.static yX2_isWithin, Cond.code yX2_isWithin cX2_isWithin 3 (some .boolean)]
def wsL_step_r2 : List Cond := [Cond.methodLink RX2 61 yX2_checkIndex, Cond.static yX2_checkIndex, Cond.code yX2_checkIndex cX2_checkIndex 1 none, Cond.instanceMethod yX1_delay, Cond.initialized RX1, Cond.selects RX1 yX1_delay yX1_delay, Cond.code yX1_delay cX1_delay 2 (some .int), Cond.fieldLink RX1 9 "PolyDrums$Track" "swing" "I", Cond.instanceMethod yX1_cell, Cond.selects RX1 yX1_cell yX1_cell, Cond.code yX1_cell cX1_cell 3 (some .int), Cond.fieldLink RX1 31 "PolyDrums$Track" "cells" "[I", Cond.static yX2_read, Cond.code yX2_read cX2_read 2 (some .int)]
def wsL_step : List Cond := .codeWith yL_step cL_step 6 (some .int) [(0, 12, 15, 21)] :: ((wsL_step_r1 ++ wsL_step_r2) ++ wsX10 ++ wsX20 ++ (vx_atS RX2 217 "java/lang/IndexOutOfBoundsException" ["java/lang/RuntimeException", "java/lang/Exception"]).filter goodWord)
def wsL_track_r1 : List Cond := [Cond.classLink RL 21 "java/lang/IndexOutOfBoundsException", Cond.methodLink RL 30 yX2_track, Cond.instanceMethod yX2_track, Cond.selects RX2 yX2_track yX2_track, Cond.initialized RX2, Cond.code yX2_track cX2_track 4 (some .int), Cond.methodLink RX2 68 yX2_existingTrack, Cond.instanceMethod yX2_existingTrack, Cond.selects RX2 yX2_existingTrack yX2_existingTrack, Cond.code yX2_existingTrack cX2_existingTrack 3 (some (.object "PolyDrums$Track")), Cond.classLink RX2 213 "java/lang/IndexOutOfBoundsException", Cond.initialized "java/lang/IndexOutOfBoundsException", Cond.methodLink RX2 146 yX2_trackOrNull, Cond.instanceMethod yX2_trackOrNull, Cond.selects RX2 yX2_trackOrNull yX2_trackOrNull, Cond.code yX2_trackOrNull cX2_trackOrNull 2 (some (.object "PolyDrums$Track")), Cond.fieldLink RX2 11 "PolyDrums" "tracks" "[LPolyDrums$Track;", Cond.methodLink RX2 31 yX2_isWithin, Cond.static yX2_isWithin, Cond.code yX2_isWithin cX2_isWithin 3 (some .boolean), Cond.methodLink RX2 61 yX2_checkIndex, Cond.static yX2_checkIndex, Cond.code yX2_checkIndex cX2_checkIndex 1 none, Cond.instanceMethod yX1_setting]
def wsL_track_r2 : List Cond := [Cond.initialized RX1, Cond.selects RX1 yX1_setting yX1_setting, Cond.code yX1_setting cX1_setting 2 (some .int), Cond.fieldLink RX1 38 "PolyDrums$Track" "steps" "I", Cond.fieldLink RX1 41 "PolyDrums$Track" "stepTicks" "I", Cond.fieldLink RX1 9 "PolyDrums$Track" "swing" "I", Cond.fieldLink RX1 15 "PolyDrums$Track" "ring" "I", Cond.fieldLink RX1 18 "PolyDrums$Track" "group" "I", Cond.fieldLink RX1 21 "PolyDrums$Track" "isMuted" "Z", Cond.fieldLink RX1 25 "PolyDrums$Track" "isSolo" "Z", Cond.fieldLink RX1 28 "PolyDrums$Track" "isAccent" "Z"]
def wsL_track : List Cond := .codeWith yL_track cL_track 5 (some .int) [(0, 10, 13, 21)] :: ((wsL_track_r1 ++ wsL_track_r2) ++ wsX20 ++ wsX10 ++ (vx_atS RX2 217 "java/lang/IndexOutOfBoundsException" ["java/lang/RuntimeException", "java/lang/Exception"]).filter goodWord)
def wsL_tune_r1 : List Cond := [Cond.classLink RL 21 "java/lang/IndexOutOfBoundsException", Cond.classLink RL 13 "java/lang/IllegalArgumentException", Cond.methodLink RL 33 yX2_tune, Cond.instanceMethod yX2_tune, Cond.selects RX2 yX2_tune yX2_tune, Cond.initialized RX2, Cond.code yX2_tune cX2_tune 7 (some .int), Cond.methodLink RX2 68 yX2_existingTrack, Cond.instanceMethod yX2_existingTrack, Cond.selects RX2 yX2_existingTrack yX2_existingTrack, Cond.code yX2_existingTrack cX2_existingTrack 3 (some (.object "PolyDrums$Track")), Cond.classLink RX2 213 "java/lang/IndexOutOfBoundsException", Cond.initialized "java/lang/IndexOutOfBoundsException", Cond.methodLink RX2 146 yX2_trackOrNull, Cond.instanceMethod yX2_trackOrNull, Cond.selects RX2 yX2_trackOrNull yX2_trackOrNull, Cond.code yX2_trackOrNull cX2_trackOrNull 2 (some (.object "PolyDrums$Track")), Cond.fieldLink RX2 11 "PolyDrums" "tracks" "[LPolyDrums$Track;", Cond.methodLink RX2 31 yX2_isWithin, Cond.static yX2_isWithin, Cond.code yX2_isWithin cX2_isWithin 3 (some .boolean), Cond.methodLink RX2 35 yX2_checkArgument, Cond.static yX2_checkArgument, Cond.code yX2_checkArgument cX2_checkArgument 1 none]
def wsL_tune_r2 : List Cond := [Cond.classLink RX2 208 "java/lang/IllegalArgumentException", Cond.initialized "java/lang/IllegalArgumentException"]
def wsL_tune : List Cond := .codeWith yL_tune cL_tune 7 (some .int) [(0, 14, 17, 21), (0, 14, 21, 13)] :: ((wsL_tune_r1 ++ wsL_tune_r2) ++ wsX10 ++ wsX20 ++ (vx_atS RX2 217 "java/lang/IndexOutOfBoundsException" ["java/lang/RuntimeException", "java/lang/Exception"]).filter goodWord ++ (vx_atS RX2 212 "java/lang/IllegalArgumentException" ["java/lang/RuntimeException", "java/lang/Exception"]).filter goodWord)
def wsL_turn_r1 : List Cond := [Cond.classLink RL 21 "java/lang/IndexOutOfBoundsException", Cond.methodLink RL 36 yX2_turn, Cond.instanceMethod yX2_turn, Cond.selects RX2 yX2_turn yX2_turn, Cond.initialized RX2, Cond.code yX2_turn cX2_turn 6 (some .boolean), Cond.methodLink RX2 68 yX2_existingTrack, Cond.instanceMethod yX2_existingTrack, Cond.selects RX2 yX2_existingTrack yX2_existingTrack, Cond.code yX2_existingTrack cX2_existingTrack 3 (some (.object "PolyDrums$Track")), Cond.classLink RX2 213 "java/lang/IndexOutOfBoundsException", Cond.initialized "java/lang/IndexOutOfBoundsException", Cond.methodLink RX2 146 yX2_trackOrNull, Cond.instanceMethod yX2_trackOrNull, Cond.selects RX2 yX2_trackOrNull yX2_trackOrNull, Cond.code yX2_trackOrNull cX2_trackOrNull 2 (some (.object "PolyDrums$Track")), Cond.fieldLink RX2 11 "PolyDrums" "tracks" "[LPolyDrums$Track;", Cond.methodLink RX2 31 yX2_isWithin, Cond.static yX2_isWithin, Cond.code yX2_isWithin cX2_isWithin 3 (some .boolean), Cond.methodLink RX2 61 yX2_checkIndex, Cond.static yX2_checkIndex, Cond.code yX2_checkIndex cX2_checkIndex 1 none, Cond.instanceMethod yX1_setting]
def wsL_turn_r2 : List Cond := [Cond.initialized RX1, Cond.selects RX1 yX1_setting yX1_setting, Cond.code yX1_setting cX1_setting 2 (some .int), Cond.fieldLink RX1 38 "PolyDrums$Track" "steps" "I", Cond.fieldLink RX1 41 "PolyDrums$Track" "stepTicks" "I", Cond.fieldLink RX1 9 "PolyDrums$Track" "swing" "I", Cond.fieldLink RX1 15 "PolyDrums$Track" "ring" "I", Cond.fieldLink RX1 18 "PolyDrums$Track" "group" "I", Cond.fieldLink RX1 21 "PolyDrums$Track" "isMuted" "Z", Cond.fieldLink RX1 25 "PolyDrums$Track" "isSolo" "Z", Cond.fieldLink RX1 28 "PolyDrums$Track" "isAccent" "Z", Cond.instanceMethod yX1_switchTo, Cond.selects RX1 yX1_switchTo yX1_switchTo, Cond.code yX1_switchTo cX1_switchTo 3 none]
def wsL_turn : List Cond := .codeWith yL_turn cL_turn 6 (some .int) [(0, 19, 22, 21)] :: ((wsL_turn_r1 ++ wsL_turn_r2) ++ wsX20 ++ wsX10 ++ (vx_atS RX2 217 "java/lang/IndexOutOfBoundsException" ["java/lang/RuntimeException", "java/lang/Exception"]).filter goodWord)
def wsL_spread_r1 : List Cond := [Cond.classLink RL 21 "java/lang/IndexOutOfBoundsException", Cond.classLink RL 13 "java/lang/IllegalArgumentException", Cond.methodLink RL 40 yX2_spread, Cond.instanceMethod yX2_spread, Cond.selects RX2 yX2_spread yX2_spread, Cond.initialized RX2, Cond.code yX2_spread cX2_spread 5 (some .int), Cond.methodLink RX2 68 yX2_existingTrack, Cond.instanceMethod yX2_existingTrack, Cond.selects RX2 yX2_existingTrack yX2_existingTrack, Cond.code yX2_existingTrack cX2_existingTrack 3 (some (.object "PolyDrums$Track")), Cond.classLink RX2 213 "java/lang/IndexOutOfBoundsException", Cond.initialized "java/lang/IndexOutOfBoundsException", Cond.methodLink RX2 146 yX2_trackOrNull, Cond.instanceMethod yX2_trackOrNull, Cond.selects RX2 yX2_trackOrNull yX2_trackOrNull, Cond.code yX2_trackOrNull cX2_trackOrNull 2 (some (.object "PolyDrums$Track")), Cond.fieldLink RX2 11 "PolyDrums" "tracks" "[LPolyDrums$Track;", Cond.methodLink RX2 31 yX2_isWithin, Cond.static yX2_isWithin, Cond.code yX2_isWithin cX2_isWithin 3 (some .boolean), Cond.methodLink RX2 35 yX2_checkArgument, Cond.static yX2_checkArgument, Cond.code yX2_checkArgument cX2_checkArgument 1 none]
def wsL_spread_r2 : List Cond := [Cond.classLink RX2 208 "java/lang/IllegalArgumentException", Cond.initialized "java/lang/IllegalArgumentException", Cond.instanceMethod yX1_spreadHits, Cond.initialized RX1, Cond.selects RX1 yX1_spreadHits yX1_spreadHits, Cond.code yX1_spreadHits cX1_spreadHits 6 (some .int), Cond.fieldLink RX1 38 "PolyDrums$Track" "steps" "I", Cond.static yX2_rest, Cond.code yX2_rest cX2_rest 2 (some .int), Cond.methodLink RX1 44 yX1_clearStep, Cond.instanceMethod yX1_clearStep, Cond.selects RX1 yX1_clearStep yX1_clearStep, Cond.code yX1_clearStep cX1_clearStep 3 none, Cond.methodLink RX1 56 yX1_putCell, Cond.instanceMethod yX1_putCell, Cond.selects RX1 yX1_putCell yX1_putCell, Cond.code yX1_putCell cX1_putCell 4 none, Cond.fieldLink RX1 31 "PolyDrums$Track" "cells" "[I", Cond.static yX2_write, Cond.code yX2_write cX2_write 3 none]
def wsL_spread : List Cond := .codeWith yL_spread cL_spread 6 (some .int) [(0, 12, 15, 21), (0, 12, 19, 13)] :: ((wsL_spread_r1 ++ wsL_spread_r2) ++ wsX10 ++ wsX20 ++ (vx_atS RX2 217 "java/lang/IndexOutOfBoundsException" ["java/lang/RuntimeException", "java/lang/Exception"]).filter goodWord ++ (vx_atS RX2 212 "java/lang/IllegalArgumentException" ["java/lang/RuntimeException", "java/lang/Exception"]).filter goodWord)
def wsL_rotate_r1 : List Cond := [Cond.classLink RL 21 "java/lang/IndexOutOfBoundsException", Cond.classLink RL 13 "java/lang/IllegalArgumentException", Cond.methodLink RL 43 yX2_rotate, Cond.instanceMethod yX2_rotate, Cond.selects RX2 yX2_rotate yX2_rotate, Cond.initialized RX2, Cond.code yX2_rotate cX2_rotate 4 (some .int), Cond.methodLink RX2 68 yX2_existingTrack, Cond.instanceMethod yX2_existingTrack, Cond.selects RX2 yX2_existingTrack yX2_existingTrack, Cond.code yX2_existingTrack cX2_existingTrack 3 (some (.object "PolyDrums$Track")), Cond.classLink RX2 213 "java/lang/IndexOutOfBoundsException", Cond.initialized "java/lang/IndexOutOfBoundsException", Cond.methodLink RX2 146 yX2_trackOrNull, Cond.instanceMethod yX2_trackOrNull, Cond.selects RX2 yX2_trackOrNull yX2_trackOrNull, Cond.code yX2_trackOrNull cX2_trackOrNull 2 (some (.object "PolyDrums$Track")), Cond.fieldLink RX2 11 "PolyDrums" "tracks" "[LPolyDrums$Track;", Cond.methodLink RX2 31 yX2_isWithin, Cond.static yX2_isWithin, Cond.code yX2_isWithin cX2_isWithin 3 (some .boolean), Cond.methodLink RX2 35 yX2_checkArgument, Cond.static yX2_checkArgument, Cond.code yX2_checkArgument cX2_checkArgument 1 none]
def wsL_rotate_r2 : List Cond := [Cond.classLink RX2 208 "java/lang/IllegalArgumentException", Cond.initialized "java/lang/IllegalArgumentException", Cond.instanceMethod yX1_moveSteps, Cond.initialized RX1, Cond.selects RX1 yX1_moveSteps yX1_moveSteps, Cond.code yX1_moveSteps cX1_moveSteps 3 none, Cond.fieldLink RX1 31 "PolyDrums$Track" "cells" "[I", Cond.fieldLink RX1 35 "PolyDrums$Track" "spare" "[I", Cond.methodLink RX1 64 arraycopyName, Cond.native arraycopyName, Cond.static arraycopyName, Cond.initialized "java/lang/System", Cond.fieldLink RX1 38 "PolyDrums$Track" "steps" "I", Cond.static yX2_rest, Cond.code yX2_rest cX2_rest 2 (some .int), Cond.methodLink RX1 70 yX1_copyStep, Cond.instanceMethod yX1_copyStep, Cond.selects RX1 yX1_copyStep yX1_copyStep, Cond.code yX1_copyStep cX1_copyStep 5 none, Cond.static yX2_read, Cond.code yX2_read cX2_read 2 (some .int), Cond.methodLink RX1 56 yX1_putCell, Cond.instanceMethod yX1_putCell, Cond.selects RX1 yX1_putCell yX1_putCell]
def wsL_rotate_r3 : List Cond := [Cond.code yX1_putCell cX1_putCell 4 none, Cond.static yX2_write, Cond.code yX2_write cX2_write 3 none, Cond.instanceMethod yX1_stepsWithForce, Cond.selects RX1 yX1_stepsWithForce yX1_stepsWithForce, Cond.code yX1_stepsWithForce cX1_stepsWithForce 3 (some .int), Cond.methodLink RX1 73 yX1_cell, Cond.instanceMethod yX1_cell, Cond.selects RX1 yX1_cell yX1_cell, Cond.code yX1_cell cX1_cell 3 (some .int)]
def wsL_rotate : List Cond := .codeWith yL_rotate cL_rotate 5 (some .int) [(0, 10, 13, 21), (0, 10, 17, 13)] :: ((wsL_rotate_r1 ++ (wsL_rotate_r2 ++ wsL_rotate_r3)) ++ wsX20 ++ wsX10 ++ (vx_atS RX2 217 "java/lang/IndexOutOfBoundsException" ["java/lang/RuntimeException", "java/lang/Exception"]).filter goodWord ++ (vx_atS RX2 212 "java/lang/IllegalArgumentException" ["java/lang/RuntimeException", "java/lang/Exception"]).filter goodWord)
def wsL_stretch_r1 : List Cond := [Cond.classLink RL 21 "java/lang/IndexOutOfBoundsException", Cond.classLink RL 13 "java/lang/IllegalArgumentException", Cond.methodLink RL 46 yX2_stretch, Cond.instanceMethod yX2_stretch, Cond.selects RX2 yX2_stretch yX2_stretch, Cond.initialized RX2, Cond.code yX2_stretch cX2_stretch 5 (some .int), Cond.methodLink RX2 68 yX2_existingTrack, Cond.instanceMethod yX2_existingTrack, Cond.selects RX2 yX2_existingTrack yX2_existingTrack, Cond.code yX2_existingTrack cX2_existingTrack 3 (some (.object "PolyDrums$Track")), Cond.classLink RX2 213 "java/lang/IndexOutOfBoundsException", Cond.initialized "java/lang/IndexOutOfBoundsException", Cond.methodLink RX2 146 yX2_trackOrNull, Cond.instanceMethod yX2_trackOrNull, Cond.selects RX2 yX2_trackOrNull yX2_trackOrNull, Cond.code yX2_trackOrNull cX2_trackOrNull 2 (some (.object "PolyDrums$Track")), Cond.fieldLink RX2 11 "PolyDrums" "tracks" "[LPolyDrums$Track;", Cond.methodLink RX2 31 yX2_isWithin, Cond.static yX2_isWithin, Cond.code yX2_isWithin cX2_isWithin 3 (some .boolean), Cond.methodLink RX2 35 yX2_checkArgument, Cond.static yX2_checkArgument, Cond.code yX2_checkArgument cX2_checkArgument 1 none]
def wsL_stretch_r2 : List Cond := [Cond.classLink RX2 208 "java/lang/IllegalArgumentException", Cond.initialized "java/lang/IllegalArgumentException", Cond.instanceMethod yX1_resize, Cond.initialized RX1, Cond.selects RX1 yX1_resize yX1_resize, Cond.code yX1_resize cX1_resize 3 none, Cond.fieldLink RX1 38 "PolyDrums$Track" "steps" "I", Cond.fieldLink RX1 31 "PolyDrums$Track" "cells" "[I", Cond.methodLink RX1 70 yX1_copyStep, Cond.instanceMethod yX1_copyStep, Cond.selects RX1 yX1_copyStep yX1_copyStep, Cond.code yX1_copyStep cX1_copyStep 5 none, Cond.static yX2_read, Cond.code yX2_read cX2_read 2 (some .int), Cond.methodLink RX1 56 yX1_putCell, Cond.instanceMethod yX1_putCell, Cond.selects RX1 yX1_putCell yX1_putCell, Cond.code yX1_putCell cX1_putCell 4 none, Cond.static yX2_write, Cond.code yX2_write cX2_write 3 none]
def wsL_stretch : List Cond := .codeWith yL_stretch cL_stretch 5 (some .int) [(0, 10, 13, 21), (0, 10, 17, 13)] :: ((wsL_stretch_r1 ++ wsL_stretch_r2) ++ wsX10 ++ wsX20 ++ (vx_atS RX2 217 "java/lang/IndexOutOfBoundsException" ["java/lang/RuntimeException", "java/lang/Exception"]).filter goodWord ++ (vx_atS RX2 212 "java/lang/IllegalArgumentException" ["java/lang/RuntimeException", "java/lang/Exception"]).filter goodWord)
def wsL_tap_r1 : List Cond := [Cond.classLink RL 21 "java/lang/IndexOutOfBoundsException", Cond.classLink RL 13 "java/lang/IllegalArgumentException", Cond.methodLink RL 49 yX2_tap, Cond.instanceMethod yX2_tap, Cond.selects RX2 yX2_tap yX2_tap, Cond.initialized RX2, Cond.code yX2_tap cX2_tap 6 (some .int), Cond.methodLink RX2 68 yX2_existingTrack, Cond.instanceMethod yX2_existingTrack, Cond.selects RX2 yX2_existingTrack yX2_existingTrack, Cond.code yX2_existingTrack cX2_existingTrack 3 (some (.object "PolyDrums$Track")), Cond.classLink RX2 213 "java/lang/IndexOutOfBoundsException", Cond.initialized "java/lang/IndexOutOfBoundsException", Cond.methodLink RX2 146 yX2_trackOrNull, Cond.instanceMethod yX2_trackOrNull, Cond.selects RX2 yX2_trackOrNull yX2_trackOrNull, Cond.code yX2_trackOrNull cX2_trackOrNull 2 (some (.object "PolyDrums$Track")), Cond.fieldLink RX2 11 "PolyDrums" "tracks" "[LPolyDrums$Track;", Cond.methodLink RX2 108 yX2_isTick, Cond.static yX2_isTick, Cond.code yX2_isTick cX2_isTick 1 (some .boolean), Cond.constant RX2 155 (99999), Cond.methodLink RX2 31 yX2_isWithin, Cond.static yX2_isWithin]
def wsL_tap_r2 : List Cond := [Cond.code yX2_isWithin cX2_isWithin 3 (some .boolean), Cond.methodLink RX2 35 yX2_checkArgument, Cond.static yX2_checkArgument, Cond.code yX2_checkArgument cX2_checkArgument 1 none, Cond.classLink RX2 208 "java/lang/IllegalArgumentException", Cond.initialized "java/lang/IllegalArgumentException", Cond.instanceMethod yX1_nearestStep, Cond.initialized RX1, Cond.selects RX1 yX1_nearestStep yX1_nearestStep, Cond.code yX1_nearestStep cX1_nearestStep 7 (some .int), Cond.methodLink RX1 80 Lib.Math.min.name, Cond.static Lib.Math.min.name, Cond.initialized "java/lang/Math", Cond.code Lib.Math.min.name Lib.Math.min.code 2 (some .int), Cond.fieldLink RX1 38 "PolyDrums$Track" "steps" "I", Cond.fieldLink RX1 41 "PolyDrums$Track" "stepTicks" "I", Cond.methodLink RX1 89 Lib.Math.abs.name, Cond.static Lib.Math.abs.name, Cond.code Lib.Math.abs.name Lib.Math.abs.code 1 (some .int), Cond.methodLink RX1 76 yX1_roundTicks, Cond.instanceMethod yX1_roundTicks, Cond.selects RX1 yX1_roundTicks yX1_roundTicks, Cond.code yX1_roundTicks cX1_roundTicks 1 (some .int), Cond.static yX2_rest]
def wsL_tap_r3 : List Cond := [Cond.code yX2_rest cX2_rest 2 (some .int), Cond.methodLink RX1 85 yX1_delay, Cond.instanceMethod yX1_delay, Cond.selects RX1 yX1_delay yX1_delay, Cond.code yX1_delay cX1_delay 2 (some .int), Cond.fieldLink RX1 9 "PolyDrums$Track" "swing" "I", Cond.instanceMethod yX1_putCell, Cond.selects RX1 yX1_putCell yX1_putCell, Cond.code yX1_putCell cX1_putCell 4 none, Cond.fieldLink RX1 31 "PolyDrums$Track" "cells" "[I", Cond.static yX2_write, Cond.code yX2_write cX2_write 3 none]
def wsL_tap : List Cond := .codeWith yL_tap cL_tap 6 (some .int) [(0, 12, 15, 21), (0, 12, 19, 13)] :: ((wsL_tap_r1 ++ (wsL_tap_r2 ++ wsL_tap_r3)) ++ wsX20 ++ wsX10 ++ (vx_atS RX2 217 "java/lang/IndexOutOfBoundsException" ["java/lang/RuntimeException", "java/lang/Exception"]).filter goodWord ++ (vx_atS RX2 212 "java/lang/IllegalArgumentException" ["java/lang/RuntimeException", "java/lang/Exception"]).filter goodWord)
def wsL_addSection_r1 : List Cond := [Cond.classLink RL 13 "java/lang/IllegalArgumentException", Cond.classLink RL 15 "java/lang/IllegalStateException", Cond.methodLink RL 52 yX2_addSection, Cond.instanceMethod yX2_addSection, Cond.selects RX2 yX2_addSection yX2_addSection, Cond.initialized RX2, Cond.code yX2_addSection cX2_addSection 5 (some .int), Cond.classLink RX2 39 "java/lang/IllegalStateException", Cond.initialized "java/lang/IllegalStateException", Cond.fieldLink RX2 25 "PolyDrums" "sectionCount" "I", Cond.fieldLink RX2 21 "PolyDrums" "sections" "[LPolyDrums$Section;", Cond.classLink RX2 19 RX0, Cond.instantiable RX0 4, Cond.initialized RX0, Cond.methodLink RX2 31 yX2_isWithin, Cond.static yX2_isWithin, Cond.code yX2_isWithin cX2_isWithin 3 (some .boolean), Cond.methodLink RX2 35 yX2_checkArgument, Cond.static yX2_checkArgument, Cond.code yX2_checkArgument cX2_checkArgument 1 none, Cond.classLink RX2 208 "java/lang/IllegalArgumentException", Cond.initialized "java/lang/IllegalArgumentException", Cond.methodLink RX2 117 yX2_songTicks, Cond.instanceMethod yX2_songTicks]
def wsL_addSection_r2 : List Cond := [Cond.selects RX2 yX2_songTicks yX2_songTicks, Cond.code yX2_songTicks cX2_songTicks 2 (some .int), Cond.methodLink RX2 194 yX2_sectionOrNull, Cond.instanceMethod yX2_sectionOrNull, Cond.selects RX2 yX2_sectionOrNull yX2_sectionOrNull, Cond.code yX2_sectionOrNull cX2_sectionOrNull 2 (some (.object "PolyDrums$Section")), Cond.instanceMethod yX0_init, Cond.code yX0_init cX0_init 5 none, Cond.methodLink RX0 1 objectInit, Cond.instanceMethod objectInit, Cond.code objectInit ⟨#[0xb1]⟩ 1 none, Cond.fieldLink RX0 7 "PolyDrums$Section" "begin" "I", Cond.fieldLink RX0 13 "PolyDrums$Section" "length" "I", Cond.fieldLink RX0 16 "PolyDrums$Section" "set" "I", Cond.fieldLink RX0 19 "PolyDrums$Section" "isNew" "Z"]
def wsL_addSection : List Cond := .codeWith yL_addSection cL_addSection 6 (some .int) [(0, 12, 15, 13), (0, 12, 19, 15)] :: ((wsL_addSection_r1 ++ wsL_addSection_r2) ++ wsX20 ++ wsX00 ++ (vx_atS RX2 43 "java/lang/IllegalStateException" ["java/lang/RuntimeException", "java/lang/Exception"]).filter goodWord ++ (vx_atS RX2 212 "java/lang/IllegalArgumentException" ["java/lang/RuntimeException", "java/lang/Exception"]).filter goodWord)
def wsL_dropSection : List Cond := .codeWith yL_dropSection cL_dropSection 3 (some .int) [(0, 8, 11, 15)] :: ([.classLink RL 15 "java/lang/IllegalStateException", .methodLink RL 56 yX2_dropSection, .instanceMethod yX2_dropSection, .selects RX2 yX2_dropSection yX2_dropSection, .initialized RX2, .code yX2_dropSection cX2_dropSection 2 (some .int), .classLink RX2 39 "java/lang/IllegalStateException", .initialized "java/lang/IllegalStateException", .fieldLink RX2 25 "PolyDrums" "sectionCount" "I", .fieldLink RX2 21 "PolyDrums" "sections" "[LPolyDrums$Section;"] ++ wsX20 ++ (vx_atS RX2 43 "java/lang/IllegalStateException" ["java/lang/RuntimeException", "java/lang/Exception"]).filter goodWord)
def wsL_sectionAt_r1 : List Cond := [Cond.classLink RL 13 "java/lang/IllegalArgumentException", Cond.methodLink RL 60 yX2_sectionAt, Cond.instanceMethod yX2_sectionAt, Cond.selects RX2 yX2_sectionAt yX2_sectionAt, Cond.initialized RX2, Cond.code yX2_sectionAt cX2_sectionAt 2 (some .int), Cond.methodLink RX2 108 yX2_isTick, Cond.static yX2_isTick, Cond.code yX2_isTick cX2_isTick 1 (some .boolean), Cond.constant RX2 155 (99999), Cond.methodLink RX2 31 yX2_isWithin, Cond.static yX2_isWithin, Cond.code yX2_isWithin cX2_isWithin 3 (some .boolean), Cond.methodLink RX2 35 yX2_checkArgument, Cond.static yX2_checkArgument, Cond.code yX2_checkArgument cX2_checkArgument 1 none, Cond.classLink RX2 208 "java/lang/IllegalArgumentException", Cond.initialized "java/lang/IllegalArgumentException", Cond.methodLink RX2 125 yX2_sectionNumber, Cond.instanceMethod yX2_sectionNumber, Cond.selects RX2 yX2_sectionNumber yX2_sectionNumber, Cond.code yX2_sectionNumber cX2_sectionNumber 4 (some .int), Cond.fieldLink RX2 25 "PolyDrums" "sectionCount" "I", Cond.methodLink RX2 194 yX2_sectionOrNull]
def wsL_sectionAt_r2 : List Cond := [Cond.instanceMethod yX2_sectionOrNull, Cond.selects RX2 yX2_sectionOrNull yX2_sectionOrNull, Cond.code yX2_sectionOrNull cX2_sectionOrNull 2 (some (.object "PolyDrums$Section")), Cond.fieldLink RX2 21 "PolyDrums" "sections" "[LPolyDrums$Section;"]
def wsL_sectionAt : List Cond := .codeWith yL_sectionAt cL_sectionAt 4 (some .int) [(0, 9, 12, 13)] :: ((wsL_sectionAt_r1 ++ wsL_sectionAt_r2) ++ wsX20 ++ wsX00 ++ (vx_atS RX2 212 "java/lang/IllegalArgumentException" ["java/lang/RuntimeException", "java/lang/Exception"]).filter goodWord)
def wsL_loudness_r1 : List Cond := [Cond.classLink RL 21 "java/lang/IndexOutOfBoundsException", Cond.classLink RL 13 "java/lang/IllegalArgumentException", Cond.methodLink RL 64 yX2_loudness, Cond.instanceMethod yX2_loudness, Cond.selects RX2 yX2_loudness yX2_loudness, Cond.initialized RX2, Cond.code yX2_loudness cX2_loudness 3 (some .int), Cond.methodLink RX2 138 Lib.Math.min.name, Cond.static Lib.Math.min.name, Cond.initialized "java/lang/Math", Cond.code Lib.Math.min.name Lib.Math.min.code 2 (some .int), Cond.methodLink RX2 68 yX2_existingTrack, Cond.instanceMethod yX2_existingTrack, Cond.selects RX2 yX2_existingTrack yX2_existingTrack, Cond.code yX2_existingTrack cX2_existingTrack 3 (some (.object "PolyDrums$Track")), Cond.classLink RX2 213 "java/lang/IndexOutOfBoundsException", Cond.initialized "java/lang/IndexOutOfBoundsException", Cond.methodLink RX2 146 yX2_trackOrNull, Cond.instanceMethod yX2_trackOrNull, Cond.selects RX2 yX2_trackOrNull yX2_trackOrNull, Cond.code yX2_trackOrNull cX2_trackOrNull 2 (some (.object "PolyDrums$Track")), Cond.fieldLink RX2 11 "PolyDrums" "tracks" "[LPolyDrums$Track;", Cond.methodLink RX2 108 yX2_isTick, Cond.static yX2_isTick]
def wsL_loudness_r2 : List Cond := [Cond.code yX2_isTick cX2_isTick 1 (some .boolean), Cond.constant RX2 155 (99999), Cond.methodLink RX2 31 yX2_isWithin, Cond.static yX2_isWithin, Cond.code yX2_isWithin cX2_isWithin 3 (some .boolean), Cond.methodLink RX2 35 yX2_checkArgument, Cond.static yX2_checkArgument, Cond.code yX2_checkArgument cX2_checkArgument 1 none, Cond.classLink RX2 208 "java/lang/IllegalArgumentException", Cond.initialized "java/lang/IllegalArgumentException", Cond.methodLink RX2 128 yX2_makesHit, Cond.instanceMethod yX2_makesHit, Cond.selects RX2 yX2_makesHit yX2_makesHit, Cond.code yX2_makesHit cX2_makesHit 4 (some .boolean), Cond.methodLink RX2 132 yX2_struckForce, Cond.instanceMethod yX2_struckForce, Cond.selects RX2 yX2_struckForce yX2_struckForce, Cond.code yX2_struckForce cX2_struckForce 5 (some .int), Cond.methodLink RX2 233 yX2_isSilenced, Cond.instanceMethod yX2_isSilenced, Cond.selects RX2 yX2_isSilenced yX2_isSilenced, Cond.code yX2_isSilenced cX2_isSilenced 2 (some .boolean), Cond.methodLink RX2 229 yX2_isAnySolo, Cond.instanceMethod yX2_isAnySolo]
def wsL_loudness_r3 : List Cond := [Cond.selects RX2 yX2_isAnySolo yX2_isAnySolo, Cond.code yX2_isAnySolo cX2_isAnySolo 3 (some .boolean), Cond.fieldLink RX2 15 "PolyDrums" "trackCount" "I", Cond.methodLink RX2 237 yX2_localTime, Cond.instanceMethod yX2_localTime, Cond.selects RX2 yX2_localTime yX2_localTime, Cond.code yX2_localTime cX2_localTime 4 (some .int), Cond.fieldLink RX2 25 "PolyDrums" "sectionCount" "I", Cond.methodLink RX2 125 yX2_sectionNumber, Cond.instanceMethod yX2_sectionNumber, Cond.selects RX2 yX2_sectionNumber yX2_sectionNumber, Cond.code yX2_sectionNumber cX2_sectionNumber 4 (some .int), Cond.methodLink RX2 194 yX2_sectionOrNull, Cond.instanceMethod yX2_sectionOrNull, Cond.selects RX2 yX2_sectionOrNull yX2_sectionOrNull, Cond.code yX2_sectionOrNull cX2_sectionOrNull 2 (some (.object "PolyDrums$Section")), Cond.fieldLink RX2 21 "PolyDrums" "sections" "[LPolyDrums$Section;", Cond.methodLink RX2 149 yX2_isInSet, Cond.static yX2_isInSet, Cond.code yX2_isInSet cX2_isInSet 2 (some .boolean), Cond.instanceMethod yX1_forceAt, Cond.initialized RX1, Cond.selects RX1 yX1_forceAt yX1_forceAt, Cond.code yX1_forceAt cX1_forceAt 8 (some .int)]
def wsL_loudness_r4 : List Cond := [Cond.fieldLink RX1 41 "PolyDrums$Track" "stepTicks" "I", Cond.methodLink RX1 76 yX1_roundTicks, Cond.instanceMethod yX1_roundTicks, Cond.selects RX1 yX1_roundTicks yX1_roundTicks, Cond.code yX1_roundTicks cX1_roundTicks 1 (some .int), Cond.fieldLink RX1 38 "PolyDrums$Track" "steps" "I", Cond.static yX2_quotient, Cond.code yX2_quotient cX2_quotient 2 (some .int), Cond.static yX2_rest, Cond.code yX2_rest cX2_rest 2 (some .int), Cond.methodLink RX1 73 yX1_cell, Cond.instanceMethod yX1_cell, Cond.selects RX1 yX1_cell yX1_cell, Cond.code yX1_cell cX1_cell 3 (some .int), Cond.fieldLink RX1 31 "PolyDrums$Track" "cells" "[I", Cond.static yX2_read, Cond.code yX2_read cX2_read 2 (some .int), Cond.methodLink RX1 85 yX1_delay, Cond.instanceMethod yX1_delay, Cond.selects RX1 yX1_delay yX1_delay, Cond.code yX1_delay cX1_delay 2 (some .int), Cond.fieldLink RX1 9 "PolyDrums$Track" "swing" "I", Cond.methodLink RX1 95 yX1_isStroke, Cond.static yX1_isStroke]
def wsL_loudness_r5 : List Cond := [Cond.code yX1_isStroke cX1_isStroke 4 (some .boolean), Cond.methodLink RX2 135 yX2_accentForce, Cond.instanceMethod yX2_accentForce, Cond.selects RX2 yX2_accentForce yX2_accentForce, Cond.code yX2_accentForce cX2_accentForce 5 (some .int)]
def wsL_loudness : List Cond := .codeWith yL_loudness cL_loudness 5 (some .int) [(0, 10, 13, 21), (0, 10, 17, 13)] :: ((wsL_loudness_r1 ++ (wsL_loudness_r2 ++ (wsL_loudness_r3 ++ (wsL_loudness_r4 ++ wsL_loudness_r5)))) ++ wsX20 ++ wsX10 ++ wsX00 ++ (vx_atS RX2 217 "java/lang/IndexOutOfBoundsException" ["java/lang/RuntimeException", "java/lang/Exception"]).filter goodWord ++ (vx_atS RX2 212 "java/lang/IllegalArgumentException" ["java/lang/RuntimeException", "java/lang/Exception"]).filter goodWord)
def wsL_hits_r1 : List Cond := [Cond.classLink RL 13 "java/lang/IllegalArgumentException", Cond.methodLink RL 67 yX2_hits, Cond.instanceMethod yX2_hits, Cond.selects RX2 yX2_hits yX2_hits, Cond.initialized RX2, Cond.code yX2_hits cX2_hits 2 (some .int), Cond.methodLink RX2 108 yX2_isTick, Cond.static yX2_isTick, Cond.code yX2_isTick cX2_isTick 1 (some .boolean), Cond.constant RX2 155 (99999), Cond.methodLink RX2 31 yX2_isWithin, Cond.static yX2_isWithin, Cond.code yX2_isWithin cX2_isWithin 3 (some .boolean), Cond.methodLink RX2 35 yX2_checkArgument, Cond.static yX2_checkArgument, Cond.code yX2_checkArgument cX2_checkArgument 1 none, Cond.classLink RX2 208 "java/lang/IllegalArgumentException", Cond.initialized "java/lang/IllegalArgumentException", Cond.methodLink RX2 143 yX2_hitSet, Cond.instanceMethod yX2_hitSet, Cond.selects RX2 yX2_hitSet yX2_hitSet, Cond.code yX2_hitSet cX2_hitSet 4 (some .int), Cond.fieldLink RX2 15 "PolyDrums" "trackCount" "I", Cond.methodLink RX2 128 yX2_makesHit]
def wsL_hits_r2 : List Cond := [Cond.instanceMethod yX2_makesHit, Cond.selects RX2 yX2_makesHit yX2_makesHit, Cond.code yX2_makesHit cX2_makesHit 4 (some .boolean), Cond.methodLink RX2 146 yX2_trackOrNull, Cond.instanceMethod yX2_trackOrNull, Cond.selects RX2 yX2_trackOrNull yX2_trackOrNull, Cond.code yX2_trackOrNull cX2_trackOrNull 2 (some (.object "PolyDrums$Track")), Cond.fieldLink RX2 11 "PolyDrums" "tracks" "[LPolyDrums$Track;", Cond.methodLink RX2 132 yX2_struckForce, Cond.instanceMethod yX2_struckForce, Cond.selects RX2 yX2_struckForce yX2_struckForce, Cond.code yX2_struckForce cX2_struckForce 5 (some .int), Cond.methodLink RX2 233 yX2_isSilenced, Cond.instanceMethod yX2_isSilenced, Cond.selects RX2 yX2_isSilenced yX2_isSilenced, Cond.code yX2_isSilenced cX2_isSilenced 2 (some .boolean), Cond.methodLink RX2 229 yX2_isAnySolo, Cond.instanceMethod yX2_isAnySolo, Cond.selects RX2 yX2_isAnySolo yX2_isAnySolo, Cond.code yX2_isAnySolo cX2_isAnySolo 3 (some .boolean), Cond.methodLink RX2 237 yX2_localTime, Cond.instanceMethod yX2_localTime, Cond.selects RX2 yX2_localTime yX2_localTime, Cond.code yX2_localTime cX2_localTime 4 (some .int)]
def wsL_hits_r3 : List Cond := [Cond.fieldLink RX2 25 "PolyDrums" "sectionCount" "I", Cond.methodLink RX2 125 yX2_sectionNumber, Cond.instanceMethod yX2_sectionNumber, Cond.selects RX2 yX2_sectionNumber yX2_sectionNumber, Cond.code yX2_sectionNumber cX2_sectionNumber 4 (some .int), Cond.methodLink RX2 194 yX2_sectionOrNull, Cond.instanceMethod yX2_sectionOrNull, Cond.selects RX2 yX2_sectionOrNull yX2_sectionOrNull, Cond.code yX2_sectionOrNull cX2_sectionOrNull 2 (some (.object "PolyDrums$Section")), Cond.fieldLink RX2 21 "PolyDrums" "sections" "[LPolyDrums$Section;", Cond.methodLink RX2 149 yX2_isInSet, Cond.static yX2_isInSet, Cond.code yX2_isInSet cX2_isInSet 2 (some .boolean), Cond.instanceMethod yX1_forceAt, Cond.initialized RX1, Cond.selects RX1 yX1_forceAt yX1_forceAt, Cond.code yX1_forceAt cX1_forceAt 8 (some .int), Cond.fieldLink RX1 41 "PolyDrums$Track" "stepTicks" "I", Cond.methodLink RX1 76 yX1_roundTicks, Cond.instanceMethod yX1_roundTicks, Cond.selects RX1 yX1_roundTicks yX1_roundTicks, Cond.code yX1_roundTicks cX1_roundTicks 1 (some .int), Cond.fieldLink RX1 38 "PolyDrums$Track" "steps" "I", Cond.static yX2_quotient]
def wsL_hits_r4 : List Cond := [Cond.code yX2_quotient cX2_quotient 2 (some .int), Cond.static yX2_rest, Cond.code yX2_rest cX2_rest 2 (some .int), Cond.methodLink RX1 73 yX1_cell, Cond.instanceMethod yX1_cell, Cond.selects RX1 yX1_cell yX1_cell, Cond.code yX1_cell cX1_cell 3 (some .int), Cond.fieldLink RX1 31 "PolyDrums$Track" "cells" "[I", Cond.static yX2_read, Cond.code yX2_read cX2_read 2 (some .int), Cond.methodLink RX1 85 yX1_delay, Cond.instanceMethod yX1_delay, Cond.selects RX1 yX1_delay yX1_delay, Cond.code yX1_delay cX1_delay 2 (some .int), Cond.fieldLink RX1 9 "PolyDrums$Track" "swing" "I", Cond.methodLink RX1 95 yX1_isStroke, Cond.static yX1_isStroke, Cond.code yX1_isStroke cX1_isStroke 4 (some .boolean)]
def wsL_hits : List Cond := .codeWith yL_hits cL_hits 4 (some .int) [(0, 9, 12, 13)] :: ((wsL_hits_r1 ++ (wsL_hits_r2 ++ (wsL_hits_r3 ++ wsL_hits_r4))) ++ wsX20 ++ wsX10 ++ wsX00 ++ (vx_atS RX2 212 "java/lang/IllegalArgumentException" ["java/lang/RuntimeException", "java/lang/Exception"]).filter goodWord)
def wsL_sounding_r1 : List Cond := [Cond.classLink RL 13 "java/lang/IllegalArgumentException", Cond.methodLink RL 70 yX2_sounding, Cond.instanceMethod yX2_sounding, Cond.selects RX2 yX2_sounding yX2_sounding, Cond.initialized RX2, Cond.code yX2_sounding cX2_sounding 8 (some .int), Cond.fieldLink RX2 15 "PolyDrums" "trackCount" "I", Cond.methodLink RX2 108 yX2_isTick, Cond.static yX2_isTick, Cond.code yX2_isTick cX2_isTick 1 (some .boolean), Cond.constant RX2 155 (99999), Cond.methodLink RX2 31 yX2_isWithin, Cond.static yX2_isWithin, Cond.code yX2_isWithin cX2_isWithin 3 (some .boolean), Cond.methodLink RX2 35 yX2_checkArgument, Cond.static yX2_checkArgument, Cond.code yX2_checkArgument cX2_checkArgument 1 none, Cond.classLink RX2 208 "java/lang/IllegalArgumentException", Cond.initialized "java/lang/IllegalArgumentException", Cond.methodLink RX2 143 yX2_hitSet, Cond.instanceMethod yX2_hitSet, Cond.selects RX2 yX2_hitSet yX2_hitSet, Cond.code yX2_hitSet cX2_hitSet 4 (some .int), Cond.methodLink RX2 128 yX2_makesHit]
def wsL_sounding_r2 : List Cond := [Cond.instanceMethod yX2_makesHit, Cond.selects RX2 yX2_makesHit yX2_makesHit, Cond.code yX2_makesHit cX2_makesHit 4 (some .boolean), Cond.methodLink RX2 146 yX2_trackOrNull, Cond.instanceMethod yX2_trackOrNull, Cond.selects RX2 yX2_trackOrNull yX2_trackOrNull, Cond.code yX2_trackOrNull cX2_trackOrNull 2 (some (.object "PolyDrums$Track")), Cond.fieldLink RX2 11 "PolyDrums" "tracks" "[LPolyDrums$Track;", Cond.methodLink RX2 132 yX2_struckForce, Cond.instanceMethod yX2_struckForce, Cond.selects RX2 yX2_struckForce yX2_struckForce, Cond.code yX2_struckForce cX2_struckForce 5 (some .int), Cond.methodLink RX2 233 yX2_isSilenced, Cond.instanceMethod yX2_isSilenced, Cond.selects RX2 yX2_isSilenced yX2_isSilenced, Cond.code yX2_isSilenced cX2_isSilenced 2 (some .boolean), Cond.methodLink RX2 229 yX2_isAnySolo, Cond.instanceMethod yX2_isAnySolo, Cond.selects RX2 yX2_isAnySolo yX2_isAnySolo, Cond.code yX2_isAnySolo cX2_isAnySolo 3 (some .boolean), Cond.methodLink RX2 237 yX2_localTime, Cond.instanceMethod yX2_localTime, Cond.selects RX2 yX2_localTime yX2_localTime, Cond.code yX2_localTime cX2_localTime 4 (some .int)]
def wsL_sounding_r3 : List Cond := [Cond.fieldLink RX2 25 "PolyDrums" "sectionCount" "I", Cond.methodLink RX2 125 yX2_sectionNumber, Cond.instanceMethod yX2_sectionNumber, Cond.selects RX2 yX2_sectionNumber yX2_sectionNumber, Cond.code yX2_sectionNumber cX2_sectionNumber 4 (some .int), Cond.methodLink RX2 194 yX2_sectionOrNull, Cond.instanceMethod yX2_sectionOrNull, Cond.selects RX2 yX2_sectionOrNull yX2_sectionOrNull, Cond.code yX2_sectionOrNull cX2_sectionOrNull 2 (some (.object "PolyDrums$Section")), Cond.fieldLink RX2 21 "PolyDrums" "sections" "[LPolyDrums$Section;", Cond.methodLink RX2 149 yX2_isInSet, Cond.static yX2_isInSet, Cond.code yX2_isInSet cX2_isInSet 2 (some .boolean), Cond.instanceMethod yX1_forceAt, Cond.initialized RX1, Cond.selects RX1 yX1_forceAt yX1_forceAt, Cond.code yX1_forceAt cX1_forceAt 8 (some .int), Cond.fieldLink RX1 41 "PolyDrums$Track" "stepTicks" "I", Cond.methodLink RX1 76 yX1_roundTicks, Cond.instanceMethod yX1_roundTicks, Cond.selects RX1 yX1_roundTicks yX1_roundTicks, Cond.code yX1_roundTicks cX1_roundTicks 1 (some .int), Cond.fieldLink RX1 38 "PolyDrums$Track" "steps" "I", Cond.static yX2_quotient]
def wsL_sounding_r4 : List Cond := [Cond.code yX2_quotient cX2_quotient 2 (some .int), Cond.static yX2_rest, Cond.code yX2_rest cX2_rest 2 (some .int), Cond.methodLink RX1 73 yX1_cell, Cond.instanceMethod yX1_cell, Cond.selects RX1 yX1_cell yX1_cell, Cond.code yX1_cell cX1_cell 3 (some .int), Cond.fieldLink RX1 31 "PolyDrums$Track" "cells" "[I", Cond.static yX2_read, Cond.code yX2_read cX2_read 2 (some .int), Cond.methodLink RX1 85 yX1_delay, Cond.instanceMethod yX1_delay, Cond.selects RX1 yX1_delay yX1_delay, Cond.code yX1_delay cX1_delay 2 (some .int), Cond.fieldLink RX1 9 "PolyDrums$Track" "swing" "I", Cond.methodLink RX1 95 yX1_isStroke, Cond.static yX1_isStroke, Cond.code yX1_isStroke cX1_isStroke 4 (some .boolean), Cond.methodLink RX2 152 yX2_groupSet, Cond.instanceMethod yX2_groupSet, Cond.selects RX2 yX2_groupSet yX2_groupSet, Cond.code yX2_groupSet cX2_groupSet 5 (some .int)]
def wsL_sounding : List Cond := .codeWith yL_sounding cL_sounding 4 (some .int) [(0, 9, 12, 13)] :: ((wsL_sounding_r1 ++ (wsL_sounding_r2 ++ (wsL_sounding_r3 ++ wsL_sounding_r4))) ++ wsX20 ++ wsX10 ++ wsX00 ++ (vx_atS RX2 212 "java/lang/IllegalArgumentException" ["java/lang/RuntimeException", "java/lang/Exception"]).filter goodWord)
def wsL_next_r1 : List Cond := [Cond.classLink RL 21 "java/lang/IndexOutOfBoundsException", Cond.classLink RL 13 "java/lang/IllegalArgumentException", Cond.methodLink RL 73 yX2_next, Cond.instanceMethod yX2_next, Cond.selects RX2 yX2_next yX2_next, Cond.initialized RX2, Cond.code yX2_next cX2_next 5 (some .int), Cond.constant RX2 155 (99999), Cond.methodLink RX2 138 Lib.Math.min.name, Cond.static Lib.Math.min.name, Cond.initialized "java/lang/Math", Cond.code Lib.Math.min.name Lib.Math.min.code 2 (some .int), Cond.methodLink RX2 68 yX2_existingTrack, Cond.instanceMethod yX2_existingTrack, Cond.selects RX2 yX2_existingTrack yX2_existingTrack, Cond.code yX2_existingTrack cX2_existingTrack 3 (some (.object "PolyDrums$Track")), Cond.classLink RX2 213 "java/lang/IndexOutOfBoundsException", Cond.initialized "java/lang/IndexOutOfBoundsException", Cond.methodLink RX2 146 yX2_trackOrNull, Cond.instanceMethod yX2_trackOrNull, Cond.selects RX2 yX2_trackOrNull yX2_trackOrNull, Cond.code yX2_trackOrNull cX2_trackOrNull 2 (some (.object "PolyDrums$Track")), Cond.fieldLink RX2 11 "PolyDrums" "tracks" "[LPolyDrums$Track;", Cond.methodLink RX2 108 yX2_isTick]
def wsL_next_r2 : List Cond := [Cond.static yX2_isTick, Cond.code yX2_isTick cX2_isTick 1 (some .boolean), Cond.methodLink RX2 31 yX2_isWithin, Cond.static yX2_isWithin, Cond.code yX2_isWithin cX2_isWithin 3 (some .boolean), Cond.methodLink RX2 35 yX2_checkArgument, Cond.static yX2_checkArgument, Cond.code yX2_checkArgument cX2_checkArgument 1 none, Cond.classLink RX2 208 "java/lang/IllegalArgumentException", Cond.initialized "java/lang/IllegalArgumentException", Cond.methodLink RX2 128 yX2_makesHit, Cond.instanceMethod yX2_makesHit, Cond.selects RX2 yX2_makesHit yX2_makesHit, Cond.code yX2_makesHit cX2_makesHit 4 (some .boolean), Cond.methodLink RX2 132 yX2_struckForce, Cond.instanceMethod yX2_struckForce, Cond.selects RX2 yX2_struckForce yX2_struckForce, Cond.code yX2_struckForce cX2_struckForce 5 (some .int), Cond.methodLink RX2 233 yX2_isSilenced, Cond.instanceMethod yX2_isSilenced, Cond.selects RX2 yX2_isSilenced yX2_isSilenced, Cond.code yX2_isSilenced cX2_isSilenced 2 (some .boolean), Cond.methodLink RX2 229 yX2_isAnySolo, Cond.instanceMethod yX2_isAnySolo]
def wsL_next_r3 : List Cond := [Cond.selects RX2 yX2_isAnySolo yX2_isAnySolo, Cond.code yX2_isAnySolo cX2_isAnySolo 3 (some .boolean), Cond.fieldLink RX2 15 "PolyDrums" "trackCount" "I", Cond.methodLink RX2 237 yX2_localTime, Cond.instanceMethod yX2_localTime, Cond.selects RX2 yX2_localTime yX2_localTime, Cond.code yX2_localTime cX2_localTime 4 (some .int), Cond.fieldLink RX2 25 "PolyDrums" "sectionCount" "I", Cond.methodLink RX2 125 yX2_sectionNumber, Cond.instanceMethod yX2_sectionNumber, Cond.selects RX2 yX2_sectionNumber yX2_sectionNumber, Cond.code yX2_sectionNumber cX2_sectionNumber 4 (some .int), Cond.methodLink RX2 194 yX2_sectionOrNull, Cond.instanceMethod yX2_sectionOrNull, Cond.selects RX2 yX2_sectionOrNull yX2_sectionOrNull, Cond.code yX2_sectionOrNull cX2_sectionOrNull 2 (some (.object "PolyDrums$Section")), Cond.fieldLink RX2 21 "PolyDrums" "sections" "[LPolyDrums$Section;", Cond.methodLink RX2 149 yX2_isInSet, Cond.static yX2_isInSet, Cond.code yX2_isInSet cX2_isInSet 2 (some .boolean), Cond.instanceMethod yX1_forceAt, Cond.initialized RX1, Cond.selects RX1 yX1_forceAt yX1_forceAt, Cond.code yX1_forceAt cX1_forceAt 8 (some .int)]
def wsL_next_r4 : List Cond := [Cond.fieldLink RX1 41 "PolyDrums$Track" "stepTicks" "I", Cond.methodLink RX1 76 yX1_roundTicks, Cond.instanceMethod yX1_roundTicks, Cond.selects RX1 yX1_roundTicks yX1_roundTicks, Cond.code yX1_roundTicks cX1_roundTicks 1 (some .int), Cond.fieldLink RX1 38 "PolyDrums$Track" "steps" "I", Cond.static yX2_quotient, Cond.code yX2_quotient cX2_quotient 2 (some .int), Cond.static yX2_rest, Cond.code yX2_rest cX2_rest 2 (some .int), Cond.methodLink RX1 73 yX1_cell, Cond.instanceMethod yX1_cell, Cond.selects RX1 yX1_cell yX1_cell, Cond.code yX1_cell cX1_cell 3 (some .int), Cond.fieldLink RX1 31 "PolyDrums$Track" "cells" "[I", Cond.static yX2_read, Cond.code yX2_read cX2_read 2 (some .int), Cond.methodLink RX1 85 yX1_delay, Cond.instanceMethod yX1_delay, Cond.selects RX1 yX1_delay yX1_delay, Cond.code yX1_delay cX1_delay 2 (some .int), Cond.fieldLink RX1 9 "PolyDrums$Track" "swing" "I", Cond.methodLink RX1 95 yX1_isStroke, Cond.static yX1_isStroke]
def wsL_next_r5 : List Cond := [Cond.code yX1_isStroke cX1_isStroke 4 (some .boolean)]
def wsL_next : List Cond := .codeWith yL_next cL_next 5 (some .int) [(0, 10, 13, 21), (0, 10, 17, 13)] :: ((wsL_next_r1 ++ (wsL_next_r2 ++ (wsL_next_r3 ++ (wsL_next_r4 ++ wsL_next_r5)))) ++ wsX20 ++ wsX10 ++ wsX00 ++ (vx_atS RX2 217 "java/lang/IndexOutOfBoundsException" ["java/lang/RuntimeException", "java/lang/Exception"]).filter goodWord ++ (vx_atS RX2 212 "java/lang/IllegalArgumentException" ["java/lang/RuntimeException", "java/lang/Exception"]).filter goodWord)
def wsL_count_r1 : List Cond := [Cond.classLink RL 21 "java/lang/IndexOutOfBoundsException", Cond.classLink RL 13 "java/lang/IllegalArgumentException", Cond.methodLink RL 76 yX2_count, Cond.instanceMethod yX2_count, Cond.selects RX2 yX2_count yX2_count, Cond.initialized RX2, Cond.code yX2_count cX2_count 4 (some .int), Cond.methodLink RX2 68 yX2_existingTrack, Cond.instanceMethod yX2_existingTrack, Cond.selects RX2 yX2_existingTrack yX2_existingTrack, Cond.code yX2_existingTrack cX2_existingTrack 3 (some (.object "PolyDrums$Track")), Cond.classLink RX2 213 "java/lang/IndexOutOfBoundsException", Cond.initialized "java/lang/IndexOutOfBoundsException", Cond.methodLink RX2 146 yX2_trackOrNull, Cond.instanceMethod yX2_trackOrNull, Cond.selects RX2 yX2_trackOrNull yX2_trackOrNull, Cond.code yX2_trackOrNull cX2_trackOrNull 2 (some (.object "PolyDrums$Track")), Cond.fieldLink RX2 11 "PolyDrums" "tracks" "[LPolyDrums$Track;", Cond.methodLink RX2 156 yX2_isSpan, Cond.static yX2_isSpan, Cond.code yX2_isSpan cX2_isSpan 2 (some .boolean), Cond.methodLink RX2 108 yX2_isTick, Cond.static yX2_isTick, Cond.code yX2_isTick cX2_isTick 1 (some .boolean)]
def wsL_count_r2 : List Cond := [Cond.constant RX2 155 (99999), Cond.methodLink RX2 31 yX2_isWithin, Cond.static yX2_isWithin, Cond.code yX2_isWithin cX2_isWithin 3 (some .boolean), Cond.methodLink RX2 35 yX2_checkArgument, Cond.static yX2_checkArgument, Cond.code yX2_checkArgument cX2_checkArgument 1 none, Cond.classLink RX2 208 "java/lang/IllegalArgumentException", Cond.initialized "java/lang/IllegalArgumentException", Cond.methodLink RX2 159 yX2_commonHits, Cond.instanceMethod yX2_commonHits, Cond.selects RX2 yX2_commonHits yX2_commonHits, Cond.code yX2_commonHits cX2_commonHits 7 (some .int), Cond.methodLink RX2 128 yX2_makesHit, Cond.instanceMethod yX2_makesHit, Cond.selects RX2 yX2_makesHit yX2_makesHit, Cond.code yX2_makesHit cX2_makesHit 4 (some .boolean), Cond.methodLink RX2 132 yX2_struckForce, Cond.instanceMethod yX2_struckForce, Cond.selects RX2 yX2_struckForce yX2_struckForce, Cond.code yX2_struckForce cX2_struckForce 5 (some .int), Cond.methodLink RX2 233 yX2_isSilenced, Cond.instanceMethod yX2_isSilenced, Cond.selects RX2 yX2_isSilenced yX2_isSilenced]
def wsL_count_r3 : List Cond := [Cond.code yX2_isSilenced cX2_isSilenced 2 (some .boolean), Cond.methodLink RX2 229 yX2_isAnySolo, Cond.instanceMethod yX2_isAnySolo, Cond.selects RX2 yX2_isAnySolo yX2_isAnySolo, Cond.code yX2_isAnySolo cX2_isAnySolo 3 (some .boolean), Cond.fieldLink RX2 15 "PolyDrums" "trackCount" "I", Cond.methodLink RX2 237 yX2_localTime, Cond.instanceMethod yX2_localTime, Cond.selects RX2 yX2_localTime yX2_localTime, Cond.code yX2_localTime cX2_localTime 4 (some .int), Cond.fieldLink RX2 25 "PolyDrums" "sectionCount" "I", Cond.methodLink RX2 125 yX2_sectionNumber, Cond.instanceMethod yX2_sectionNumber, Cond.selects RX2 yX2_sectionNumber yX2_sectionNumber, Cond.code yX2_sectionNumber cX2_sectionNumber 4 (some .int), Cond.methodLink RX2 194 yX2_sectionOrNull, Cond.instanceMethod yX2_sectionOrNull, Cond.selects RX2 yX2_sectionOrNull yX2_sectionOrNull, Cond.code yX2_sectionOrNull cX2_sectionOrNull 2 (some (.object "PolyDrums$Section")), Cond.fieldLink RX2 21 "PolyDrums" "sections" "[LPolyDrums$Section;", Cond.methodLink RX2 149 yX2_isInSet, Cond.static yX2_isInSet, Cond.code yX2_isInSet cX2_isInSet 2 (some .boolean), Cond.instanceMethod yX1_forceAt]
def wsL_count_r4 : List Cond := [Cond.initialized RX1, Cond.selects RX1 yX1_forceAt yX1_forceAt, Cond.code yX1_forceAt cX1_forceAt 8 (some .int), Cond.fieldLink RX1 41 "PolyDrums$Track" "stepTicks" "I", Cond.methodLink RX1 76 yX1_roundTicks, Cond.instanceMethod yX1_roundTicks, Cond.selects RX1 yX1_roundTicks yX1_roundTicks, Cond.code yX1_roundTicks cX1_roundTicks 1 (some .int), Cond.fieldLink RX1 38 "PolyDrums$Track" "steps" "I", Cond.static yX2_quotient, Cond.code yX2_quotient cX2_quotient 2 (some .int), Cond.static yX2_rest, Cond.code yX2_rest cX2_rest 2 (some .int), Cond.methodLink RX1 73 yX1_cell, Cond.instanceMethod yX1_cell, Cond.selects RX1 yX1_cell yX1_cell, Cond.code yX1_cell cX1_cell 3 (some .int), Cond.fieldLink RX1 31 "PolyDrums$Track" "cells" "[I", Cond.static yX2_read, Cond.code yX2_read cX2_read 2 (some .int), Cond.methodLink RX1 85 yX1_delay, Cond.instanceMethod yX1_delay, Cond.selects RX1 yX1_delay yX1_delay, Cond.code yX1_delay cX1_delay 2 (some .int)]
def wsL_count_r5 : List Cond := [Cond.fieldLink RX1 9 "PolyDrums$Track" "swing" "I", Cond.methodLink RX1 95 yX1_isStroke, Cond.static yX1_isStroke, Cond.code yX1_isStroke cX1_isStroke 4 (some .boolean)]
def wsL_count : List Cond := .codeWith yL_count cL_count 6 (some .int) [(0, 12, 15, 21), (0, 12, 19, 13)] :: ((wsL_count_r1 ++ (wsL_count_r2 ++ (wsL_count_r3 ++ (wsL_count_r4 ++ wsL_count_r5)))) ++ wsX20 ++ wsX10 ++ wsX00 ++ (vx_atS RX2 217 "java/lang/IndexOutOfBoundsException" ["java/lang/RuntimeException", "java/lang/Exception"]).filter goodWord ++ (vx_atS RX2 212 "java/lang/IllegalArgumentException" ["java/lang/RuntimeException", "java/lang/Exception"]).filter goodWord)
def wsL_together_r1 : List Cond := [Cond.classLink RL 21 "java/lang/IndexOutOfBoundsException", Cond.classLink RL 13 "java/lang/IllegalArgumentException", Cond.methodLink RL 79 yX2_together, Cond.instanceMethod yX2_together, Cond.selects RX2 yX2_together yX2_together, Cond.initialized RX2, Cond.code yX2_together cX2_together 5 (some .int), Cond.methodLink RX2 68 yX2_existingTrack, Cond.instanceMethod yX2_existingTrack, Cond.selects RX2 yX2_existingTrack yX2_existingTrack, Cond.code yX2_existingTrack cX2_existingTrack 3 (some (.object "PolyDrums$Track")), Cond.classLink RX2 213 "java/lang/IndexOutOfBoundsException", Cond.initialized "java/lang/IndexOutOfBoundsException", Cond.methodLink RX2 146 yX2_trackOrNull, Cond.instanceMethod yX2_trackOrNull, Cond.selects RX2 yX2_trackOrNull yX2_trackOrNull, Cond.code yX2_trackOrNull cX2_trackOrNull 2 (some (.object "PolyDrums$Track")), Cond.fieldLink RX2 11 "PolyDrums" "tracks" "[LPolyDrums$Track;", Cond.methodLink RX2 156 yX2_isSpan, Cond.static yX2_isSpan, Cond.code yX2_isSpan cX2_isSpan 2 (some .boolean), Cond.methodLink RX2 108 yX2_isTick, Cond.static yX2_isTick, Cond.code yX2_isTick cX2_isTick 1 (some .boolean)]
def wsL_together_r2 : List Cond := [Cond.constant RX2 155 (99999), Cond.methodLink RX2 31 yX2_isWithin, Cond.static yX2_isWithin, Cond.code yX2_isWithin cX2_isWithin 3 (some .boolean), Cond.methodLink RX2 35 yX2_checkArgument, Cond.static yX2_checkArgument, Cond.code yX2_checkArgument cX2_checkArgument 1 none, Cond.classLink RX2 208 "java/lang/IllegalArgumentException", Cond.initialized "java/lang/IllegalArgumentException", Cond.methodLink RX2 159 yX2_commonHits, Cond.instanceMethod yX2_commonHits, Cond.selects RX2 yX2_commonHits yX2_commonHits, Cond.code yX2_commonHits cX2_commonHits 7 (some .int), Cond.methodLink RX2 128 yX2_makesHit, Cond.instanceMethod yX2_makesHit, Cond.selects RX2 yX2_makesHit yX2_makesHit, Cond.code yX2_makesHit cX2_makesHit 4 (some .boolean), Cond.methodLink RX2 132 yX2_struckForce, Cond.instanceMethod yX2_struckForce, Cond.selects RX2 yX2_struckForce yX2_struckForce, Cond.code yX2_struckForce cX2_struckForce 5 (some .int), Cond.methodLink RX2 233 yX2_isSilenced, Cond.instanceMethod yX2_isSilenced, Cond.selects RX2 yX2_isSilenced yX2_isSilenced]
def wsL_together_r3 : List Cond := [Cond.code yX2_isSilenced cX2_isSilenced 2 (some .boolean), Cond.methodLink RX2 229 yX2_isAnySolo, Cond.instanceMethod yX2_isAnySolo, Cond.selects RX2 yX2_isAnySolo yX2_isAnySolo, Cond.code yX2_isAnySolo cX2_isAnySolo 3 (some .boolean), Cond.fieldLink RX2 15 "PolyDrums" "trackCount" "I", Cond.methodLink RX2 237 yX2_localTime, Cond.instanceMethod yX2_localTime, Cond.selects RX2 yX2_localTime yX2_localTime, Cond.code yX2_localTime cX2_localTime 4 (some .int), Cond.fieldLink RX2 25 "PolyDrums" "sectionCount" "I", Cond.methodLink RX2 125 yX2_sectionNumber, Cond.instanceMethod yX2_sectionNumber, Cond.selects RX2 yX2_sectionNumber yX2_sectionNumber, Cond.code yX2_sectionNumber cX2_sectionNumber 4 (some .int), Cond.methodLink RX2 194 yX2_sectionOrNull, Cond.instanceMethod yX2_sectionOrNull, Cond.selects RX2 yX2_sectionOrNull yX2_sectionOrNull, Cond.code yX2_sectionOrNull cX2_sectionOrNull 2 (some (.object "PolyDrums$Section")), Cond.fieldLink RX2 21 "PolyDrums" "sections" "[LPolyDrums$Section;", Cond.methodLink RX2 149 yX2_isInSet, Cond.static yX2_isInSet, Cond.code yX2_isInSet cX2_isInSet 2 (some .boolean), Cond.instanceMethod yX1_forceAt]
def wsL_together_r4 : List Cond := [Cond.initialized RX1, Cond.selects RX1 yX1_forceAt yX1_forceAt, Cond.code yX1_forceAt cX1_forceAt 8 (some .int), Cond.fieldLink RX1 41 "PolyDrums$Track" "stepTicks" "I", Cond.methodLink RX1 76 yX1_roundTicks, Cond.instanceMethod yX1_roundTicks, Cond.selects RX1 yX1_roundTicks yX1_roundTicks, Cond.code yX1_roundTicks cX1_roundTicks 1 (some .int), Cond.fieldLink RX1 38 "PolyDrums$Track" "steps" "I", Cond.static yX2_quotient, Cond.code yX2_quotient cX2_quotient 2 (some .int), Cond.static yX2_rest, Cond.code yX2_rest cX2_rest 2 (some .int), Cond.methodLink RX1 73 yX1_cell, Cond.instanceMethod yX1_cell, Cond.selects RX1 yX1_cell yX1_cell, Cond.code yX1_cell cX1_cell 3 (some .int), Cond.fieldLink RX1 31 "PolyDrums$Track" "cells" "[I", Cond.static yX2_read, Cond.code yX2_read cX2_read 2 (some .int), Cond.methodLink RX1 85 yX1_delay, Cond.instanceMethod yX1_delay, Cond.selects RX1 yX1_delay yX1_delay, Cond.code yX1_delay cX1_delay 2 (some .int)]
def wsL_together_r5 : List Cond := [Cond.fieldLink RX1 9 "PolyDrums$Track" "swing" "I", Cond.methodLink RX1 95 yX1_isStroke, Cond.static yX1_isStroke, Cond.code yX1_isStroke cX1_isStroke 4 (some .boolean)]
def wsL_together : List Cond := .codeWith yL_together cL_together 7 (some .int) [(0, 14, 17, 21), (0, 14, 21, 13)] :: ((wsL_together_r1 ++ (wsL_together_r2 ++ (wsL_together_r3 ++ (wsL_together_r4 ++ wsL_together_r5)))) ++ wsX20 ++ wsX10 ++ wsX00 ++ (vx_atS RX2 217 "java/lang/IndexOutOfBoundsException" ["java/lang/RuntimeException", "java/lang/Exception"]).filter goodWord ++ (vx_atS RX2 212 "java/lang/IllegalArgumentException" ["java/lang/RuntimeException", "java/lang/Exception"]).filter goodWord)
def wsL_rounds_r1 : List Cond := [Cond.classLink RL 21 "java/lang/IndexOutOfBoundsException", Cond.methodLink RL 82 yX2_rounds, Cond.instanceMethod yX2_rounds, Cond.selects RX2 yX2_rounds yX2_rounds, Cond.initialized RX2, Cond.code yX2_rounds cX2_rounds 2 (some .int), Cond.methodLink RX2 68 yX2_existingTrack, Cond.instanceMethod yX2_existingTrack, Cond.selects RX2 yX2_existingTrack yX2_existingTrack, Cond.code yX2_existingTrack cX2_existingTrack 3 (some (.object "PolyDrums$Track")), Cond.classLink RX2 213 "java/lang/IndexOutOfBoundsException", Cond.initialized "java/lang/IndexOutOfBoundsException", Cond.methodLink RX2 146 yX2_trackOrNull, Cond.instanceMethod yX2_trackOrNull, Cond.selects RX2 yX2_trackOrNull yX2_trackOrNull, Cond.code yX2_trackOrNull cX2_trackOrNull 2 (some (.object "PolyDrums$Track")), Cond.fieldLink RX2 11 "PolyDrums" "tracks" "[LPolyDrums$Track;", Cond.instanceMethod yX1_roundsOfTurns, Cond.initialized RX1, Cond.selects RX1 yX1_roundsOfTurns yX1_roundsOfTurns, Cond.code yX1_roundsOfTurns cX1_roundsOfTurns 4 (some .int), Cond.fieldLink RX1 38 "PolyDrums$Track" "steps" "I", Cond.methodLink RX1 73 yX1_cell, Cond.instanceMethod yX1_cell]
def wsL_rounds_r2 : List Cond := [Cond.selects RX1 yX1_cell yX1_cell, Cond.code yX1_cell cX1_cell 3 (some .int), Cond.fieldLink RX1 31 "PolyDrums$Track" "cells" "[I", Cond.static yX2_read, Cond.code yX2_read cX2_read 2 (some .int), Cond.static yX2_leastCommonMultiple, Cond.code yX2_leastCommonMultiple cX2_leastCommonMultiple 6 (some .long), Cond.methodLink RX2 247 yX2_greatestCommonDivisor, Cond.static yX2_greatestCommonDivisor, Cond.code yX2_greatestCommonDivisor cX2_greatestCommonDivisor 11 (some .long), Cond.constant RX2 246 (1000000)]
def wsL_rounds : List Cond := .codeWith yL_rounds cL_rounds 4 (some .int) [(0, 9, 12, 21)] :: ((wsL_rounds_r1 ++ wsL_rounds_r2) ++ wsX20 ++ wsX10 ++ (vx_atS RX2 217 "java/lang/IndexOutOfBoundsException" ["java/lang/RuntimeException", "java/lang/Exception"]).filter goodWord)
def wsL_density_r1 : List Cond := [Cond.classLink RL 21 "java/lang/IndexOutOfBoundsException", Cond.methodLink RL 85 yX2_density, Cond.instanceMethod yX2_density, Cond.selects RX2 yX2_density yX2_density, Cond.initialized RX2, Cond.code yX2_density cX2_density 2 (some .double), Cond.methodLink RX2 68 yX2_existingTrack, Cond.instanceMethod yX2_existingTrack, Cond.selects RX2 yX2_existingTrack yX2_existingTrack, Cond.code yX2_existingTrack cX2_existingTrack 3 (some (.object "PolyDrums$Track")), Cond.classLink RX2 213 "java/lang/IndexOutOfBoundsException", Cond.initialized "java/lang/IndexOutOfBoundsException", Cond.methodLink RX2 146 yX2_trackOrNull, Cond.instanceMethod yX2_trackOrNull, Cond.selects RX2 yX2_trackOrNull yX2_trackOrNull, Cond.code yX2_trackOrNull cX2_trackOrNull 2 (some (.object "PolyDrums$Track")), Cond.fieldLink RX2 11 "PolyDrums" "tracks" "[LPolyDrums$Track;", Cond.instanceMethod yX1_strokesPerRound, Cond.initialized RX1, Cond.selects RX1 yX1_strokesPerRound yX1_strokesPerRound, Cond.code yX1_strokesPerRound cX1_strokesPerRound 5 (some .double), Cond.fieldLink RX1 38 "PolyDrums$Track" "steps" "I", Cond.methodLink RX1 73 yX1_cell, Cond.instanceMethod yX1_cell]
def wsL_density_r2 : List Cond := [Cond.selects RX1 yX1_cell yX1_cell, Cond.code yX1_cell cX1_cell 3 (some .int), Cond.fieldLink RX1 31 "PolyDrums$Track" "cells" "[I", Cond.static yX2_read, Cond.code yX2_read cX2_read 2 (some .int)]
def wsL_density : List Cond := .codeWith yL_density cL_density 4 (some .int) [(0, 8, 11, 21)] :: ((wsL_density_r1 ++ wsL_density_r2) ++ wsX20 ++ wsX10 ++ (vx_atS RX2 217 "java/lang/IndexOutOfBoundsException" ["java/lang/RuntimeException", "java/lang/Exception"]).filter goodWord)
def wsL_setSpeed : List Cond := .codeWith yL_setSpeed cL_setSpeed 4 (some .int) [(0, 9, 12, 13)] :: ([.classLink RL 13 "java/lang/IllegalArgumentException", .methodLink RL 89 yX2_setSpeed, .instanceMethod yX2_setSpeed, .selects RX2 yX2_setSpeed yX2_setSpeed, .initialized RX2, .code yX2_setSpeed cX2_setSpeed 3 (some .int), .fieldLink RX2 28 "PolyDrums" "beats" "I", .methodLink RX2 31 yX2_isWithin, .static yX2_isWithin, .code yX2_isWithin cX2_isWithin 3 (some .boolean), .methodLink RX2 35 yX2_checkArgument, .static yX2_checkArgument, .code yX2_checkArgument cX2_checkArgument 1 none, .classLink RX2 208 "java/lang/IllegalArgumentException", .initialized "java/lang/IllegalArgumentException"] ++ wsX20 ++ (vx_atS RX2 212 "java/lang/IllegalArgumentException" ["java/lang/RuntimeException", "java/lang/Exception"]).filter goodWord)
def wsL_seconds : List Cond := .codeWith yL_seconds cL_seconds 4 (some .int) [(0, 8, 11, 13)] :: ([.classLink RL 13 "java/lang/IllegalArgumentException", .methodLink RL 92 yX2_seconds, .instanceMethod yX2_seconds, .selects RX2 yX2_seconds yX2_seconds, .initialized RX2, .code yX2_seconds cX2_seconds 2 (some .double), .constantDouble RX2 181 (4633641066610819072), .fieldLink RX2 28 "PolyDrums" "beats" "I", .constantDouble RX2 183 (4627448617123184640), .methodLink RX2 108 yX2_isTick, .static yX2_isTick, .code yX2_isTick cX2_isTick 1 (some .boolean), .constant RX2 155 (99999), .methodLink RX2 31 yX2_isWithin, .static yX2_isWithin, .code yX2_isWithin cX2_isWithin 3 (some .boolean), .methodLink RX2 35 yX2_checkArgument, .static yX2_checkArgument, .code yX2_checkArgument cX2_checkArgument 1 none, .classLink RX2 208 "java/lang/IllegalArgumentException", .initialized "java/lang/IllegalArgumentException"] ++ wsX20 ++ (vx_atS RX2 212 "java/lang/IllegalArgumentException" ["java/lang/RuntimeException", "java/lang/Exception"]).filter goodWord)
def wsL_law0_r1 : List Cond := [Cond.classLink RL 8 RX2, Cond.instantiable RX2 5, Cond.initialized RX2, Cond.classLink RL 96 RX3, Cond.instantiable RX3 14, Cond.initialized RX3, Cond.arrayClass .long, Cond.arrayClass .double, Cond.methodLink RL 95 yX2_init, Cond.instanceMethod yX2_init, Cond.code yX2_init cX2_init 1 none, Cond.methodLink RX2 1 objectInit, Cond.instanceMethod objectInit, Cond.code objectInit ⟨#[0xb1]⟩ 1 none, Cond.classLink RX2 9 RX1, Cond.fieldLink RX2 11 "PolyDrums" "tracks" "[LPolyDrums$Track;", Cond.fieldLink RX2 15 "PolyDrums" "trackCount" "I", Cond.classLink RX2 19 RX0, Cond.fieldLink RX2 21 "PolyDrums" "sections" "[LPolyDrums$Section;", Cond.fieldLink RX2 25 "PolyDrums" "sectionCount" "I", Cond.fieldLink RX2 28 "PolyDrums" "beats" "I", Cond.methodLink RL 98 yX3_init, Cond.instanceMethod yX3_init, Cond.code yX3_init cX3_init 1 none]
def wsL_law0_r2 : List Cond := [Cond.methodLink RX3 1 objectInit, Cond.arrayClass .int, Cond.fieldLink RX3 9 "PolyDrumsModel" "counts" "[I", Cond.fieldLink RX3 13 "PolyDrumsModel" "ticks" "[I", Cond.fieldLink RX3 16 "PolyDrumsModel" "swings" "[I", Cond.fieldLink RX3 19 "PolyDrumsModel" "rings" "[I", Cond.fieldLink RX3 22 "PolyDrumsModel" "groups" "[I", Cond.arrayClass .boolean, Cond.fieldLink RX3 25 "PolyDrumsModel" "flags" "[Z", Cond.fieldLink RX3 29 "PolyDrumsModel" "steps" "[I", Cond.fieldLink RX3 32 "PolyDrumsModel" "begins" "[I", Cond.fieldLink RX3 35 "PolyDrumsModel" "sets" "[I", Cond.fieldLink RX3 38 "PolyDrumsModel" "areNew" "[Z", Cond.fieldLink RX3 41 "PolyDrumsModel" "speed" "I", Cond.methodLink RL 99 yL_addTrack, Cond.static yL_addTrack, Cond.initialized RL, Cond.codeWith yL_addTrack cL_addTrack 5 (some .int) [(0, 10, 13, 13), (0, 10, 17, 15)], Cond.classLink RL 13 "java/lang/IllegalArgumentException", Cond.classLink RL 15 "java/lang/IllegalStateException", Cond.methodLink RL 7 yX2_addTrack, Cond.instanceMethod yX2_addTrack, Cond.selects RX2 yX2_addTrack yX2_addTrack, Cond.code yX2_addTrack cX2_addTrack 4 (some .int)]
def wsL_law0_r3 : List Cond := [Cond.classLink RX2 39 "java/lang/IllegalStateException", Cond.initialized "java/lang/IllegalStateException", Cond.instantiable RX1 10, Cond.initialized RX1, Cond.methodLink RX2 31 yX2_isWithin, Cond.static yX2_isWithin, Cond.code yX2_isWithin cX2_isWithin 3 (some .boolean), Cond.methodLink RX2 35 yX2_checkArgument, Cond.static yX2_checkArgument, Cond.code yX2_checkArgument cX2_checkArgument 1 none, Cond.classLink RX2 208 "java/lang/IllegalArgumentException", Cond.initialized "java/lang/IllegalArgumentException", Cond.instanceMethod yX1_init, Cond.code yX1_init cX1_init 4 none, Cond.methodLink RX1 3 objectInit, Cond.fieldLink RX1 9 "PolyDrums$Track" "swing" "I", Cond.fieldLink RX1 15 "PolyDrums$Track" "ring" "I", Cond.fieldLink RX1 18 "PolyDrums$Track" "group" "I", Cond.fieldLink RX1 21 "PolyDrums$Track" "isMuted" "Z", Cond.fieldLink RX1 25 "PolyDrums$Track" "isSolo" "Z", Cond.fieldLink RX1 28 "PolyDrums$Track" "isAccent" "Z", Cond.fieldLink RX1 31 "PolyDrums$Track" "cells" "[I", Cond.fieldLink RX1 35 "PolyDrums$Track" "spare" "[I", Cond.fieldLink RX1 38 "PolyDrums$Track" "steps" "I"]
def wsL_law0_r4 : List Cond := [Cond.fieldLink RX1 41 "PolyDrums$Track" "stepTicks" "I", Cond.methodLink RX1 44 yX1_clearStep, Cond.instanceMethod yX1_clearStep, Cond.selects RX1 yX1_clearStep yX1_clearStep, Cond.code yX1_clearStep cX1_clearStep 3 none, Cond.methodLink RX1 56 yX1_putCell, Cond.instanceMethod yX1_putCell, Cond.selects RX1 yX1_putCell yX1_putCell, Cond.code yX1_putCell cX1_putCell 4 none, Cond.static yX2_write, Cond.code yX2_write cX2_write 3 none, Cond.methodLink RL 104 yX3_addTrack, Cond.instanceMethod yX3_addTrack, Cond.selects RX3 yX3_addTrack yX3_addTrack, Cond.code yX3_addTrack cX3_addTrack 4 (some .int), Cond.fieldLink RX3 45 "PolyDrumsModel" "thrown" "I", Cond.fieldLink RX3 48 "PolyDrumsModel" "tracks" "I", Cond.methodLink RX3 51 yX3_isIn, Cond.static yX3_isIn, Cond.code yX3_isIn cX3_isIn 3 (some .boolean), Cond.methodLink RX3 64 yX3_no, Cond.instanceMethod yX3_no, Cond.selects RX3 yX3_no yX3_no, Cond.code yX3_no cX3_no 2 (some .int)]
def wsL_law0_r5 : List Cond := [Cond.methodLink RX3 68 yX3_plain, Cond.instanceMethod yX3_plain, Cond.selects RX3 yX3_plain yX3_plain, Cond.code yX3_plain cX3_plain 4 none, Cond.methodLink RX3 60 yX3_at, Cond.static yX3_at, Cond.code yX3_at cX3_at 2 (some .int), Cond.methodLink RL 105 yX3_thrown, Cond.instanceMethod yX3_thrown, Cond.selects RX3 yX3_thrown yX3_thrown, Cond.code yX3_thrown cX3_thrown 1 (some .int), Cond.methodLink RL 108 yL_set, Cond.static yL_set, Cond.codeWith yL_set cL_set 7 (some .int) [(0, 14, 17, 21), (0, 14, 21, 13)], Cond.classLink RL 21 "java/lang/IndexOutOfBoundsException", Cond.methodLink RL 17 yX2_set, Cond.instanceMethod yX2_set, Cond.selects RX2 yX2_set yX2_set, Cond.code yX2_set cX2_set 7 (some .int), Cond.methodLink RX2 49 yX2_trackWithStep, Cond.instanceMethod yX2_trackWithStep, Cond.selects RX2 yX2_trackWithStep yX2_trackWithStep, Cond.code yX2_trackWithStep cX2_trackWithStep 4 (some (.object "PolyDrums$Track")), Cond.methodLink RX2 68 yX2_existingTrack]
def wsL_law0_r6 : List Cond := [Cond.instanceMethod yX2_existingTrack, Cond.selects RX2 yX2_existingTrack yX2_existingTrack, Cond.code yX2_existingTrack cX2_existingTrack 3 (some (.object "PolyDrums$Track")), Cond.classLink RX2 213 "java/lang/IndexOutOfBoundsException", Cond.initialized "java/lang/IndexOutOfBoundsException", Cond.methodLink RX2 146 yX2_trackOrNull, Cond.instanceMethod yX2_trackOrNull, Cond.selects RX2 yX2_trackOrNull yX2_trackOrNull, Cond.code yX2_trackOrNull cX2_trackOrNull 2 (some (.object "PolyDrums$Track")), Cond.methodLink RX2 61 yX2_checkIndex, Cond.static yX2_checkIndex, Cond.code yX2_checkIndex cX2_checkIndex 1 none, Cond.instanceMethod yX1_cell, Cond.selects RX1 yX1_cell yX1_cell, Cond.code yX1_cell cX1_cell 3 (some .int), Cond.static yX2_read, Cond.code yX2_read cX2_read 2 (some .int), Cond.methodLink RL 111 yX3_set, Cond.instanceMethod yX3_set, Cond.selects RX3 yX3_set yX3_set, Cond.code yX3_set cX3_set 6 (some .int), Cond.methodLink RX3 72 yX3_isStep, Cond.instanceMethod yX3_isStep, Cond.selects RX3 yX3_isStep yX3_isStep]
def wsL_law0_r7 : List Cond := [Cond.code yX3_isStep cX3_isStep 3 (some .boolean), Cond.methodLink RX3 55 yX3_isTrack, Cond.instanceMethod yX3_isTrack, Cond.selects RX3 yX3_isTrack yX3_isTrack, Cond.code yX3_isTrack cX3_isTrack 2 (some .boolean), Cond.methodLink RL 112 yL_setTurn, Cond.static yL_setTurn, Cond.codeWith yL_setTurn cL_setTurn 7 (some .int) [(0, 14, 17, 21), (0, 14, 21, 13)], Cond.methodLink RL 23 yX2_setTurn, Cond.instanceMethod yX2_setTurn, Cond.selects RX2 yX2_setTurn yX2_setTurn, Cond.code yX2_setTurn cX2_setTurn 7 (some .int), Cond.methodLink RL 114 yX3_setTurn, Cond.instanceMethod yX3_setTurn, Cond.selects RX3 yX3_setTurn yX3_setTurn, Cond.code yX3_setTurn cX3_setTurn 6 (some .int), Cond.methodLink RL 115 yL_step, Cond.static yL_step, Cond.codeWith yL_step cL_step 6 (some .int) [(0, 12, 15, 21)], Cond.methodLink RL 26 yX2_step, Cond.instanceMethod yX2_step, Cond.selects RX2 yX2_step yX2_step, Cond.code yX2_step cX2_step 5 (some .int), Cond.instanceMethod yX1_delay]
def wsL_law0_r8 : List Cond := [Cond.selects RX1 yX1_delay yX1_delay, Cond.code yX1_delay cX1_delay 2 (some .int), Cond.methodLink RL 118 yX3_step, Cond.instanceMethod yX3_step, Cond.selects RX3 yX3_step yX3_step, Cond.code yX3_step cX3_step 4 (some .int), Cond.methodLink RX3 76 yX3_delay, Cond.instanceMethod yX3_delay, Cond.selects RX3 yX3_delay yX3_delay, Cond.code yX3_delay cX3_delay 3 (some .int), Cond.methodLink RL 119 yL_track, Cond.static yL_track, Cond.codeWith yL_track cL_track 5 (some .int) [(0, 10, 13, 21)], Cond.methodLink RL 30 yX2_track, Cond.instanceMethod yX2_track, Cond.selects RX2 yX2_track yX2_track, Cond.code yX2_track cX2_track 4 (some .int), Cond.instanceMethod yX1_setting, Cond.selects RX1 yX1_setting yX1_setting, Cond.code yX1_setting cX1_setting 2 (some .int), Cond.methodLink RL 121 yX3_track, Cond.instanceMethod yX3_track, Cond.selects RX3 yX3_track yX3_track, Cond.code yX3_track cX3_track 3 (some .int)]
def wsL_law0_r9 : List Cond := [Cond.methodLink RX3 79 yX3_told, Cond.instanceMethod yX3_told, Cond.selects RX3 yX3_told yX3_told, Cond.code yX3_told cX3_told 3 (some .int), Cond.methodLink RL 122 yL_tune, Cond.static yL_tune, Cond.codeWith yL_tune cL_tune 7 (some .int) [(0, 14, 17, 21), (0, 14, 21, 13)], Cond.methodLink RL 33 yX2_tune, Cond.instanceMethod yX2_tune, Cond.selects RX2 yX2_tune yX2_tune, Cond.code yX2_tune cX2_tune 7 (some .int), Cond.methodLink RL 124 yX3_tune, Cond.instanceMethod yX3_tune, Cond.selects RX3 yX3_tune yX3_tune, Cond.code yX3_tune cX3_tune 6 (some .int), Cond.methodLink RL 125 yL_turn, Cond.static yL_turn, Cond.codeWith yL_turn cL_turn 6 (some .int) [(0, 19, 22, 21)], Cond.methodLink RL 36 yX2_turn, Cond.instanceMethod yX2_turn, Cond.selects RX2 yX2_turn yX2_turn, Cond.code yX2_turn cX2_turn 6 (some .boolean), Cond.instanceMethod yX1_switchTo, Cond.selects RX1 yX1_switchTo yX1_switchTo]
def wsL_law0_r10 : List Cond := [Cond.code yX1_switchTo cX1_switchTo 3 none, Cond.methodLink RL 128 yX3_turn, Cond.instanceMethod yX3_turn, Cond.selects RX3 yX3_turn yX3_turn, Cond.code yX3_turn cX3_turn 5 (some .boolean), Cond.methodLink RL 129 yL_spread, Cond.static yL_spread, Cond.codeWith yL_spread cL_spread 6 (some .int) [(0, 12, 15, 21), (0, 12, 19, 13)], Cond.methodLink RL 40 yX2_spread, Cond.instanceMethod yX2_spread, Cond.selects RX2 yX2_spread yX2_spread, Cond.code yX2_spread cX2_spread 5 (some .int), Cond.instanceMethod yX1_spreadHits, Cond.selects RX1 yX1_spreadHits yX1_spreadHits, Cond.code yX1_spreadHits cX1_spreadHits 6 (some .int), Cond.static yX2_rest, Cond.code yX2_rest cX2_rest 2 (some .int), Cond.methodLink RL 131 yX3_spread, Cond.instanceMethod yX3_spread, Cond.selects RX3 yX3_spread yX3_spread, Cond.code yX3_spread cX3_spread 7 (some .int), Cond.methodLink RL 132 yL_rotate, Cond.static yL_rotate, Cond.codeWith yL_rotate cL_rotate 5 (some .int) [(0, 10, 13, 21), (0, 10, 17, 13)]]
def wsL_law0_r11 : List Cond := [Cond.methodLink RL 43 yX2_rotate, Cond.instanceMethod yX2_rotate, Cond.selects RX2 yX2_rotate yX2_rotate, Cond.code yX2_rotate cX2_rotate 4 (some .int), Cond.instanceMethod yX1_moveSteps, Cond.selects RX1 yX1_moveSteps yX1_moveSteps, Cond.code yX1_moveSteps cX1_moveSteps 3 none, Cond.methodLink RX1 64 arraycopyName, Cond.native arraycopyName, Cond.static arraycopyName, Cond.initialized "java/lang/System", Cond.methodLink RX1 70 yX1_copyStep, Cond.instanceMethod yX1_copyStep, Cond.selects RX1 yX1_copyStep yX1_copyStep, Cond.code yX1_copyStep cX1_copyStep 5 none, Cond.instanceMethod yX1_stepsWithForce, Cond.selects RX1 yX1_stepsWithForce yX1_stepsWithForce, Cond.code yX1_stepsWithForce cX1_stepsWithForce 3 (some .int), Cond.methodLink RX1 73 yX1_cell, Cond.methodLink RL 134 yX3_rotate, Cond.instanceMethod yX3_rotate, Cond.selects RX3 yX3_rotate yX3_rotate, Cond.code yX3_rotate cX3_rotate 4 (some .int), Cond.methodLink RX3 88 ⟨"[I", "clone", "()Ljava/lang/Object;"⟩]
def wsL_law0_r12 : List Cond := [Cond.sameMethod "[I" "java/lang/Object" "clone" "()Ljava/lang/Object;", Cond.native ⟨"java/lang/Object", "clone", "()Ljava/lang/Object;"⟩, Cond.instanceMethod ⟨"java/lang/Object", "clone", "()Ljava/lang/Object;"⟩, Cond.selects "[I" ⟨"[I", "clone", "()Ljava/lang/Object;"⟩ ⟨"java/lang/Object", "clone", "()Ljava/lang/Object;"⟩, Cond.classLink RX3 89 "[I", Cond.methodLink RX3 93 yX3_take, Cond.instanceMethod yX3_take, Cond.selects RX3 yX3_take yX3_take, Cond.code yX3_take cX3_take 6 none, Cond.methodLink RX3 82 arraycopyName, Cond.methodLink RX3 97 yX3_loud, Cond.instanceMethod yX3_loud, Cond.selects RX3 yX3_loud yX3_loud, Cond.code yX3_loud cX3_loud 4 (some .int), Cond.methodLink RL 135 yL_stretch, Cond.static yL_stretch, Cond.codeWith yL_stretch cL_stretch 5 (some .int) [(0, 10, 13, 21), (0, 10, 17, 13)], Cond.methodLink RL 46 yX2_stretch, Cond.instanceMethod yX2_stretch, Cond.selects RX2 yX2_stretch yX2_stretch, Cond.code yX2_stretch cX2_stretch 5 (some .int), Cond.instanceMethod yX1_resize, Cond.selects RX1 yX1_resize yX1_resize, Cond.code yX1_resize cX1_resize 3 none]
def wsL_law0_r13 : List Cond := [Cond.methodLink RL 137 yX3_stretch, Cond.instanceMethod yX3_stretch, Cond.selects RX3 yX3_stretch yX3_stretch, Cond.code yX3_stretch cX3_stretch 4 (some .int), Cond.methodLink RL 138 yL_tap, Cond.static yL_tap, Cond.codeWith yL_tap cL_tap 6 (some .int) [(0, 12, 15, 21), (0, 12, 19, 13)], Cond.methodLink RL 49 yX2_tap, Cond.instanceMethod yX2_tap, Cond.selects RX2 yX2_tap yX2_tap, Cond.code yX2_tap cX2_tap 6 (some .int), Cond.methodLink RX2 108 yX2_isTick, Cond.static yX2_isTick, Cond.code yX2_isTick cX2_isTick 1 (some .boolean), Cond.constant RX2 155 (99999), Cond.instanceMethod yX1_nearestStep, Cond.selects RX1 yX1_nearestStep yX1_nearestStep, Cond.code yX1_nearestStep cX1_nearestStep 7 (some .int), Cond.methodLink RX1 80 Lib.Math.min.name, Cond.static Lib.Math.min.name, Cond.initialized "java/lang/Math", Cond.code Lib.Math.min.name Lib.Math.min.code 2 (some .int), Cond.methodLink RX1 89 Lib.Math.abs.name, Cond.static Lib.Math.abs.name]
def wsL_law0_r14 : List Cond := [Cond.code Lib.Math.abs.name Lib.Math.abs.code 1 (some .int), Cond.methodLink RX1 76 yX1_roundTicks, Cond.instanceMethod yX1_roundTicks, Cond.selects RX1 yX1_roundTicks yX1_roundTicks, Cond.code yX1_roundTicks cX1_roundTicks 1 (some .int), Cond.methodLink RX1 85 yX1_delay, Cond.methodLink RL 140 yX3_tap, Cond.instanceMethod yX3_tap, Cond.selects RX3 yX3_tap yX3_tap, Cond.code yX3_tap cX3_tap 10 (some .int), Cond.methodLink RX3 103 Lib.Math.min.name, Cond.methodLink RX3 108 Lib.Math.abs.name, Cond.methodLink RX3 100 yX3_isTick, Cond.static yX3_isTick, Cond.code yX3_isTick cX3_isTick 1 (some .boolean), Cond.constant RX3 59 (99999), Cond.methodLink RL 141 yX2_tracks, Cond.instanceMethod yX2_tracks, Cond.selects RX2 yX2_tracks yX2_tracks, Cond.code yX2_tracks cX2_tracks 1 (some .int), Cond.methodLink RL 144 yX3_tracks, Cond.instanceMethod yX3_tracks, Cond.selects RX3 yX3_tracks yX3_tracks, Cond.code yX3_tracks cX3_tracks 1 (some .int)]
def wsL_law0_r15 : List Cond := [Cond.methodLink RL 145 yL_addSection, Cond.static yL_addSection, Cond.codeWith yL_addSection cL_addSection 6 (some .int) [(0, 12, 15, 13), (0, 12, 19, 15)], Cond.methodLink RL 52 yX2_addSection, Cond.instanceMethod yX2_addSection, Cond.selects RX2 yX2_addSection yX2_addSection, Cond.code yX2_addSection cX2_addSection 5 (some .int), Cond.instantiable RX0 4, Cond.initialized RX0, Cond.methodLink RX2 117 yX2_songTicks, Cond.instanceMethod yX2_songTicks, Cond.selects RX2 yX2_songTicks yX2_songTicks, Cond.code yX2_songTicks cX2_songTicks 2 (some .int), Cond.methodLink RX2 194 yX2_sectionOrNull, Cond.instanceMethod yX2_sectionOrNull, Cond.selects RX2 yX2_sectionOrNull yX2_sectionOrNull, Cond.code yX2_sectionOrNull cX2_sectionOrNull 2 (some (.object "PolyDrums$Section")), Cond.instanceMethod yX0_init, Cond.code yX0_init cX0_init 5 none, Cond.methodLink RX0 1 objectInit, Cond.fieldLink RX0 7 "PolyDrums$Section" "begin" "I", Cond.fieldLink RX0 13 "PolyDrums$Section" "length" "I", Cond.fieldLink RX0 16 "PolyDrums$Section" "set" "I", Cond.fieldLink RX0 19 "PolyDrums$Section" "isNew" "Z"]
def wsL_law0_r16 : List Cond := [Cond.methodLink RL 147 yX3_addSection, Cond.instanceMethod yX3_addSection, Cond.selects RX3 yX3_addSection yX3_addSection, Cond.code yX3_addSection cX3_addSection 4 (some .int), Cond.fieldLink RX3 111 "PolyDrumsModel" "sections" "I", Cond.methodLink RL 148 yL_dropSection, Cond.static yL_dropSection, Cond.codeWith yL_dropSection cL_dropSection 3 (some .int) [(0, 8, 11, 15)], Cond.methodLink RL 56 yX2_dropSection, Cond.instanceMethod yX2_dropSection, Cond.selects RX2 yX2_dropSection yX2_dropSection, Cond.code yX2_dropSection cX2_dropSection 2 (some .int), Cond.methodLink RL 151 yX3_dropSection, Cond.instanceMethod yX3_dropSection, Cond.selects RX3 yX3_dropSection yX3_dropSection, Cond.code yX3_dropSection cX3_dropSection 1 (some .int), Cond.methodLink RL 152 yL_sectionAt, Cond.static yL_sectionAt, Cond.codeWith yL_sectionAt cL_sectionAt 4 (some .int) [(0, 9, 12, 13)], Cond.methodLink RL 60 yX2_sectionAt, Cond.instanceMethod yX2_sectionAt, Cond.selects RX2 yX2_sectionAt yX2_sectionAt, Cond.code yX2_sectionAt cX2_sectionAt 2 (some .int), Cond.methodLink RX2 125 yX2_sectionNumber]
def wsL_law0_r17 : List Cond := [Cond.instanceMethod yX2_sectionNumber, Cond.selects RX2 yX2_sectionNumber yX2_sectionNumber, Cond.code yX2_sectionNumber cX2_sectionNumber 4 (some .int), Cond.methodLink RL 155 yX3_sectionAt, Cond.instanceMethod yX3_sectionAt, Cond.selects RX3 yX3_sectionAt yX3_sectionAt, Cond.code yX3_sectionAt cX3_sectionAt 2 (some .int), Cond.methodLink RX3 114 yX3_section, Cond.instanceMethod yX3_section, Cond.selects RX3 yX3_section yX3_section, Cond.code yX3_section cX3_section 3 (some .int), Cond.methodLink RL 156 yX2_length, Cond.instanceMethod yX2_length, Cond.selects RX2 yX2_length yX2_length, Cond.code yX2_length cX2_length 1 (some .int), Cond.methodLink RL 159 yX3_length, Cond.instanceMethod yX3_length, Cond.selects RX3 yX3_length yX3_length, Cond.code yX3_length cX3_length 1 (some .int), Cond.methodLink RL 160 yL_loudness, Cond.static yL_loudness, Cond.codeWith yL_loudness cL_loudness 5 (some .int) [(0, 10, 13, 21), (0, 10, 17, 13)], Cond.methodLink RL 64 yX2_loudness, Cond.instanceMethod yX2_loudness]
def wsL_law0_r18 : List Cond := [Cond.selects RX2 yX2_loudness yX2_loudness, Cond.code yX2_loudness cX2_loudness 3 (some .int), Cond.methodLink RX2 138 Lib.Math.min.name, Cond.methodLink RX2 128 yX2_makesHit, Cond.instanceMethod yX2_makesHit, Cond.selects RX2 yX2_makesHit yX2_makesHit, Cond.code yX2_makesHit cX2_makesHit 4 (some .boolean), Cond.methodLink RX2 132 yX2_struckForce, Cond.instanceMethod yX2_struckForce, Cond.selects RX2 yX2_struckForce yX2_struckForce, Cond.code yX2_struckForce cX2_struckForce 5 (some .int), Cond.methodLink RX2 233 yX2_isSilenced, Cond.instanceMethod yX2_isSilenced, Cond.selects RX2 yX2_isSilenced yX2_isSilenced, Cond.code yX2_isSilenced cX2_isSilenced 2 (some .boolean), Cond.methodLink RX2 229 yX2_isAnySolo, Cond.instanceMethod yX2_isAnySolo, Cond.selects RX2 yX2_isAnySolo yX2_isAnySolo, Cond.code yX2_isAnySolo cX2_isAnySolo 3 (some .boolean), Cond.methodLink RX2 237 yX2_localTime, Cond.instanceMethod yX2_localTime, Cond.selects RX2 yX2_localTime yX2_localTime, Cond.code yX2_localTime cX2_localTime 4 (some .int), Cond.methodLink RX2 149 yX2_isInSet]
def wsL_law0_r19 : List Cond := [Cond.static yX2_isInSet, Cond.code yX2_isInSet cX2_isInSet 2 (some .boolean), Cond.instanceMethod yX1_forceAt, Cond.selects RX1 yX1_forceAt yX1_forceAt, Cond.code yX1_forceAt cX1_forceAt 8 (some .int), Cond.static yX2_quotient, Cond.code yX2_quotient cX2_quotient 2 (some .int), Cond.methodLink RX1 95 yX1_isStroke, Cond.static yX1_isStroke, Cond.code yX1_isStroke cX1_isStroke 4 (some .boolean), Cond.methodLink RX2 135 yX2_accentForce, Cond.instanceMethod yX2_accentForce, Cond.selects RX2 yX2_accentForce yX2_accentForce, Cond.code yX2_accentForce cX2_accentForce 5 (some .int), Cond.methodLink RL 162 yX3_loudness, Cond.instanceMethod yX3_loudness, Cond.selects RX3 yX3_loudness yX3_loudness, Cond.code yX3_loudness cX3_loudness 3 (some .int), Cond.methodLink RX3 123 yX3_loud_, Cond.instanceMethod yX3_loud_, Cond.selects RX3 yX3_loud_ yX3_loud_, Cond.code yX3_loud_ cX3_loud_ 6 (some .int), Cond.methodLink RX3 120 yX3_strike, Cond.instanceMethod yX3_strike]
def wsL_law0_r20 : List Cond := [Cond.selects RX3 yX3_strike yX3_strike, Cond.code yX3_strike cX3_strike 12 (some .int), Cond.methodLink RX3 117 yX3_isSilent, Cond.instanceMethod yX3_isSilent, Cond.selects RX3 yX3_isSilent yX3_isSilent, Cond.code yX3_isSilent cX3_isSilent 4 (some .boolean), Cond.methodLink RL 163 yL_hits, Cond.static yL_hits, Cond.codeWith yL_hits cL_hits 4 (some .int) [(0, 9, 12, 13)], Cond.methodLink RL 67 yX2_hits, Cond.instanceMethod yX2_hits, Cond.selects RX2 yX2_hits yX2_hits, Cond.code yX2_hits cX2_hits 2 (some .int), Cond.methodLink RX2 143 yX2_hitSet, Cond.instanceMethod yX2_hitSet, Cond.selects RX2 yX2_hitSet yX2_hitSet, Cond.code yX2_hitSet cX2_hitSet 4 (some .int), Cond.methodLink RL 165 yX3_hits_, Cond.instanceMethod yX3_hits_, Cond.selects RX3 yX3_hits_ yX3_hits_, Cond.code yX3_hits_ cX3_hits_ 4 (some .int), Cond.methodLink RX3 125 yX3_hits, Cond.instanceMethod yX3_hits, Cond.selects RX3 yX3_hits yX3_hits]
def wsL_law0_r21 : List Cond := [Cond.code yX3_hits cX3_hits 3 (some .boolean), Cond.methodLink RL 166 yL_sounding, Cond.static yL_sounding, Cond.codeWith yL_sounding cL_sounding 4 (some .int) [(0, 9, 12, 13)], Cond.methodLink RL 70 yX2_sounding, Cond.instanceMethod yX2_sounding, Cond.selects RX2 yX2_sounding yX2_sounding, Cond.code yX2_sounding cX2_sounding 8 (some .int), Cond.methodLink RX2 152 yX2_groupSet, Cond.instanceMethod yX2_groupSet, Cond.selects RX2 yX2_groupSet yX2_groupSet, Cond.code yX2_groupSet cX2_groupSet 5 (some .int), Cond.methodLink RL 168 yX3_sounding, Cond.instanceMethod yX3_sounding, Cond.selects RX3 yX3_sounding yX3_sounding, Cond.code yX3_sounding cX3_sounding 4 (some .int), Cond.methodLink RX3 128 yX3_sounds, Cond.instanceMethod yX3_sounds, Cond.selects RX3 yX3_sounds yX3_sounds, Cond.code yX3_sounds cX3_sounds 7 (some .boolean), Cond.methodLink RL 169 yL_next, Cond.static yL_next, Cond.codeWith yL_next cL_next 5 (some .int) [(0, 10, 13, 21), (0, 10, 17, 13)], Cond.methodLink RL 73 yX2_next]
def wsL_law0_r22 : List Cond := [Cond.instanceMethod yX2_next, Cond.selects RX2 yX2_next yX2_next, Cond.code yX2_next cX2_next 5 (some .int), Cond.methodLink RL 171 yX3_next, Cond.instanceMethod yX3_next, Cond.selects RX3 yX3_next yX3_next, Cond.code yX3_next cX3_next 4 (some .int), Cond.methodLink RL 172 yL_count, Cond.static yL_count, Cond.codeWith yL_count cL_count 6 (some .int) [(0, 12, 15, 21), (0, 12, 19, 13)], Cond.methodLink RL 76 yX2_count, Cond.instanceMethod yX2_count, Cond.selects RX2 yX2_count yX2_count, Cond.code yX2_count cX2_count 4 (some .int), Cond.methodLink RX2 156 yX2_isSpan, Cond.static yX2_isSpan, Cond.code yX2_isSpan cX2_isSpan 2 (some .boolean), Cond.methodLink RX2 159 yX2_commonHits, Cond.instanceMethod yX2_commonHits, Cond.selects RX2 yX2_commonHits yX2_commonHits, Cond.code yX2_commonHits cX2_commonHits 7 (some .int), Cond.methodLink RL 174 yX3_count, Cond.instanceMethod yX3_count, Cond.selects RX3 yX3_count yX3_count]
def wsL_law0_r23 : List Cond := [Cond.code yX3_count cX3_count 6 (some .int), Cond.methodLink RX3 131 yX3_isSpan, Cond.static yX3_isSpan, Cond.code yX3_isSpan cX3_isSpan 2 (some .boolean), Cond.methodLink RL 175 yL_together, Cond.static yL_together, Cond.codeWith yL_together cL_together 7 (some .int) [(0, 14, 17, 21), (0, 14, 21, 13)], Cond.methodLink RL 79 yX2_together, Cond.instanceMethod yX2_together, Cond.selects RX2 yX2_together yX2_together, Cond.code yX2_together cX2_together 5 (some .int), Cond.methodLink RL 177 yX3_together, Cond.instanceMethod yX3_together, Cond.selects RX3 yX3_together yX3_together, Cond.code yX3_together cX3_together 7 (some .int), Cond.methodLink RL 178 yL_rounds, Cond.static yL_rounds, Cond.codeWith yL_rounds cL_rounds 4 (some .int) [(0, 9, 12, 21)], Cond.methodLink RL 82 yX2_rounds, Cond.instanceMethod yX2_rounds, Cond.selects RX2 yX2_rounds yX2_rounds, Cond.code yX2_rounds cX2_rounds 2 (some .int), Cond.instanceMethod yX1_roundsOfTurns, Cond.selects RX1 yX1_roundsOfTurns yX1_roundsOfTurns]
def wsL_law0_r24 : List Cond := [Cond.code yX1_roundsOfTurns cX1_roundsOfTurns 4 (some .int), Cond.static yX2_leastCommonMultiple, Cond.code yX2_leastCommonMultiple cX2_leastCommonMultiple 6 (some .long), Cond.methodLink RX2 247 yX2_greatestCommonDivisor, Cond.static yX2_greatestCommonDivisor, Cond.code yX2_greatestCommonDivisor cX2_greatestCommonDivisor 11 (some .long), Cond.constant RX2 246 (1000000), Cond.methodLink RL 180 yX3_rounds, Cond.instanceMethod yX3_rounds, Cond.selects RX3 yX3_rounds yX3_rounds, Cond.code yX3_rounds cX3_rounds 2 (some .int), Cond.methodLink RX3 138 yX3_roundsOf, Cond.instanceMethod yX3_roundsOf, Cond.selects RX3 yX3_roundsOf yX3_roundsOf, Cond.code yX3_roundsOf cX3_roundsOf 7 (some .int), Cond.methodLink RX3 134 yX3_divisor, Cond.static yX3_divisor, Cond.code yX3_divisor cX3_divisor 10 (some .long), Cond.methodLink RL 181 yX2_period, Cond.instanceMethod yX2_period, Cond.selects RX2 yX2_period yX2_period, Cond.code yX2_period cX2_period 5 (some .long), Cond.constantLong RX2 173 (1000000000), Cond.constantLong RX2 175 (-1)]
def wsL_law0_r25 : List Cond := [Cond.methodLink RX2 169 yX2_leastCommonMultiple, Cond.methodLink RL 185 yX3_period, Cond.instanceMethod yX3_period, Cond.selects RX3 yX3_period yX3_period, Cond.code yX3_period cX3_period 6 (some .long), Cond.constantLong RX3 141 (1000000000), Cond.constantLong RX3 143 (-1), Cond.methodLink RL 186 yL_density, Cond.static yL_density, Cond.codeWith yL_density cL_density 4 (some .int) [(0, 8, 11, 21)], Cond.methodLink RL 85 yX2_density, Cond.instanceMethod yX2_density, Cond.selects RX2 yX2_density yX2_density, Cond.code yX2_density cX2_density 2 (some .double), Cond.instanceMethod yX1_strokesPerRound, Cond.selects RX1 yX1_strokesPerRound yX1_strokesPerRound, Cond.code yX1_strokesPerRound cX1_strokesPerRound 5 (some .double), Cond.methodLink RL 189 yX3_density, Cond.instanceMethod yX3_density, Cond.selects RX3 yX3_density yX3_density, Cond.code yX3_density cX3_density 5 (some .double), Cond.methodLink RL 190 yL_setSpeed, Cond.static yL_setSpeed, Cond.codeWith yL_setSpeed cL_setSpeed 4 (some .int) [(0, 9, 12, 13)]]
def wsL_law0_r26 : List Cond := [Cond.methodLink RL 89 yX2_setSpeed, Cond.instanceMethod yX2_setSpeed, Cond.selects RX2 yX2_setSpeed yX2_setSpeed, Cond.code yX2_setSpeed cX2_setSpeed 3 (some .int), Cond.methodLink RL 192 yX3_setSpeed, Cond.instanceMethod yX3_setSpeed, Cond.selects RX3 yX3_setSpeed yX3_setSpeed, Cond.code yX3_setSpeed cX3_setSpeed 3 (some .int), Cond.methodLink RL 193 yL_seconds, Cond.static yL_seconds, Cond.codeWith yL_seconds cL_seconds 4 (some .int) [(0, 8, 11, 13)], Cond.methodLink RL 92 yX2_seconds, Cond.instanceMethod yX2_seconds, Cond.selects RX2 yX2_seconds yX2_seconds, Cond.code yX2_seconds cX2_seconds 2 (some .double), Cond.constantDouble RX2 181 (4633641066610819072), Cond.constantDouble RX2 183 (4627448617123184640), Cond.methodLink RL 195 yX3_seconds, Cond.instanceMethod yX3_seconds, Cond.selects RX3 yX3_seconds yX3_seconds, Cond.code yX3_seconds cX3_seconds 2 (some .double), Cond.constantDouble RX3 145 (4633641066610819072), Cond.constantDouble RX3 147 (4627448617123184640), Cond.methodLink RL 196 yX2_digest]
def wsL_law0_r27 : List Cond := [Cond.instanceMethod yX2_digest, Cond.selects RX2 yX2_digest yX2_digest, Cond.code yX2_digest cX2_digest 5 (some .long), Cond.constantLong RX2 185 (313), Cond.methodLink RX2 187 yX2_mix, Cond.static yX2_mix, Cond.code yX2_mix cX2_mix 4 (some .long), Cond.constantLong RX2 250 (31), Cond.instanceMethod yX1_mixInto, Cond.selects RX1 yX1_mixInto yX1_mixInto, Cond.code yX1_mixInto cX1_mixInto 7 (some .long), Cond.methodLink RX1 103 yX1_setting, Cond.methodLink RL 199 yX3_digest, Cond.instanceMethod yX3_digest, Cond.selects RX3 yX3_digest yX3_digest, Cond.code yX3_digest cX3_digest 5 (some .long), Cond.constantLong RX3 149 (9703), Cond.constantLong RX3 151 (31)]
def wsL_law0 : List Cond := (wsL_law0_r1 ++ (wsL_law0_r2 ++ (wsL_law0_r3 ++ (wsL_law0_r4 ++ (wsL_law0_r5 ++ (wsL_law0_r6 ++ (wsL_law0_r7 ++ (wsL_law0_r8 ++ (wsL_law0_r9 ++ (wsL_law0_r10 ++ (wsL_law0_r11 ++ (wsL_law0_r12 ++ (wsL_law0_r13 ++ (wsL_law0_r14 ++ (wsL_law0_r15 ++ (wsL_law0_r16 ++ (wsL_law0_r17 ++ (wsL_law0_r18 ++ (wsL_law0_r19 ++ (wsL_law0_r20 ++ (wsL_law0_r21 ++ (wsL_law0_r22 ++ (wsL_law0_r23 ++ (wsL_law0_r24 ++ (wsL_law0_r25 ++ (wsL_law0_r26 ++ wsL_law0_r27)))))))))))))))))))))))))) ++ wsX20 ++ wsX30 ++ wsX10 ++ wsX00 ++ ([] : List Cond)
def wsL_law : List Cond := wsL_law0 ++ (vx_atS RX2 43 "java/lang/IllegalStateException" ["java/lang/RuntimeException", "java/lang/Exception"]).filter goodWord ++ (vx_atS RX2 212 "java/lang/IllegalArgumentException" ["java/lang/RuntimeException", "java/lang/Exception"]).filter goodWord ++ (vx_atS RX2 217 "java/lang/IndexOutOfBoundsException" ["java/lang/RuntimeException", "java/lang/Exception"]).filter goodWord
theorem inJx8e188 : ∀ w ∈ wsJx8e1880, w ∈ lw_tbl := by decide +kernel
theorem inJ9 : ∀ w ∈ wsJ90, w ∈ lw_tbl := by decide +kernel
theorem inJ0 : ∀ w ∈ wsJ00, w ∈ lw_tbl := by decide +kernel
theorem inJ10 : ∀ w ∈ wsJ100, w ∈ lw_tbl := by decide +kernel
theorem dJ9_abs_0f7a4_0 : decode cJ9_abs_0f7a4 0 = .ok (.iload_n 0, 1) := by decide +kernel
theorem dJ9_abs_0f7a4_1 : decode cJ9_abs_0f7a4 1 = .ok (.ifCond .ge 8, 3) := by decide +kernel
theorem dJ9_abs_0f7a4_4 : decode cJ9_abs_0f7a4 4 = .ok (.iload_n 0, 1) := by decide +kernel
theorem dJ9_abs_0f7a4_5 : decode cJ9_abs_0f7a4 5 = .ok (.ineg, 1) := by decide +kernel
theorem dJ9_abs_0f7a4_6 : decode cJ9_abs_0f7a4 6 = .ok (.goto 4, 3) := by decide +kernel
theorem dJ9_abs_0f7a4_9 : decode cJ9_abs_0f7a4 9 = .ok (.iload_n 0, 1) := by decide +kernel
theorem dJ9_abs_0f7a4_10 : decode cJ9_abs_0f7a4 10 = .ok (.ireturn, 1) := by decide +kernel
theorem dJ9_min_7cf53_0 : decode cJ9_min_7cf53 0 = .ok (.iload_n 0, 1) := by decide +kernel
theorem dJ9_min_7cf53_1 : decode cJ9_min_7cf53 1 = .ok (.iload_n 1, 1) := by decide +kernel
theorem dJ9_min_7cf53_2 : decode cJ9_min_7cf53 2 = .ok (.if_icmp .gt 7, 3) := by decide +kernel
theorem dJ9_min_7cf53_5 : decode cJ9_min_7cf53 5 = .ok (.iload_n 0, 1) := by decide +kernel
theorem dJ9_min_7cf53_6 : decode cJ9_min_7cf53 6 = .ok (.goto 4, 3) := by decide +kernel
theorem dJ9_min_7cf53_9 : decode cJ9_min_7cf53 9 = .ok (.iload_n 1, 1) := by decide +kernel
theorem dJ9_min_7cf53_10 : decode cJ9_min_7cf53 10 = .ok (.ireturn, 1) := by decide +kernel
abbrev vwCl : List vw_C := [(RX0, TX0, 4), (RX1, TX1, 10), (RX2, TX2, 5), (RX3, TX3, 14)]
end
section
set_option maxRecDepth 20000 in
theorem ggX1_init_X1_clearStep : GoodIn wsX1_init wsX1_clearStep := goodIn_r _ [19, 20, 21, 22, 18, 23, 11, 24, 25, 26, 27, 28, 29, 30, 31, 32, 33, 34, 35, 36] (by decide +kernel) (by decide +kernel)
set_option maxRecDepth 20000 in
theorem gX1_init_X1_clearStep : GoodIn wsX1_init (wsV RX1 44 RX1 yX1_clearStep wsX1_clearStep) := goodIn_app (goodIn_of _ (by decide +kernel)) ggX1_init_X1_clearStep
set_option maxRecDepth 20000 in
theorem ggX1_cell_X2_read : GoodIn wsX1_cell wsX2_read := goodIn_r _ [4] (by decide +kernel) (by decide +kernel)
set_option maxRecDepth 20000 in
theorem gX1_cell_X2_read_n48 : GoodIn wsX1_cell (wsX2_read) := ggX1_cell_X2_read
set_option maxRecDepth 20000 in
theorem ggX1_putCell_X2_write : GoodIn wsX1_putCell wsX2_write := goodIn_r _ [4] (by decide +kernel) (by decide +kernel)
set_option maxRecDepth 20000 in
theorem gX1_putCell_X2_write_n52 : GoodIn wsX1_putCell (wsX2_write) := ggX1_putCell_X2_write
set_option maxRecDepth 20000 in
theorem ggX1_clearStep_X1_putCell : GoodIn wsX1_clearStep wsX1_putCell := goodIn_r _ [5, 6, 7, 8, 9, 10, 11, 12, 13, 14, 15, 16, 17, 18, 19] (by decide +kernel) (by decide +kernel)
set_option maxRecDepth 20000 in
theorem gX1_clearStep_X1_putCell : GoodIn wsX1_clearStep (wsV RX1 56 RX1 yX1_putCell wsX1_putCell) := goodIn_app (goodIn_of _ (by decide +kernel)) ggX1_clearStep_X1_putCell
set_option maxRecDepth 20000 in
theorem ggX1_spreadHits_X2_rest : GoodIn wsX1_spreadHits wsX2_rest := goodIn_r _ [4] (by decide +kernel) (by decide +kernel)
set_option maxRecDepth 20000 in
theorem gX1_spreadHits_X2_rest_n60 : GoodIn wsX1_spreadHits (wsX2_rest) := ggX1_spreadHits_X2_rest
set_option maxRecDepth 20000 in
theorem ggX1_spreadHits_X1_clearStep : GoodIn wsX1_spreadHits wsX1_clearStep := goodIn_r _ [9, 10, 11, 12, 8, 13, 14, 15, 3, 16, 17, 18, 19, 20, 21, 22, 23, 24, 25, 26] (by decide +kernel) (by decide +kernel)
set_option maxRecDepth 20000 in
theorem gX1_spreadHits_X1_clearStep : GoodIn wsX1_spreadHits (wsV RX1 44 RX1 yX1_clearStep wsX1_clearStep) := goodIn_app (goodIn_of _ (by decide +kernel)) ggX1_spreadHits_X1_clearStep
set_option maxRecDepth 20000 in
theorem ggX1_moveSteps_X2_rest : GoodIn wsX1_moveSteps wsX2_rest := goodIn_r _ [10] (by decide +kernel) (by decide +kernel)
set_option maxRecDepth 20000 in
theorem gX1_moveSteps_X2_rest_n60 : GoodIn wsX1_moveSteps (wsX2_rest) := ggX1_moveSteps_X2_rest
set_option maxRecDepth 20000 in
theorem ggX1_moveSteps_X1_copyStep : GoodIn wsX1_moveSteps wsX1_copyStep := goodIn_r _ [15, 16, 9, 17, 18, 19, 20, 14, 21, 1, 22, 23, 24, 25, 26, 27, 28, 29, 30, 31, 32, 33] (by decide +kernel) (by decide +kernel)
set_option maxRecDepth 20000 in
theorem gX1_moveSteps_X1_copyStep : GoodIn wsX1_moveSteps (wsV RX1 70 RX1 yX1_copyStep wsX1_copyStep) := goodIn_app (goodIn_of _ (by decide +kernel)) ggX1_moveSteps_X1_copyStep
set_option maxRecDepth 20000 in
theorem ggX1_resize_X1_copyStep : GoodIn wsX1_resize wsX1_copyStep := goodIn_r _ [7, 8, 9, 10, 11, 12, 13, 6, 14, 2, 15, 16, 17, 18, 19, 20, 21, 22, 23, 24, 25, 26] (by decide +kernel) (by decide +kernel)
set_option maxRecDepth 20000 in
theorem gX1_resize_X1_copyStep : GoodIn wsX1_resize (wsV RX1 70 RX1 yX1_copyStep wsX1_copyStep) := goodIn_app (goodIn_of _ (by decide +kernel)) ggX1_resize_X1_copyStep
set_option maxRecDepth 20000 in
theorem ggX1_copyStep_X2_read : GoodIn wsX1_copyStep wsX2_read := goodIn_r _ [3] (by decide +kernel) (by decide +kernel)
set_option maxRecDepth 20000 in
theorem gX1_copyStep_X2_read_n48 : GoodIn wsX1_copyStep (wsX2_read) := ggX1_copyStep_X2_read
set_option maxRecDepth 20000 in
theorem ggX1_copyStep_X1_putCell : GoodIn wsX1_copyStep wsX1_putCell := goodIn_r _ [8, 9, 10, 2, 11, 12, 13, 14, 15, 16, 17, 18, 19, 20, 21] (by decide +kernel) (by decide +kernel)
set_option maxRecDepth 20000 in
theorem gX1_copyStep_X1_putCell : GoodIn wsX1_copyStep (wsV RX1 56 RX1 yX1_putCell wsX1_putCell) := goodIn_app (goodIn_of _ (by decide +kernel)) ggX1_copyStep_X1_putCell
set_option maxRecDepth 20000 in
theorem ggX1_stepsWithForce_X1_cell : GoodIn wsX1_stepsWithForce wsX1_cell := goodIn_r _ [6, 7, 8, 9, 10, 11, 12, 13, 14, 15, 16, 17, 18, 19, 20] (by decide +kernel) (by decide +kernel)
set_option maxRecDepth 20000 in
theorem gX1_stepsWithForce_X1_cell : GoodIn wsX1_stepsWithForce (wsV RX1 73 RX1 yX1_cell wsX1_cell) := goodIn_app (goodIn_of _ (by decide +kernel)) ggX1_stepsWithForce_X1_cell
set_option maxRecDepth 20000 in
theorem ggX1_nearestStep_X1_roundTicks : GoodIn wsX1_nearestStep wsX1_roundTicks := goodIn_r _ [14, 5, 6, 23, 24, 25, 26, 27, 28, 29, 30, 31, 32] (by decide +kernel) (by decide +kernel)
set_option maxRecDepth 20000 in
theorem gX1_nearestStep_X1_roundTicks : GoodIn wsX1_nearestStep (wsV RX1 76 RX1 yX1_roundTicks wsX1_roundTicks) := goodIn_app (goodIn_of _ (by decide +kernel)) ggX1_nearestStep_X1_roundTicks
set_option maxRecDepth 20000 in
theorem ggX1_nearestStep_X2_rest : GoodIn wsX1_nearestStep wsX2_rest := goodIn_r _ [17] (by decide +kernel) (by decide +kernel)
set_option maxRecDepth 20000 in
theorem gX1_nearestStep_X2_rest_n60 : GoodIn wsX1_nearestStep (wsX2_rest) := ggX1_nearestStep_X2_rest
set_option maxRecDepth 20000 in
theorem ggX1_nearestStep_X1_delay : GoodIn wsX1_nearestStep wsX1_delay := goodIn_r _ [21, 22, 23, 24, 25, 26, 27, 28, 29, 30, 31, 32] (by decide +kernel) (by decide +kernel)
set_option maxRecDepth 20000 in
theorem gX1_nearestStep_X1_delay : GoodIn wsX1_nearestStep (wsV RX1 85 RX1 yX1_delay wsX1_delay) := goodIn_app (goodIn_of _ (by decide +kernel)) ggX1_nearestStep_X1_delay
set_option maxRecDepth 20000 in
theorem ggX1_forceAt_X1_roundTicks : GoodIn wsX1_forceAt wsX1_roundTicks := goodIn_r _ [6, 7, 1, 28, 29, 30, 31, 32, 33, 34, 35, 36, 37] (by decide +kernel) (by decide +kernel)
set_option maxRecDepth 20000 in
theorem gX1_forceAt_X1_roundTicks : GoodIn wsX1_forceAt (wsV RX1 76 RX1 yX1_roundTicks wsX1_roundTicks) := goodIn_app (goodIn_of _ (by decide +kernel)) ggX1_forceAt_X1_roundTicks
set_option maxRecDepth 20000 in
theorem ggX1_forceAt_X2_quotient : GoodIn wsX1_forceAt wsX2_quotient := goodIn_r _ [10] (by decide +kernel) (by decide +kernel)
set_option maxRecDepth 20000 in
theorem gX1_forceAt_X2_quotient_n92 : GoodIn wsX1_forceAt (wsX2_quotient) := ggX1_forceAt_X2_quotient
set_option maxRecDepth 20000 in
theorem ggX1_forceAt_X2_rest : GoodIn wsX1_forceAt wsX2_rest := goodIn_r _ [12] (by decide +kernel) (by decide +kernel)
set_option maxRecDepth 20000 in
theorem gX1_forceAt_X2_rest_n60 : GoodIn wsX1_forceAt (wsX2_rest) := ggX1_forceAt_X2_rest
set_option maxRecDepth 20000 in
theorem ggX1_forceAt_X1_cell : GoodIn wsX1_forceAt wsX1_cell := goodIn_r _ [16, 17, 18, 9, 19, 28, 29, 30, 31, 32, 33, 34, 35, 36, 37] (by decide +kernel) (by decide +kernel)
set_option maxRecDepth 20000 in
theorem gX1_forceAt_X1_cell : GoodIn wsX1_forceAt (wsV RX1 73 RX1 yX1_cell wsX1_cell) := goodIn_app (goodIn_of _ (by decide +kernel)) ggX1_forceAt_X1_cell
set_option maxRecDepth 20000 in
theorem ggX1_forceAt_X1_delay : GoodIn wsX1_forceAt wsX1_delay := goodIn_r _ [23, 24, 28, 29, 30, 31, 32, 33, 34, 35, 36, 37] (by decide +kernel) (by decide +kernel)
set_option maxRecDepth 20000 in
theorem gX1_forceAt_X1_delay : GoodIn wsX1_forceAt (wsV RX1 85 RX1 yX1_delay wsX1_delay) := goodIn_app (goodIn_of _ (by decide +kernel)) ggX1_forceAt_X1_delay
set_option maxRecDepth 20000 in
theorem ggX1_forceAt_X1_isStroke : GoodIn wsX1_forceAt wsX1_isStroke := goodIn_r _ [27, 8, 9, 10] (by decide +kernel) (by decide +kernel)
set_option maxRecDepth 20000 in
theorem gX1_forceAt_X1_isStroke : GoodIn wsX1_forceAt (va_wsS RX1 95 yX1_isStroke wsX1_isStroke) := goodIn_app (goodIn_of _ (by decide +kernel)) ggX1_forceAt_X1_isStroke
set_option maxRecDepth 20000 in
theorem ggX1_isStroke_X2_quotient : GoodIn wsX1_isStroke wsX2_quotient := goodIn_r _ [3] (by decide +kernel) (by decide +kernel)
set_option maxRecDepth 20000 in
theorem gX1_isStroke_X2_quotient_n92 : GoodIn wsX1_isStroke (wsX2_quotient) := ggX1_isStroke_X2_quotient
set_option maxRecDepth 20000 in
theorem ggX1_roundsOfTurns_X1_cell : GoodIn wsX1_roundsOfTurns wsX1_cell := goodIn_r _ [6, 7, 8, 9, 10, 17, 18, 19, 20, 21, 22, 23, 24, 25, 26] (by decide +kernel) (by decide +kernel)
set_option maxRecDepth 20000 in
theorem gX1_roundsOfTurns_X1_cell : GoodIn wsX1_roundsOfTurns (wsV RX1 73 RX1 yX1_cell wsX1_cell) := goodIn_app (goodIn_of _ (by decide +kernel)) ggX1_roundsOfTurns_X1_cell
set_option maxRecDepth 20000 in
theorem ggX1_roundsOfTurns_X2_leastCommonMultiple : GoodIn wsX1_roundsOfTurns wsX2_leastCommonMultiple := goodIn_r _ [12, 13, 14, 9, 15, 16] (by decide +kernel) (by decide +kernel)
set_option maxRecDepth 20000 in
theorem gX1_roundsOfTurns_X2_leastCommonMultiple_n99 : GoodIn wsX1_roundsOfTurns (wsX2_leastCommonMultiple) := ggX1_roundsOfTurns_X2_leastCommonMultiple
set_option maxRecDepth 20000 in
theorem ggX1_strokesPerRound_X1_cell : GoodIn wsX1_strokesPerRound wsX1_cell := goodIn_r _ [6, 7, 8, 9, 10, 11, 12, 13, 14, 15, 16, 17, 18, 19, 20] (by decide +kernel) (by decide +kernel)
set_option maxRecDepth 20000 in
theorem gX1_strokesPerRound_X1_cell : GoodIn wsX1_strokesPerRound (wsV RX1 73 RX1 yX1_cell wsX1_cell) := goodIn_app (goodIn_of _ (by decide +kernel)) ggX1_strokesPerRound_X1_cell
set_option maxRecDepth 20000 in
theorem ggX1_mixInto_X1_setting : GoodIn wsX1_mixInto wsX1_setting := goodIn_r _ [6, 1, 7, 8, 9, 10, 11, 12, 13, 25, 26, 27, 28, 29, 30, 31, 32, 33, 34] (by decide +kernel) (by decide +kernel)
set_option maxRecDepth 20000 in
theorem gX1_mixInto_X1_setting : GoodIn wsX1_mixInto (wsV RX1 103 RX1 yX1_setting wsX1_setting) := goodIn_app (goodIn_of _ (by decide +kernel)) ggX1_mixInto_X1_setting
set_option maxRecDepth 20000 in
theorem ggX1_mixInto_X2_mix : GoodIn wsX1_mixInto wsX2_mix := goodIn_r _ [16, 17] (by decide +kernel) (by decide +kernel)
set_option maxRecDepth 20000 in
theorem gX1_mixInto_X2_mix_n106 : GoodIn wsX1_mixInto (wsX2_mix) := ggX1_mixInto_X2_mix
set_option maxRecDepth 20000 in
theorem ggX1_mixInto_X1_cell : GoodIn wsX1_mixInto wsX1_cell := goodIn_r _ [21, 22, 23, 15, 24, 25, 26, 27, 28, 29, 30, 31, 32, 33, 34] (by decide +kernel) (by decide +kernel)
set_option maxRecDepth 20000 in
theorem gX1_mixInto_X1_cell : GoodIn wsX1_mixInto (wsV RX1 73 RX1 yX1_cell wsX1_cell) := goodIn_app (goodIn_of _ (by decide +kernel)) ggX1_mixInto_X1_cell
set_option maxRecDepth 20000 in
theorem ggX2_addTrack_X2_isWithin : GoodIn wsX2_addTrack wsX2_isWithin := goodIn_r _ [11] (by decide +kernel) (by decide +kernel)
set_option maxRecDepth 20000 in
theorem gX2_addTrack_X2_isWithin : GoodIn wsX2_addTrack (va_wsS RX2 31 yX2_isWithin wsX2_isWithin) := goodIn_app (goodIn_of _ (by decide +kernel)) ggX2_addTrack_X2_isWithin
set_option maxRecDepth 20000 in
theorem ggX2_addTrack_X2_checkArgument : GoodIn wsX2_addTrack wsX2_checkArgument := goodIn_ca (goodIn_r _ [14, 15, 16] (by decide +kernel) (by decide +kernel)) (goodIn_sub (fun _ h => List.mem_cons_of_mem _ (List.mem_append_right _ h)) (by decide +kernel))
set_option maxRecDepth 20000 in
theorem gX2_addTrack_X2_checkArgument : GoodIn wsX2_addTrack (va_wsS RX2 35 yX2_checkArgument wsX2_checkArgument) := goodIn_app (goodIn_of _ (by decide +kernel)) ggX2_addTrack_X2_checkArgument
set_option maxRecDepth 20000 in
theorem ggX2_addTrack_X1_init : GoodIn wsX2_addTrack wsX1_init := goodIn_r _ [18, 19, 20, 21, 22, 23, 24, 25, 26, 27, 28, 29, 30, 31, 32, 33, 34, 35, 7, 36, 37, 38, 39, 40, 41, 10, 42, 48, 49, 50, 51, 52, 53, 54, 55, 56, 57] (by decide +kernel) (by decide +kernel)
set_option maxRecDepth 20000 in
theorem gX2_addTrack_X1_init_n46 : GoodIn wsX2_addTrack (wsX1_init) := ggX2_addTrack_X1_init
set_option maxRecDepth 20000 in
theorem ggX2_set_X2_trackWithStep : GoodIn wsX2_set wsX2_trackWithStep := goodIn_ca (goodIn_r _ [5, 6, 7, 8, 4, 9, 10, 11, 12, 13, 14, 15, 16, 17, 18, 19, 20, 21, 22, 40, 41, 42, 43, 44, 45, 46, 47, 48, 49, 50, 51, 52, 53, 54] (by decide +kernel) (by decide +kernel)) (goodIn_sub (fun _ h => List.mem_cons_of_mem _ (List.mem_append_left _ (List.mem_append_right _ h))) (by decide +kernel))
set_option maxRecDepth 20000 in
theorem gX2_set_X2_trackWithStep : GoodIn wsX2_set (wsV RX2 49 RX2 yX2_trackWithStep wsX2_trackWithStep) := goodIn_app (goodIn_of _ (by decide +kernel)) ggX2_set_X2_trackWithStep
set_option maxRecDepth 20000 in
theorem ggX2_set_X2_isWithin : GoodIn wsX2_set wsX2_isWithin := goodIn_r _ [19] (by decide +kernel) (by decide +kernel)
set_option maxRecDepth 20000 in
theorem gX2_set_X2_isWithin : GoodIn wsX2_set (va_wsS RX2 31 yX2_isWithin wsX2_isWithin) := goodIn_app (goodIn_of _ (by decide +kernel)) ggX2_set_X2_isWithin
set_option maxRecDepth 20000 in
theorem ggX2_set_X2_checkArgument : GoodIn wsX2_set wsX2_checkArgument := goodIn_ca (goodIn_r _ [25, 26, 27] (by decide +kernel) (by decide +kernel)) (goodIn_sub (fun _ h => List.mem_cons_of_mem _ (List.mem_append_right _ h)) (by decide +kernel))
set_option maxRecDepth 20000 in
theorem gX2_set_X2_checkArgument : GoodIn wsX2_set (va_wsS RX2 35 yX2_checkArgument wsX2_checkArgument) := goodIn_app (goodIn_of _ (by decide +kernel)) ggX2_set_X2_checkArgument
set_option maxRecDepth 20000 in
theorem ggX2_set_X1_cell : GoodIn wsX2_set wsX1_cell := goodIn_r _ [31, 32, 33, 4, 34, 40, 41, 42, 43, 44, 45, 46, 47, 48, 49] (by decide +kernel) (by decide +kernel)
set_option maxRecDepth 20000 in
theorem gX2_set_X1_cell_n53 : GoodIn wsX2_set (wsX1_cell) := ggX2_set_X1_cell
set_option maxRecDepth 20000 in
theorem ggX2_set_X1_putCell : GoodIn wsX2_set wsX1_putCell := goodIn_r _ [37, 32, 38, 4, 39, 40, 41, 42, 43, 44, 45, 46, 47, 48, 49] (by decide +kernel) (by decide +kernel)
set_option maxRecDepth 20000 in
theorem gX2_set_X1_putCell_n57 : GoodIn wsX2_set (wsX1_putCell) := ggX2_set_X1_putCell
set_option maxRecDepth 20000 in
theorem ggX2_setTurn_X2_trackWithStep : GoodIn wsX2_setTurn wsX2_trackWithStep := goodIn_ca (goodIn_r _ [5, 6, 7, 8, 4, 9, 10, 11, 12, 13, 14, 15, 16, 17, 18, 19, 20, 21, 22, 40, 41, 42, 43, 44, 45, 46, 47, 48, 49, 50, 51, 52, 53, 54] (by decide +kernel) (by decide +kernel)) (goodIn_sub (fun _ h => List.mem_cons_of_mem _ (List.mem_append_left _ (List.mem_append_right _ h))) (by decide +kernel))
set_option maxRecDepth 20000 in
theorem gX2_setTurn_X2_trackWithStep : GoodIn wsX2_setTurn (wsV RX2 49 RX2 yX2_trackWithStep wsX2_trackWithStep) := goodIn_app (goodIn_of _ (by decide +kernel)) ggX2_setTurn_X2_trackWithStep
set_option maxRecDepth 20000 in
theorem ggX2_setTurn_X2_isWithin : GoodIn wsX2_setTurn wsX2_isWithin := goodIn_r _ [19] (by decide +kernel) (by decide +kernel)
set_option maxRecDepth 20000 in
theorem gX2_setTurn_X2_isWithin : GoodIn wsX2_setTurn (va_wsS RX2 31 yX2_isWithin wsX2_isWithin) := goodIn_app (goodIn_of _ (by decide +kernel)) ggX2_setTurn_X2_isWithin
set_option maxRecDepth 20000 in
theorem ggX2_setTurn_X2_checkArgument : GoodIn wsX2_setTurn wsX2_checkArgument := goodIn_ca (goodIn_r _ [25, 26, 27] (by decide +kernel) (by decide +kernel)) (goodIn_sub (fun _ h => List.mem_cons_of_mem _ (List.mem_append_right _ h)) (by decide +kernel))
set_option maxRecDepth 20000 in
theorem gX2_setTurn_X2_checkArgument : GoodIn wsX2_setTurn (va_wsS RX2 35 yX2_checkArgument wsX2_checkArgument) := goodIn_app (goodIn_of _ (by decide +kernel)) ggX2_setTurn_X2_checkArgument
set_option maxRecDepth 20000 in
theorem ggX2_setTurn_X1_cell : GoodIn wsX2_setTurn wsX1_cell := goodIn_r _ [31, 32, 33, 4, 34, 40, 41, 42, 43, 44, 45, 46, 47, 48, 49] (by decide +kernel) (by decide +kernel)
set_option maxRecDepth 20000 in
theorem gX2_setTurn_X1_cell_n53 : GoodIn wsX2_setTurn (wsX1_cell) := ggX2_setTurn_X1_cell
set_option maxRecDepth 20000 in
theorem ggX2_setTurn_X1_putCell : GoodIn wsX2_setTurn wsX1_putCell := goodIn_r _ [37, 32, 38, 4, 39, 40, 41, 42, 43, 44, 45, 46, 47, 48, 49] (by decide +kernel) (by decide +kernel)
set_option maxRecDepth 20000 in
theorem gX2_setTurn_X1_putCell_n57 : GoodIn wsX2_setTurn (wsX1_putCell) := ggX2_setTurn_X1_putCell
set_option maxRecDepth 20000 in
theorem ggX2_step_X2_trackWithStep : GoodIn wsX2_step wsX2_trackWithStep := goodIn_ca (goodIn_r _ [5, 6, 7, 8, 4, 9, 10, 11, 12, 13, 14, 15, 16, 17, 18, 19, 20, 21, 22, 34, 35, 36, 37, 38, 39, 40, 41, 42, 43, 44, 45, 46, 47, 48] (by decide +kernel) (by decide +kernel)) (goodIn_sub (fun _ h => List.mem_cons_of_mem _ (List.mem_append_right _ h)) (by decide +kernel))
set_option maxRecDepth 20000 in
theorem gX2_step_X2_trackWithStep : GoodIn wsX2_step (wsV RX2 49 RX2 yX2_trackWithStep wsX2_trackWithStep) := goodIn_app (goodIn_of _ (by decide +kernel)) ggX2_step_X2_trackWithStep
set_option maxRecDepth 20000 in
theorem ggX2_step_X2_isWithin : GoodIn wsX2_step wsX2_isWithin := goodIn_r _ [19] (by decide +kernel) (by decide +kernel)
set_option maxRecDepth 20000 in
theorem gX2_step_X2_isWithin : GoodIn wsX2_step (va_wsS RX2 31 yX2_isWithin wsX2_isWithin) := goodIn_app (goodIn_of _ (by decide +kernel)) ggX2_step_X2_isWithin
set_option maxRecDepth 20000 in
theorem ggX2_step_X2_checkIndex : GoodIn wsX2_step wsX2_checkIndex := goodIn_ca (goodIn_r _ [22, 10, 11] (by decide +kernel) (by decide +kernel)) (goodIn_sub (fun _ h => List.mem_cons_of_mem _ (List.mem_append_right _ h)) (by decide +kernel))
set_option maxRecDepth 20000 in
theorem gX2_step_X2_checkIndex : GoodIn wsX2_step (va_wsS RX2 61 yX2_checkIndex wsX2_checkIndex) := goodIn_app (goodIn_of _ (by decide +kernel)) ggX2_step_X2_checkIndex
set_option maxRecDepth 20000 in
theorem ggX2_step_X1_delay : GoodIn wsX2_step wsX1_delay := goodIn_r _ [26, 27, 34, 35, 36, 37, 38, 39, 40, 41, 42, 43] (by decide +kernel) (by decide +kernel)
set_option maxRecDepth 20000 in
theorem gX2_step_X1_delay_n64 : GoodIn wsX2_step (wsX1_delay) := ggX2_step_X1_delay
set_option maxRecDepth 20000 in
theorem ggX2_step_X1_cell : GoodIn wsX2_step wsX1_cell := goodIn_r _ [30, 31, 32, 4, 33, 34, 35, 36, 37, 38, 39, 40, 41, 42, 43] (by decide +kernel) (by decide +kernel)
set_option maxRecDepth 20000 in
theorem gX2_step_X1_cell_n53 : GoodIn wsX2_step (wsX1_cell) := ggX2_step_X1_cell
set_option maxRecDepth 20000 in
theorem ggX2_track_X2_existingTrack : GoodIn wsX2_track wsX2_existingTrack := goodIn_ca (goodIn_r _ [5, 6, 7, 8, 9, 10, 4, 11, 12, 31, 32, 33, 34, 35] (by decide +kernel) (by decide +kernel)) (goodIn_sub (fun _ h => List.mem_cons_of_mem _ (List.mem_append_right _ h)) (by decide +kernel))
set_option maxRecDepth 20000 in
theorem gX2_track_X2_existingTrack : GoodIn wsX2_track (wsV RX2 68 RX2 yX2_existingTrack wsX2_existingTrack) := goodIn_app (goodIn_of _ (by decide +kernel)) ggX2_track_X2_existingTrack
set_option maxRecDepth 20000 in
theorem ggX2_track_X2_isWithin : GoodIn wsX2_track wsX2_isWithin := goodIn_r _ [15] (by decide +kernel) (by decide +kernel)
set_option maxRecDepth 20000 in
theorem gX2_track_X2_isWithin : GoodIn wsX2_track (va_wsS RX2 31 yX2_isWithin wsX2_isWithin) := goodIn_app (goodIn_of _ (by decide +kernel)) ggX2_track_X2_isWithin
set_option maxRecDepth 20000 in
theorem ggX2_track_X2_checkIndex : GoodIn wsX2_track wsX2_checkIndex := goodIn_ca (goodIn_r _ [18, 6, 7] (by decide +kernel) (by decide +kernel)) (goodIn_sub (fun _ h => List.mem_cons_of_mem _ (List.mem_append_right _ h)) (by decide +kernel))
set_option maxRecDepth 20000 in
theorem gX2_track_X2_checkIndex : GoodIn wsX2_track (va_wsS RX2 61 yX2_checkIndex wsX2_checkIndex) := goodIn_app (goodIn_of _ (by decide +kernel)) ggX2_track_X2_checkIndex
set_option maxRecDepth 20000 in
theorem ggX2_track_X1_setting : GoodIn wsX2_track wsX1_setting := goodIn_r _ [22, 23, 24, 25, 26, 27, 28, 29, 30, 36, 37, 38, 39, 40, 41, 42, 43, 44, 45] (by decide +kernel) (by decide +kernel)
set_option maxRecDepth 20000 in
theorem gX2_track_X1_setting_n72 : GoodIn wsX2_track (wsX1_setting) := ggX2_track_X1_setting
set_option maxRecDepth 20000 in
theorem ggX2_tune_X2_existingTrack : GoodIn wsX2_tune wsX2_existingTrack := goodIn_ca (goodIn_r _ [5, 6, 7, 8, 9, 10, 4, 11, 12, 31, 32, 33, 34, 35] (by decide +kernel) (by decide +kernel)) (goodIn_sub (fun _ h => List.mem_cons_of_mem _ (List.mem_append_left _ (List.mem_append_right _ h))) (by decide +kernel))
set_option maxRecDepth 20000 in
theorem gX2_tune_X2_existingTrack : GoodIn wsX2_tune (wsV RX2 68 RX2 yX2_existingTrack wsX2_existingTrack) := goodIn_app (goodIn_of _ (by decide +kernel)) ggX2_tune_X2_existingTrack
set_option maxRecDepth 20000 in
theorem ggX2_tune_X2_isWithin : GoodIn wsX2_tune wsX2_isWithin := goodIn_r _ [15] (by decide +kernel) (by decide +kernel)
set_option maxRecDepth 20000 in
theorem gX2_tune_X2_isWithin : GoodIn wsX2_tune (va_wsS RX2 31 yX2_isWithin wsX2_isWithin) := goodIn_app (goodIn_of _ (by decide +kernel)) ggX2_tune_X2_isWithin
set_option maxRecDepth 20000 in
theorem ggX2_tune_X2_checkArgument : GoodIn wsX2_tune wsX2_checkArgument := goodIn_ca (goodIn_r _ [18, 19, 20] (by decide +kernel) (by decide +kernel)) (goodIn_sub (fun _ h => List.mem_cons_of_mem _ (List.mem_append_right _ h)) (by decide +kernel))
set_option maxRecDepth 20000 in
theorem gX2_tune_X2_checkArgument : GoodIn wsX2_tune (va_wsS RX2 35 yX2_checkArgument wsX2_checkArgument) := goodIn_app (goodIn_of _ (by decide +kernel)) ggX2_tune_X2_checkArgument
set_option maxRecDepth 20000 in
theorem ggX2_turn_X2_existingTrack : GoodIn wsX2_turn wsX2_existingTrack := goodIn_ca (goodIn_r _ [5, 6, 7, 8, 9, 10, 4, 11, 12, 34, 35, 36, 37, 38] (by decide +kernel) (by decide +kernel)) (goodIn_sub (fun _ h => List.mem_cons_of_mem _ (List.mem_append_right _ h)) (by decide +kernel))
set_option maxRecDepth 20000 in
theorem gX2_turn_X2_existingTrack : GoodIn wsX2_turn (wsV RX2 68 RX2 yX2_existingTrack wsX2_existingTrack) := goodIn_app (goodIn_of _ (by decide +kernel)) ggX2_turn_X2_existingTrack
set_option maxRecDepth 20000 in
theorem ggX2_turn_X2_isWithin : GoodIn wsX2_turn wsX2_isWithin := goodIn_r _ [15] (by decide +kernel) (by decide +kernel)
set_option maxRecDepth 20000 in
theorem gX2_turn_X2_isWithin : GoodIn wsX2_turn (va_wsS RX2 31 yX2_isWithin wsX2_isWithin) := goodIn_app (goodIn_of _ (by decide +kernel)) ggX2_turn_X2_isWithin
set_option maxRecDepth 20000 in
theorem ggX2_turn_X2_checkIndex : GoodIn wsX2_turn wsX2_checkIndex := goodIn_ca (goodIn_r _ [18, 6, 7] (by decide +kernel) (by decide +kernel)) (goodIn_sub (fun _ h => List.mem_cons_of_mem _ (List.mem_append_right _ h)) (by decide +kernel))
set_option maxRecDepth 20000 in
theorem gX2_turn_X2_checkIndex : GoodIn wsX2_turn (va_wsS RX2 61 yX2_checkIndex wsX2_checkIndex) := goodIn_app (goodIn_of _ (by decide +kernel)) ggX2_turn_X2_checkIndex
set_option maxRecDepth 20000 in
theorem ggX2_turn_X1_setting : GoodIn wsX2_turn wsX1_setting := goodIn_r _ [22, 23, 24, 25, 26, 27, 28, 29, 30, 39, 40, 41, 42, 43, 44, 45, 46, 47, 48] (by decide +kernel) (by decide +kernel)
set_option maxRecDepth 20000 in
theorem gX2_turn_X1_setting_n72 : GoodIn wsX2_turn (wsX1_setting) := ggX2_turn_X1_setting
set_option maxRecDepth 20000 in
theorem ggX2_turn_X1_switchTo : GoodIn wsX2_turn wsX1_switchTo := goodIn_r _ [33, 28, 29, 30, 39, 40, 41, 42, 43, 44, 45, 46, 47, 48] (by decide +kernel) (by decide +kernel)
set_option maxRecDepth 20000 in
theorem gX2_turn_X1_switchTo_n87 : GoodIn wsX2_turn (wsX1_switchTo) := ggX2_turn_X1_switchTo
set_option maxRecDepth 20000 in
theorem ggX2_spread_X2_existingTrack : GoodIn wsX2_spread wsX2_existingTrack := goodIn_ca (goodIn_r _ [5, 6, 7, 8, 9, 10, 4, 11, 12, 49, 50, 51, 52, 53] (by decide +kernel) (by decide +kernel)) (goodIn_sub (fun _ h => List.mem_cons_of_mem _ (List.mem_append_left _ (List.mem_append_right _ h))) (by decide +kernel))
set_option maxRecDepth 20000 in
theorem gX2_spread_X2_existingTrack : GoodIn wsX2_spread (wsV RX2 68 RX2 yX2_existingTrack wsX2_existingTrack) := goodIn_app (goodIn_of _ (by decide +kernel)) ggX2_spread_X2_existingTrack
set_option maxRecDepth 20000 in
theorem ggX2_spread_X2_isWithin : GoodIn wsX2_spread wsX2_isWithin := goodIn_r _ [15] (by decide +kernel) (by decide +kernel)
set_option maxRecDepth 20000 in
theorem gX2_spread_X2_isWithin : GoodIn wsX2_spread (va_wsS RX2 31 yX2_isWithin wsX2_isWithin) := goodIn_app (goodIn_of _ (by decide +kernel)) ggX2_spread_X2_isWithin
set_option maxRecDepth 20000 in
theorem ggX2_spread_X2_checkArgument : GoodIn wsX2_spread wsX2_checkArgument := goodIn_ca (goodIn_r _ [18, 19, 20] (by decide +kernel) (by decide +kernel)) (goodIn_sub (fun _ h => List.mem_cons_of_mem _ (List.mem_append_right _ h)) (by decide +kernel))
set_option maxRecDepth 20000 in
theorem gX2_spread_X2_checkArgument : GoodIn wsX2_spread (va_wsS RX2 35 yX2_checkArgument wsX2_checkArgument) := goodIn_app (goodIn_of _ (by decide +kernel)) ggX2_spread_X2_checkArgument
set_option maxRecDepth 20000 in
theorem ggX2_spread_X1_spreadHits : GoodIn wsX2_spread wsX1_spreadHits := goodIn_r _ [24, 25, 26, 4, 27, 28, 29, 30, 22, 31, 32, 33, 34, 35, 36, 37, 38, 39, 40, 41, 42, 43, 44, 45, 46, 47, 48] (by decide +kernel) (by decide +kernel)
set_option maxRecDepth 20000 in
theorem gX2_spread_X1_spreadHits_n94 : GoodIn wsX2_spread (wsX1_spreadHits) := ggX2_spread_X1_spreadHits
set_option maxRecDepth 20000 in
theorem ggX2_rotate_X2_existingTrack : GoodIn wsX2_rotate wsX2_existingTrack := goodIn_ca (goodIn_r _ [5, 6, 7, 8, 9, 10, 4, 11, 12, 53, 54, 55, 56, 57] (by decide +kernel) (by decide +kernel)) (goodIn_sub (fun _ h => List.mem_cons_of_mem _ (List.mem_append_left _ (List.mem_append_right _ h))) (by decide +kernel))
set_option maxRecDepth 20000 in
theorem gX2_rotate_X2_existingTrack : GoodIn wsX2_rotate (wsV RX2 68 RX2 yX2_existingTrack wsX2_existingTrack) := goodIn_app (goodIn_of _ (by decide +kernel)) ggX2_rotate_X2_existingTrack
set_option maxRecDepth 20000 in
theorem ggX2_rotate_X2_isWithin : GoodIn wsX2_rotate wsX2_isWithin := goodIn_r _ [15] (by decide +kernel) (by decide +kernel)
set_option maxRecDepth 20000 in
theorem gX2_rotate_X2_isWithin : GoodIn wsX2_rotate (va_wsS RX2 31 yX2_isWithin wsX2_isWithin) := goodIn_app (goodIn_of _ (by decide +kernel)) ggX2_rotate_X2_isWithin
set_option maxRecDepth 20000 in
theorem ggX2_rotate_X2_checkArgument : GoodIn wsX2_rotate wsX2_checkArgument := goodIn_ca (goodIn_r _ [18, 19, 20] (by decide +kernel) (by decide +kernel)) (goodIn_sub (fun _ h => List.mem_cons_of_mem _ (List.mem_append_right _ h)) (by decide +kernel))
set_option maxRecDepth 20000 in
theorem gX2_rotate_X2_checkArgument : GoodIn wsX2_rotate (va_wsS RX2 35 yX2_checkArgument wsX2_checkArgument) := goodIn_app (goodIn_of _ (by decide +kernel)) ggX2_rotate_X2_checkArgument
set_option maxRecDepth 20000 in
theorem ggX2_rotate_X1_moveSteps : GoodIn wsX2_rotate wsX1_moveSteps := goodIn_r _ [24, 25, 26, 27, 28, 29, 30, 31, 32, 4, 33, 34, 35, 36, 22, 37, 38, 39, 40, 41, 42, 43, 44, 45, 58, 59, 60, 61, 62, 63, 64, 65, 66, 67] (by decide +kernel) (by decide +kernel)
set_option maxRecDepth 20000 in
theorem gX2_rotate_X1_moveSteps_n97 : GoodIn wsX2_rotate (wsX1_moveSteps) := ggX2_rotate_X1_moveSteps
set_option maxRecDepth 20000 in
theorem ggX2_rotate_X1_stepsWithForce : GoodIn wsX2_rotate wsX1_stepsWithForce := goodIn_r _ [48, 31, 49, 50, 51, 22, 52, 25, 38, 4, 39, 58, 59, 60, 61, 62, 63, 64, 65, 66, 67] (by decide +kernel) (by decide +kernel)
set_option maxRecDepth 20000 in
theorem gX2_rotate_X1_stepsWithForce_n101 : GoodIn wsX2_rotate (wsX1_stepsWithForce) := ggX2_rotate_X1_stepsWithForce
set_option maxRecDepth 20000 in
theorem ggX2_stretch_X2_existingTrack : GoodIn wsX2_stretch wsX2_existingTrack := goodIn_ca (goodIn_r _ [5, 6, 7, 8, 9, 10, 4, 11, 12, 49, 50, 51, 52, 53] (by decide +kernel) (by decide +kernel)) (goodIn_sub (fun _ h => List.mem_cons_of_mem _ (List.mem_append_left _ (List.mem_append_right _ h))) (by decide +kernel))
set_option maxRecDepth 20000 in
theorem gX2_stretch_X2_existingTrack : GoodIn wsX2_stretch (wsV RX2 68 RX2 yX2_existingTrack wsX2_existingTrack) := goodIn_app (goodIn_of _ (by decide +kernel)) ggX2_stretch_X2_existingTrack
set_option maxRecDepth 20000 in
theorem ggX2_stretch_X2_isWithin : GoodIn wsX2_stretch wsX2_isWithin := goodIn_r _ [15] (by decide +kernel) (by decide +kernel)
set_option maxRecDepth 20000 in
theorem gX2_stretch_X2_isWithin : GoodIn wsX2_stretch (va_wsS RX2 31 yX2_isWithin wsX2_isWithin) := goodIn_app (goodIn_of _ (by decide +kernel)) ggX2_stretch_X2_isWithin
set_option maxRecDepth 20000 in
theorem ggX2_stretch_X2_checkArgument : GoodIn wsX2_stretch wsX2_checkArgument := goodIn_ca (goodIn_r _ [18, 19, 20] (by decide +kernel) (by decide +kernel)) (goodIn_sub (fun _ h => List.mem_cons_of_mem _ (List.mem_append_right _ h)) (by decide +kernel))
set_option maxRecDepth 20000 in
theorem gX2_stretch_X2_checkArgument : GoodIn wsX2_stretch (va_wsS RX2 35 yX2_checkArgument wsX2_checkArgument) := goodIn_app (goodIn_of _ (by decide +kernel)) ggX2_stretch_X2_checkArgument
set_option maxRecDepth 20000 in
theorem ggX2_stretch_X1_resize : GoodIn wsX2_stretch wsX1_resize := goodIn_r _ [24, 25, 26, 27, 28, 29, 22, 30, 31, 4, 32, 33, 34, 35, 36, 37, 38, 39, 40, 41, 42, 43, 44, 45, 46, 47, 48] (by decide +kernel) (by decide +kernel)
set_option maxRecDepth 20000 in
theorem gX2_stretch_X1_resize_n105 : GoodIn wsX2_stretch (wsX1_resize) := ggX2_stretch_X1_resize
set_option maxRecDepth 20000 in
theorem ggX2_tap_X2_existingTrack : GoodIn wsX2_tap wsX2_existingTrack := goodIn_ca (goodIn_r _ [5, 6, 7, 8, 9, 10, 4, 11, 12, 55, 56, 57, 58, 59] (by decide +kernel) (by decide +kernel)) (goodIn_sub (fun _ h => List.mem_cons_of_mem _ (List.mem_append_left _ (List.mem_append_right _ h))) (by decide +kernel))
set_option maxRecDepth 20000 in
theorem gX2_tap_X2_existingTrack : GoodIn wsX2_tap (wsV RX2 68 RX2 yX2_existingTrack wsX2_existingTrack) := goodIn_app (goodIn_of _ (by decide +kernel)) ggX2_tap_X2_existingTrack
set_option maxRecDepth 20000 in
theorem ggX2_tap_X2_isTick : GoodIn wsX2_tap wsX2_isTick := goodIn_r _ [15, 16, 17, 18, 4, 19] (by decide +kernel) (by decide +kernel)
set_option maxRecDepth 20000 in
theorem gX2_tap_X2_isTick : GoodIn wsX2_tap (va_wsS RX2 108 yX2_isTick wsX2_isTick) := goodIn_app (goodIn_of _ (by decide +kernel)) ggX2_tap_X2_isTick
set_option maxRecDepth 20000 in
theorem ggX2_tap_X2_isWithin : GoodIn wsX2_tap wsX2_isWithin := goodIn_r _ [19] (by decide +kernel) (by decide +kernel)
set_option maxRecDepth 20000 in
theorem gX2_tap_X2_isWithin : GoodIn wsX2_tap (va_wsS RX2 31 yX2_isWithin wsX2_isWithin) := goodIn_app (goodIn_of _ (by decide +kernel)) ggX2_tap_X2_isWithin
set_option maxRecDepth 20000 in
theorem ggX2_tap_X2_checkArgument : GoodIn wsX2_tap wsX2_checkArgument := goodIn_ca (goodIn_r _ [22, 23, 24] (by decide +kernel) (by decide +kernel)) (goodIn_sub (fun _ h => List.mem_cons_of_mem _ (List.mem_append_right _ h)) (by decide +kernel))
set_option maxRecDepth 20000 in
theorem gX2_tap_X2_checkArgument : GoodIn wsX2_tap (va_wsS RX2 35 yX2_checkArgument wsX2_checkArgument) := goodIn_app (goodIn_of _ (by decide +kernel)) ggX2_tap_X2_checkArgument
set_option maxRecDepth 20000 in
theorem ggX2_tap_X1_nearestStep : GoodIn wsX2_tap wsX1_nearestStep := goodIn_r _ [28, 29, 30, 31, 32, 33, 34, 35, 36, 37, 38, 39, 40, 26, 41, 42, 4, 43, 44, 45, 46, 47, 48, 60, 61, 62, 63, 64, 65, 66, 67, 68, 69] (by decide +kernel) (by decide +kernel)
set_option maxRecDepth 20000 in
theorem gX2_tap_X1_nearestStep_n112 : GoodIn wsX2_tap (wsX1_nearestStep) := ggX2_tap_X1_nearestStep
set_option maxRecDepth 20000 in
theorem ggX2_tap_X1_putCell : GoodIn wsX2_tap wsX1_putCell := goodIn_r _ [51, 52, 53, 4, 54, 60, 61, 62, 63, 64, 65, 66, 67, 68, 69] (by decide +kernel) (by decide +kernel)
set_option maxRecDepth 20000 in
theorem gX2_tap_X1_putCell_n57 : GoodIn wsX2_tap (wsX1_putCell) := ggX2_tap_X1_putCell
set_option maxRecDepth 20000 in
theorem ggX2_addSection_X2_isWithin : GoodIn wsX2_addSection wsX2_isWithin := goodIn_r _ [11] (by decide +kernel) (by decide +kernel)
set_option maxRecDepth 20000 in
theorem gX2_addSection_X2_isWithin : GoodIn wsX2_addSection (va_wsS RX2 31 yX2_isWithin wsX2_isWithin) := goodIn_app (goodIn_of _ (by decide +kernel)) ggX2_addSection_X2_isWithin
set_option maxRecDepth 20000 in
theorem ggX2_addSection_X2_checkArgument : GoodIn wsX2_addSection wsX2_checkArgument := goodIn_ca (goodIn_r _ [14, 15, 16] (by decide +kernel) (by decide +kernel)) (goodIn_sub (fun _ h => List.mem_cons_of_mem _ (List.mem_append_right _ h)) (by decide +kernel))
set_option maxRecDepth 20000 in
theorem gX2_addSection_X2_checkArgument : GoodIn wsX2_addSection (va_wsS RX2 35 yX2_checkArgument wsX2_checkArgument) := goodIn_app (goodIn_of _ (by decide +kernel)) ggX2_addSection_X2_checkArgument
set_option maxRecDepth 20000 in
theorem ggX2_addSection_X2_songTicks : GoodIn wsX2_addSection wsX2_songTicks := goodIn_r _ [20, 3, 21, 22, 23, 10, 24, 4, 34, 35, 36, 37, 38, 39, 40, 41, 42] (by decide +kernel) (by decide +kernel)
set_option maxRecDepth 20000 in
theorem gX2_addSection_X2_songTicks : GoodIn wsX2_addSection (wsV RX2 117 RX2 yX2_songTicks wsX2_songTicks) := goodIn_app (goodIn_of _ (by decide +kernel)) ggX2_addSection_X2_songTicks
set_option maxRecDepth 20000 in
theorem ggX2_addSection_X0_init : GoodIn wsX2_addSection wsX0_init := goodIn_r _ [26, 27, 28, 29, 30, 31, 32, 33, 39, 40, 41, 42] (by decide +kernel) (by decide +kernel)
set_option maxRecDepth 20000 in
theorem gX2_addSection_X0_init_n120 : GoodIn wsX2_addSection (wsX0_init) := ggX2_addSection_X0_init
set_option maxRecDepth 20000 in
theorem ggX2_sectionAt_X2_isTick : GoodIn wsX2_sectionAt wsX2_isTick := goodIn_r _ [4, 5, 6, 7, 3, 8] (by decide +kernel) (by decide +kernel)
set_option maxRecDepth 20000 in
theorem gX2_sectionAt_X2_isTick : GoodIn wsX2_sectionAt (va_wsS RX2 108 yX2_isTick wsX2_isTick) := goodIn_app (goodIn_of _ (by decide +kernel)) ggX2_sectionAt_X2_isTick
set_option maxRecDepth 20000 in
theorem ggX2_sectionAt_X2_checkArgument : GoodIn wsX2_sectionAt wsX2_checkArgument := goodIn_ca (goodIn_r _ [11, 12, 13] (by decide +kernel) (by decide +kernel)) (goodIn_sub (fun _ h => List.mem_cons_of_mem _ (List.mem_append_right _ h)) (by decide +kernel))
set_option maxRecDepth 20000 in
theorem gX2_sectionAt_X2_checkArgument : GoodIn wsX2_sectionAt (va_wsS RX2 35 yX2_checkArgument wsX2_checkArgument) := goodIn_app (goodIn_of _ (by decide +kernel)) ggX2_sectionAt_X2_checkArgument
set_option maxRecDepth 20000 in
theorem ggX2_sectionAt_X2_sectionNumber : GoodIn wsX2_sectionAt wsX2_sectionNumber := goodIn_r _ [17, 18, 19, 20, 21, 3, 22, 23, 24, 25, 26, 27, 28, 29, 30, 31, 32] (by decide +kernel) (by decide +kernel)
set_option maxRecDepth 20000 in
theorem gX2_sectionAt_X2_sectionNumber : GoodIn wsX2_sectionAt (wsV RX2 125 RX2 yX2_sectionNumber wsX2_sectionNumber) := goodIn_app (goodIn_of _ (by decide +kernel)) ggX2_sectionAt_X2_sectionNumber
set_option maxRecDepth 20000 in
theorem ggX2_length_X2_songTicks : GoodIn wsX2_length wsX2_songTicks := goodIn_r _ [5, 6, 7, 8, 9, 4, 10, 11, 12, 13, 14, 15, 16, 17, 18, 19, 20] (by decide +kernel) (by decide +kernel)
set_option maxRecDepth 20000 in
theorem gX2_length_X2_songTicks : GoodIn wsX2_length (wsV RX2 117 RX2 yX2_songTicks wsX2_songTicks) := goodIn_app (goodIn_of _ (by decide +kernel)) ggX2_length_X2_songTicks
set_option maxRecDepth 20000 in
theorem ggX2_loudness_X2_existingTrack : GoodIn wsX2_loudness wsX2_existingTrack := goodIn_ca (goodIn_r _ [9, 10, 11, 12, 13, 14, 8, 15, 16, 96, 97, 98, 99, 100] (by decide +kernel) (by decide +kernel)) (goodIn_sub (fun _ h => List.mem_cons_of_mem _ (List.mem_append_left _ (List.mem_append_right _ h))) (by decide +kernel))
set_option maxRecDepth 20000 in
theorem gX2_loudness_X2_existingTrack : GoodIn wsX2_loudness (wsV RX2 68 RX2 yX2_existingTrack wsX2_existingTrack) := goodIn_app (goodIn_of _ (by decide +kernel)) ggX2_loudness_X2_existingTrack
set_option maxRecDepth 20000 in
theorem ggX2_loudness_X2_isTick : GoodIn wsX2_loudness wsX2_isTick := goodIn_r _ [19, 20, 21, 22, 8, 23] (by decide +kernel) (by decide +kernel)
set_option maxRecDepth 20000 in
theorem gX2_loudness_X2_isTick : GoodIn wsX2_loudness (va_wsS RX2 108 yX2_isTick wsX2_isTick) := goodIn_app (goodIn_of _ (by decide +kernel)) ggX2_loudness_X2_isTick
set_option maxRecDepth 20000 in
theorem ggX2_loudness_X2_checkArgument : GoodIn wsX2_loudness wsX2_checkArgument := goodIn_ca (goodIn_r _ [26, 27, 28] (by decide +kernel) (by decide +kernel)) (goodIn_sub (fun _ h => List.mem_cons_of_mem _ (List.mem_append_right _ h)) (by decide +kernel))
set_option maxRecDepth 20000 in
theorem gX2_loudness_X2_checkArgument : GoodIn wsX2_loudness (va_wsS RX2 35 yX2_checkArgument wsX2_checkArgument) := goodIn_app (goodIn_of _ (by decide +kernel)) ggX2_loudness_X2_checkArgument
set_option maxRecDepth 20000 in
theorem ggX2_loudness_X2_makesHit : GoodIn wsX2_loudness wsX2_makesHit := goodIn_r _ [32, 12, 13, 14, 8, 15, 16, 33, 34, 35, 36, 37, 38, 39, 40, 41, 42, 43, 44, 45, 46, 47, 48, 49, 50, 51, 52, 53, 54, 55, 56, 57, 58, 59, 60, 61, 62, 63, 64, 65, 66, 67, 68, 69, 70, 71, 72, 73, 74, 75, 76, 77, 78, 79, 80, 81, 82, 83, 84, 85, 86, 87, 88, 89, 90, 91, 101, 102, 103, 104, 105, 106, 107, 108, 109, 110, 96, 97, 98, 99, 100, 111, 112, 113, 114] (by decide +kernel) (by decide +kernel)
set_option maxRecDepth 20000 in
theorem gX2_loudness_X2_makesHit : GoodIn wsX2_loudness (wsV RX2 128 RX2 yX2_makesHit wsX2_makesHit) := goodIn_app (goodIn_of _ (by decide +kernel)) ggX2_loudness_X2_makesHit
set_option maxRecDepth 20000 in
theorem ggX2_loudness_X2_struckForce : GoodIn wsX2_loudness wsX2_struckForce := goodIn_r _ [36, 12, 13, 14, 8, 15, 16, 37, 38, 39, 40, 41, 42, 43, 44, 45, 46, 47, 48, 49, 50, 51, 52, 53, 54, 55, 56, 57, 58, 59, 60, 61, 62, 63, 64, 65, 66, 67, 68, 69, 70, 71, 72, 73, 74, 75, 76, 77, 78, 79, 80, 81, 82, 83, 84, 85, 86, 87, 88, 89, 90, 91, 96, 97, 98, 99, 100, 101, 102, 103, 104, 105, 106, 107, 108, 109, 110, 111, 112, 113, 114] (by decide +kernel) (by decide +kernel)
set_option maxRecDepth 20000 in
theorem gX2_loudness_X2_struckForce : GoodIn wsX2_loudness (wsV RX2 132 RX2 yX2_struckForce wsX2_struckForce) := goodIn_app (goodIn_of _ (by decide +kernel)) ggX2_loudness_X2_struckForce
set_option maxRecDepth 20000 in
theorem ggX2_loudness_X2_accentForce : GoodIn wsX2_loudness wsX2_accentForce := goodIn_r _ [95, 45, 12, 13, 14, 8, 15, 16, 33, 34, 35, 36, 37, 38, 39, 40, 41, 42, 43, 44, 46, 47, 48, 49, 50, 51, 52, 53, 54, 55, 56, 57, 58, 59, 60, 61, 62, 63, 64, 65, 66, 67, 68, 69, 70, 71, 72, 73, 74, 75, 76, 77, 78, 79, 80, 81, 82, 83, 84, 85, 86, 87, 88, 89, 90, 91, 96, 97, 98, 99, 100, 101, 102, 103, 104, 105, 106, 107, 108, 109, 110, 111, 112, 113, 114] (by decide +kernel) (by decide +kernel)
set_option maxRecDepth 20000 in
theorem gX2_loudness_X2_accentForce : GoodIn wsX2_loudness (wsV RX2 135 RX2 yX2_accentForce wsX2_accentForce) := goodIn_app (goodIn_of _ (by decide +kernel)) ggX2_loudness_X2_accentForce
set_option maxRecDepth 20000 in
theorem ggX2_hits_X2_isTick : GoodIn wsX2_hits wsX2_isTick := goodIn_r _ [4, 5, 6, 7, 3, 8] (by decide +kernel) (by decide +kernel)
set_option maxRecDepth 20000 in
theorem gX2_hits_X2_isTick : GoodIn wsX2_hits (va_wsS RX2 108 yX2_isTick wsX2_isTick) := goodIn_app (goodIn_of _ (by decide +kernel)) ggX2_hits_X2_isTick
set_option maxRecDepth 20000 in
theorem ggX2_hits_X2_checkArgument : GoodIn wsX2_hits wsX2_checkArgument := goodIn_ca (goodIn_r _ [11, 12, 13] (by decide +kernel) (by decide +kernel)) (goodIn_sub (fun _ h => List.mem_cons_of_mem _ (List.mem_append_right _ h)) (by decide +kernel))
set_option maxRecDepth 20000 in
theorem gX2_hits_X2_checkArgument : GoodIn wsX2_hits (va_wsS RX2 35 yX2_checkArgument wsX2_checkArgument) := goodIn_app (goodIn_of _ (by decide +kernel)) ggX2_hits_X2_checkArgument
set_option maxRecDepth 20000 in
theorem ggX2_hits_X2_hitSet : GoodIn wsX2_hits wsX2_hitSet := goodIn_r _ [17, 18, 19, 20, 21, 3, 22, 23, 24, 25, 26, 27, 28, 29, 30, 31, 32, 33, 34, 35, 36, 37, 38, 39, 40, 41, 42, 43, 44, 45, 46, 47, 48, 49, 50, 51, 52, 53, 54, 55, 56, 57, 58, 59, 60, 61, 62, 63, 64, 65, 66, 67, 68, 69, 70, 71, 72, 73, 74, 75, 76, 77, 78, 79, 80, 81, 82, 83, 84, 85, 86, 87, 88, 89, 90, 91, 92, 93, 94, 95, 96, 97, 98, 99, 100, 101, 102, 103, 104] (by decide +kernel) (by decide +kernel)
set_option maxRecDepth 20000 in
theorem gX2_hits_X2_hitSet : GoodIn wsX2_hits (wsV RX2 143 RX2 yX2_hitSet wsX2_hitSet) := goodIn_app (goodIn_of _ (by decide +kernel)) ggX2_hits_X2_hitSet
set_option maxRecDepth 20000 in
theorem ggX2_sounding_X2_isTick : GoodIn wsX2_sounding wsX2_isTick := goodIn_r _ [5, 6, 7, 8, 4, 9] (by decide +kernel) (by decide +kernel)
set_option maxRecDepth 20000 in
theorem gX2_sounding_X2_isTick : GoodIn wsX2_sounding (va_wsS RX2 108 yX2_isTick wsX2_isTick) := goodIn_app (goodIn_of _ (by decide +kernel)) ggX2_sounding_X2_isTick
set_option maxRecDepth 20000 in
theorem ggX2_sounding_X2_checkArgument : GoodIn wsX2_sounding wsX2_checkArgument := goodIn_ca (goodIn_r _ [12, 13, 14] (by decide +kernel) (by decide +kernel)) (goodIn_sub (fun _ h => List.mem_cons_of_mem _ (List.mem_append_right _ h)) (by decide +kernel))
set_option maxRecDepth 20000 in
theorem gX2_sounding_X2_checkArgument : GoodIn wsX2_sounding (va_wsS RX2 35 yX2_checkArgument wsX2_checkArgument) := goodIn_app (goodIn_of _ (by decide +kernel)) ggX2_sounding_X2_checkArgument
set_option maxRecDepth 20000 in
theorem ggX2_sounding_X2_hitSet : GoodIn wsX2_sounding wsX2_hitSet := goodIn_r _ [18, 1, 19, 20, 21, 4, 22, 23, 24, 25, 26, 27, 28, 29, 30, 31, 32, 33, 34, 35, 36, 37, 38, 39, 40, 41, 42, 43, 44, 45, 46, 47, 48, 49, 50, 51, 52, 53, 54, 55, 56, 57, 58, 59, 60, 61, 62, 63, 64, 65, 66, 67, 68, 69, 70, 71, 72, 73, 74, 75, 76, 77, 78, 79, 80, 81, 82, 83, 84, 85, 90, 91, 92, 93, 94, 95, 96, 97, 98, 99, 100, 101, 102, 103, 104, 105, 106, 107, 108] (by decide +kernel) (by decide +kernel)
set_option maxRecDepth 20000 in
theorem gX2_sounding_X2_hitSet : GoodIn wsX2_sounding (wsV RX2 143 RX2 yX2_hitSet wsX2_hitSet) := goodIn_app (goodIn_of _ (by decide +kernel)) ggX2_sounding_X2_hitSet
set_option maxRecDepth 20000 in
theorem ggX2_sounding_X2_trackOrNull : GoodIn wsX2_sounding wsX2_trackOrNull := goodIn_r _ [26, 27, 90, 91, 92, 93, 94] (by decide +kernel) (by decide +kernel)
set_option maxRecDepth 20000 in
theorem gX2_sounding_X2_trackOrNull : GoodIn wsX2_sounding (wsV RX2 146 RX2 yX2_trackOrNull wsX2_trackOrNull) := goodIn_app (goodIn_of _ (by decide +kernel)) ggX2_sounding_X2_trackOrNull
set_option maxRecDepth 20000 in
theorem ggX2_sounding_X2_isInSet : GoodIn wsX2_sounding wsX2_isInSet := goodIn_r _ [56] (by decide +kernel) (by decide +kernel)
set_option maxRecDepth 20000 in
theorem gX2_sounding_X2_isInSet : GoodIn wsX2_sounding (va_wsS RX2 149 yX2_isInSet wsX2_isInSet) := goodIn_app (goodIn_of _ (by decide +kernel)) ggX2_sounding_X2_isInSet
set_option maxRecDepth 20000 in
theorem ggX2_sounding_X2_groupSet : GoodIn wsX2_sounding wsX2_groupSet := goodIn_r _ [89, 1, 23, 24, 25, 4, 26, 27, 90, 91, 92, 93, 94, 95, 96, 97, 98, 99, 100, 101, 102, 103, 104] (by decide +kernel) (by decide +kernel)
set_option maxRecDepth 20000 in
theorem gX2_sounding_X2_groupSet : GoodIn wsX2_sounding (wsV RX2 152 RX2 yX2_groupSet wsX2_groupSet) := goodIn_app (goodIn_of _ (by decide +kernel)) ggX2_sounding_X2_groupSet
set_option maxRecDepth 20000 in
theorem ggX2_next_X2_existingTrack : GoodIn wsX2_next wsX2_existingTrack := goodIn_ca (goodIn_r _ [10, 11, 12, 13, 14, 15, 9, 16, 17, 92, 93, 94, 95, 96] (by decide +kernel) (by decide +kernel)) (goodIn_sub (fun _ h => List.mem_cons_of_mem _ (List.mem_append_left _ (List.mem_append_right _ h))) (by decide +kernel))
set_option maxRecDepth 20000 in
theorem gX2_next_X2_existingTrack : GoodIn wsX2_next (wsV RX2 68 RX2 yX2_existingTrack wsX2_existingTrack) := goodIn_app (goodIn_of _ (by decide +kernel)) ggX2_next_X2_existingTrack
set_option maxRecDepth 20000 in
theorem ggX2_next_X2_isTick : GoodIn wsX2_next wsX2_isTick := goodIn_r _ [20, 1, 21, 22, 9, 23] (by decide +kernel) (by decide +kernel)
set_option maxRecDepth 20000 in
theorem gX2_next_X2_isTick : GoodIn wsX2_next (va_wsS RX2 108 yX2_isTick wsX2_isTick) := goodIn_app (goodIn_of _ (by decide +kernel)) ggX2_next_X2_isTick
set_option maxRecDepth 20000 in
theorem ggX2_next_X2_checkArgument : GoodIn wsX2_next wsX2_checkArgument := goodIn_ca (goodIn_r _ [26, 27, 28] (by decide +kernel) (by decide +kernel)) (goodIn_sub (fun _ h => List.mem_cons_of_mem _ (List.mem_append_right _ h)) (by decide +kernel))
set_option maxRecDepth 20000 in
theorem gX2_next_X2_checkArgument : GoodIn wsX2_next (va_wsS RX2 35 yX2_checkArgument wsX2_checkArgument) := goodIn_app (goodIn_of _ (by decide +kernel)) ggX2_next_X2_checkArgument
set_option maxRecDepth 20000 in
theorem ggX2_next_X2_makesHit : GoodIn wsX2_next wsX2_makesHit := goodIn_r _ [32, 13, 14, 15, 9, 16, 17, 33, 34, 35, 36, 37, 38, 39, 40, 41, 42, 43, 44, 45, 46, 47, 48, 49, 50, 51, 52, 53, 54, 55, 56, 57, 58, 59, 60, 61, 62, 63, 64, 65, 66, 67, 68, 69, 70, 71, 72, 73, 74, 75, 76, 77, 78, 79, 80, 81, 82, 83, 84, 85, 86, 87, 88, 89, 90, 91, 97, 98, 99, 100, 101, 102, 103, 104, 105, 106, 92, 93, 94, 95, 96, 107, 108, 109, 110] (by decide +kernel) (by decide +kernel)
set_option maxRecDepth 20000 in
theorem gX2_next_X2_makesHit : GoodIn wsX2_next (wsV RX2 128 RX2 yX2_makesHit wsX2_makesHit) := goodIn_app (goodIn_of _ (by decide +kernel)) ggX2_next_X2_makesHit
set_option maxRecDepth 20000 in
theorem ggX2_count_X2_existingTrack : GoodIn wsX2_count wsX2_existingTrack := goodIn_ca (goodIn_r _ [5, 6, 7, 8, 9, 10, 4, 11, 12, 95, 96, 97, 98, 99] (by decide +kernel) (by decide +kernel)) (goodIn_sub (fun _ h => List.mem_cons_of_mem _ (List.mem_append_left _ (List.mem_append_right _ h))) (by decide +kernel))
set_option maxRecDepth 20000 in
theorem gX2_count_X2_existingTrack : GoodIn wsX2_count (wsV RX2 68 RX2 yX2_existingTrack wsX2_existingTrack) := goodIn_app (goodIn_of _ (by decide +kernel)) ggX2_count_X2_existingTrack
set_option maxRecDepth 20000 in
theorem ggX2_count_X2_isSpan : GoodIn wsX2_count wsX2_isSpan := goodIn_r _ [15, 16, 17, 4, 18, 19, 20, 21, 22] (by decide +kernel) (by decide +kernel)
set_option maxRecDepth 20000 in
theorem gX2_count_X2_isSpan : GoodIn wsX2_count (va_wsS RX2 156 yX2_isSpan wsX2_isSpan) := goodIn_app (goodIn_of _ (by decide +kernel)) ggX2_count_X2_isSpan
set_option maxRecDepth 20000 in
theorem ggX2_count_X2_checkArgument : GoodIn wsX2_count wsX2_checkArgument := goodIn_ca (goodIn_r _ [25, 26, 27] (by decide +kernel) (by decide +kernel)) (goodIn_sub (fun _ h => List.mem_cons_of_mem _ (List.mem_append_right _ h)) (by decide +kernel))
set_option maxRecDepth 20000 in
theorem gX2_count_X2_checkArgument : GoodIn wsX2_count (va_wsS RX2 35 yX2_checkArgument wsX2_checkArgument) := goodIn_app (goodIn_of _ (by decide +kernel)) ggX2_count_X2_checkArgument
set_option maxRecDepth 20000 in
theorem ggX2_count_X2_commonHits : GoodIn wsX2_count wsX2_commonHits := goodIn_r _ [31, 32, 33, 34, 4, 35, 8, 9, 10, 11, 12, 36, 37, 38, 39, 40, 41, 42, 43, 44, 45, 46, 47, 48, 49, 50, 51, 52, 53, 54, 55, 56, 57, 58, 59, 60, 61, 62, 63, 64, 65, 66, 67, 68, 69, 70, 71, 72, 73, 74, 75, 76, 77, 78, 79, 80, 81, 82, 83, 84, 85, 86, 87, 88, 89, 90, 91, 92, 93, 94, 100, 101, 102, 103, 104, 105, 106, 107, 108, 109, 95, 96, 97, 98, 99, 110, 111, 112, 113] (by decide +kernel) (by decide +kernel)
set_option maxRecDepth 20000 in
theorem gX2_count_X2_commonHits : GoodIn wsX2_count (wsV RX2 159 RX2 yX2_commonHits wsX2_commonHits) := goodIn_app (goodIn_of _ (by decide +kernel)) ggX2_count_X2_commonHits
set_option maxRecDepth 20000 in
theorem ggX2_together_X2_existingTrack : GoodIn wsX2_together wsX2_existingTrack := goodIn_ca (goodIn_r _ [5, 6, 7, 8, 9, 10, 4, 11, 12, 95, 96, 97, 98, 99] (by decide +kernel) (by decide +kernel)) (goodIn_sub (fun _ h => List.mem_cons_of_mem _ (List.mem_append_left _ (List.mem_append_right _ h))) (by decide +kernel))
set_option maxRecDepth 20000 in
theorem gX2_together_X2_existingTrack : GoodIn wsX2_together (wsV RX2 68 RX2 yX2_existingTrack wsX2_existingTrack) := goodIn_app (goodIn_of _ (by decide +kernel)) ggX2_together_X2_existingTrack
set_option maxRecDepth 20000 in
theorem ggX2_together_X2_isSpan : GoodIn wsX2_together wsX2_isSpan := goodIn_r _ [15, 16, 17, 4, 18, 19, 20, 21, 22] (by decide +kernel) (by decide +kernel)
set_option maxRecDepth 20000 in
theorem gX2_together_X2_isSpan : GoodIn wsX2_together (va_wsS RX2 156 yX2_isSpan wsX2_isSpan) := goodIn_app (goodIn_of _ (by decide +kernel)) ggX2_together_X2_isSpan
set_option maxRecDepth 20000 in
theorem ggX2_together_X2_checkArgument : GoodIn wsX2_together wsX2_checkArgument := goodIn_ca (goodIn_r _ [25, 26, 27] (by decide +kernel) (by decide +kernel)) (goodIn_sub (fun _ h => List.mem_cons_of_mem _ (List.mem_append_right _ h)) (by decide +kernel))
set_option maxRecDepth 20000 in
theorem gX2_together_X2_checkArgument : GoodIn wsX2_together (va_wsS RX2 35 yX2_checkArgument wsX2_checkArgument) := goodIn_app (goodIn_of _ (by decide +kernel)) ggX2_together_X2_checkArgument
set_option maxRecDepth 20000 in
theorem ggX2_together_X2_commonHits : GoodIn wsX2_together wsX2_commonHits := goodIn_r _ [31, 32, 33, 34, 4, 35, 8, 9, 10, 11, 12, 36, 37, 38, 39, 40, 41, 42, 43, 44, 45, 46, 47, 48, 49, 50, 51, 52, 53, 54, 55, 56, 57, 58, 59, 60, 61, 62, 63, 64, 65, 66, 67, 68, 69, 70, 71, 72, 73, 74, 75, 76, 77, 78, 79, 80, 81, 82, 83, 84, 85, 86, 87, 88, 89, 90, 91, 92, 93, 94, 100, 101, 102, 103, 104, 105, 106, 107, 108, 109, 95, 96, 97, 98, 99, 110, 111, 112, 113] (by decide +kernel) (by decide +kernel)
set_option maxRecDepth 20000 in
theorem gX2_together_X2_commonHits : GoodIn wsX2_together (wsV RX2 159 RX2 yX2_commonHits wsX2_commonHits) := goodIn_app (goodIn_of _ (by decide +kernel)) ggX2_together_X2_commonHits
set_option maxRecDepth 20000 in
theorem ggX2_rounds_X2_existingTrack : GoodIn wsX2_rounds wsX2_existingTrack := goodIn_ca (goodIn_r _ [5, 6, 7, 8, 9, 10, 4, 11, 12, 31, 32, 33, 34, 35] (by decide +kernel) (by decide +kernel)) (goodIn_sub (fun _ h => List.mem_cons_of_mem _ (List.mem_append_right _ h)) (by decide +kernel))
set_option maxRecDepth 20000 in
theorem gX2_rounds_X2_existingTrack : GoodIn wsX2_rounds (wsV RX2 68 RX2 yX2_existingTrack wsX2_existingTrack) := goodIn_app (goodIn_of _ (by decide +kernel)) ggX2_rounds_X2_existingTrack
set_option maxRecDepth 20000 in
theorem ggX2_rounds_X1_roundsOfTurns : GoodIn wsX2_rounds wsX1_roundsOfTurns := goodIn_r _ [16, 17, 18, 19, 20, 14, 21, 22, 23, 4, 24, 25, 26, 27, 28, 29, 30, 36, 37, 38, 39, 40, 41, 42, 43, 44, 45] (by decide +kernel) (by decide +kernel)
set_option maxRecDepth 20000 in
theorem gX2_rounds_X1_roundsOfTurns_n163 : GoodIn wsX2_rounds (wsX1_roundsOfTurns) := ggX2_rounds_X1_roundsOfTurns
set_option maxRecDepth 20000 in
theorem ggX2_period_X2_trackOrNull : GoodIn wsX2_period wsX2_trackOrNull := goodIn_r _ [8, 9, 33, 34, 35, 36, 37] (by decide +kernel) (by decide +kernel)
set_option maxRecDepth 20000 in
theorem gX2_period_X2_trackOrNull : GoodIn wsX2_period (wsV RX2 146 RX2 yX2_trackOrNull wsX2_trackOrNull) := goodIn_app (goodIn_of _ (by decide +kernel)) ggX2_period_X2_trackOrNull
set_option maxRecDepth 20000 in
theorem ggX2_period_X1_roundTicks : GoodIn wsX2_period wsX1_roundTicks := goodIn_r _ [13, 14, 15, 38, 39, 40, 41, 42, 43, 44, 45, 46, 47] (by decide +kernel) (by decide +kernel)
set_option maxRecDepth 20000 in
theorem gX2_period_X1_roundTicks_n166 : GoodIn wsX2_period (wsX1_roundTicks) := ggX2_period_X1_roundTicks
set_option maxRecDepth 20000 in
theorem ggX2_period_X1_roundsOfTurns : GoodIn wsX2_period wsX1_roundsOfTurns := goodIn_r _ [18, 14, 19, 20, 21, 11, 22, 23, 24, 7, 25, 26, 27, 28, 29, 30, 31, 38, 39, 40, 41, 42, 43, 44, 45, 46, 47] (by decide +kernel) (by decide +kernel)
set_option maxRecDepth 20000 in
theorem gX2_period_X1_roundsOfTurns_n163 : GoodIn wsX2_period (wsX1_roundsOfTurns) := ggX2_period_X1_roundsOfTurns
set_option maxRecDepth 20000 in
theorem ggX2_period_X2_leastCommonMultiple : GoodIn wsX2_period wsX2_leastCommonMultiple := goodIn_r _ [27, 28, 29, 7, 30, 31] (by decide +kernel) (by decide +kernel)
set_option maxRecDepth 20000 in
theorem gX2_period_X2_leastCommonMultiple : GoodIn wsX2_period (va_wsS RX2 169 yX2_leastCommonMultiple wsX2_leastCommonMultiple) := goodIn_app (goodIn_of _ (by decide +kernel)) ggX2_period_X2_leastCommonMultiple
set_option maxRecDepth 20000 in
theorem ggX2_density_X2_existingTrack : GoodIn wsX2_density wsX2_existingTrack := goodIn_ca (goodIn_r _ [5, 6, 7, 8, 9, 10, 4, 11, 12, 25, 26, 27, 28, 29] (by decide +kernel) (by decide +kernel)) (goodIn_sub (fun _ h => List.mem_cons_of_mem _ (List.mem_append_right _ h)) (by decide +kernel))
set_option maxRecDepth 20000 in
theorem gX2_density_X2_existingTrack : GoodIn wsX2_density (wsV RX2 68 RX2 yX2_existingTrack wsX2_existingTrack) := goodIn_app (goodIn_of _ (by decide +kernel)) ggX2_density_X2_existingTrack
set_option maxRecDepth 20000 in
theorem ggX2_density_X1_strokesPerRound : GoodIn wsX2_density wsX1_strokesPerRound := goodIn_r _ [16, 17, 18, 19, 20, 14, 21, 22, 23, 4, 24, 30, 31, 32, 33, 34, 35, 36, 37, 38, 39] (by decide +kernel) (by decide +kernel)
set_option maxRecDepth 20000 in
theorem gX2_density_X1_strokesPerRound_n177 : GoodIn wsX2_density (wsX1_strokesPerRound) := ggX2_density_X1_strokesPerRound
set_option maxRecDepth 20000 in
theorem ggX2_setSpeed_X2_isWithin : GoodIn wsX2_setSpeed wsX2_isWithin := goodIn_r _ [5] (by decide +kernel) (by decide +kernel)
set_option maxRecDepth 20000 in
theorem gX2_setSpeed_X2_isWithin : GoodIn wsX2_setSpeed (va_wsS RX2 31 yX2_isWithin wsX2_isWithin) := goodIn_app (goodIn_of _ (by decide +kernel)) ggX2_setSpeed_X2_isWithin
set_option maxRecDepth 20000 in
theorem ggX2_setSpeed_X2_checkArgument : GoodIn wsX2_setSpeed wsX2_checkArgument := goodIn_ca (goodIn_r _ [8, 9, 10] (by decide +kernel) (by decide +kernel)) (goodIn_sub (fun _ h => List.mem_cons_of_mem _ (List.mem_append_right _ h)) (by decide +kernel))
set_option maxRecDepth 20000 in
theorem gX2_setSpeed_X2_checkArgument : GoodIn wsX2_setSpeed (va_wsS RX2 35 yX2_checkArgument wsX2_checkArgument) := goodIn_app (goodIn_of _ (by decide +kernel)) ggX2_setSpeed_X2_checkArgument
set_option maxRecDepth 20000 in
theorem ggX2_seconds_X2_isTick : GoodIn wsX2_seconds wsX2_isTick := goodIn_r _ [7, 8, 9, 10, 6, 11] (by decide +kernel) (by decide +kernel)
set_option maxRecDepth 20000 in
theorem gX2_seconds_X2_isTick : GoodIn wsX2_seconds (va_wsS RX2 108 yX2_isTick wsX2_isTick) := goodIn_app (goodIn_of _ (by decide +kernel)) ggX2_seconds_X2_isTick
set_option maxRecDepth 20000 in
theorem ggX2_seconds_X2_checkArgument : GoodIn wsX2_seconds wsX2_checkArgument := goodIn_ca (goodIn_r _ [14, 15, 16] (by decide +kernel) (by decide +kernel)) (goodIn_sub (fun _ h => List.mem_cons_of_mem _ (List.mem_append_right _ h)) (by decide +kernel))
set_option maxRecDepth 20000 in
theorem gX2_seconds_X2_checkArgument : GoodIn wsX2_seconds (va_wsS RX2 35 yX2_checkArgument wsX2_checkArgument) := goodIn_app (goodIn_of _ (by decide +kernel)) ggX2_seconds_X2_checkArgument
set_option maxRecDepth 20000 in
theorem ggX2_digest_X2_mix : GoodIn wsX2_digest wsX2_mix := goodIn_r _ [8, 9] (by decide +kernel) (by decide +kernel)
set_option maxRecDepth 20000 in
theorem gX2_digest_X2_mix : GoodIn wsX2_digest (va_wsS RX2 187 yX2_mix wsX2_mix) := goodIn_app (goodIn_of _ (by decide +kernel)) ggX2_digest_X2_mix
set_option maxRecDepth 20000 in
theorem ggX2_digest_X2_trackOrNull : GoodIn wsX2_digest wsX2_trackOrNull := goodIn_r _ [13, 14, 43, 44, 45, 46, 47] (by decide +kernel) (by decide +kernel)
set_option maxRecDepth 20000 in
theorem gX2_digest_X2_trackOrNull : GoodIn wsX2_digest (wsV RX2 146 RX2 yX2_trackOrNull wsX2_trackOrNull) := goodIn_app (goodIn_of _ (by decide +kernel)) ggX2_digest_X2_trackOrNull
set_option maxRecDepth 20000 in
theorem ggX2_digest_X1_mixInto : GoodIn wsX2_digest wsX1_mixInto := goodIn_r _ [18, 19, 20, 21, 22, 16, 23, 24, 25, 26, 27, 28, 29, 30, 6, 7, 8, 9, 31, 32, 33, 34, 35, 36, 37, 52, 53, 54, 55, 56, 57, 58, 59, 60, 61] (by decide +kernel) (by decide +kernel)
set_option maxRecDepth 20000 in
theorem gX2_digest_X1_mixInto_n190 : GoodIn wsX2_digest (wsX1_mixInto) := ggX2_digest_X1_mixInto
set_option maxRecDepth 20000 in
theorem ggX2_digest_X2_sectionOrNull : GoodIn wsX2_digest wsX2_sectionOrNull := goodIn_r _ [41, 42, 43, 44, 45, 46, 47] (by decide +kernel) (by decide +kernel)
set_option maxRecDepth 20000 in
theorem gX2_digest_X2_sectionOrNull : GoodIn wsX2_digest (wsV RX2 194 RX2 yX2_sectionOrNull wsX2_sectionOrNull) := goodIn_app (goodIn_of _ (by decide +kernel)) ggX2_digest_X2_sectionOrNull
set_option maxRecDepth 20000 in
theorem ggX2_isTick_X2_isWithin : GoodIn wsX2_isTick wsX2_isWithin := goodIn_r _ [5] (by decide +kernel) (by decide +kernel)
set_option maxRecDepth 20000 in
theorem gX2_isTick_X2_isWithin : GoodIn wsX2_isTick (va_wsS RX2 31 yX2_isWithin wsX2_isWithin) := goodIn_app (goodIn_of _ (by decide +kernel)) ggX2_isTick_X2_isWithin
set_option maxRecDepth 20000 in
theorem ggX2_isSpan_X2_isTick : GoodIn wsX2_isSpan wsX2_isTick := goodIn_r _ [4, 5, 6, 7, 3, 8] (by decide +kernel) (by decide +kernel)
set_option maxRecDepth 20000 in
theorem gX2_isSpan_X2_isTick : GoodIn wsX2_isSpan (va_wsS RX2 108 yX2_isTick wsX2_isTick) := goodIn_app (goodIn_of _ (by decide +kernel)) ggX2_isSpan_X2_isTick
set_option maxRecDepth 20000 in
theorem ggX2_existingTrack_X2_trackOrNull : GoodIn wsX2_existingTrack wsX2_trackOrNull := goodIn_r _ [7, 8, 9, 10, 11, 12, 13] (by decide +kernel) (by decide +kernel)
set_option maxRecDepth 20000 in
theorem gX2_existingTrack_X2_trackOrNull : GoodIn wsX2_existingTrack (wsV RX2 146 RX2 yX2_trackOrNull wsX2_trackOrNull) := goodIn_app (goodIn_of _ (by decide +kernel)) ggX2_existingTrack_X2_trackOrNull
set_option maxRecDepth 20000 in
theorem ggX2_trackWithStep_X2_existingTrack : GoodIn wsX2_trackWithStep wsX2_existingTrack := goodIn_ca (goodIn_r _ [5, 6, 7, 8, 9, 10, 4, 11, 12, 29, 30, 31, 32, 33] (by decide +kernel) (by decide +kernel)) (goodIn_sub (fun _ h => List.mem_cons_of_mem _ (List.mem_append_right _ h)) (by decide +kernel))
set_option maxRecDepth 20000 in
theorem gX2_trackWithStep_X2_existingTrack : GoodIn wsX2_trackWithStep (wsV RX2 68 RX2 yX2_existingTrack wsX2_existingTrack) := goodIn_app (goodIn_of _ (by decide +kernel)) ggX2_trackWithStep_X2_existingTrack
set_option maxRecDepth 20000 in
theorem ggX2_trackWithStep_X2_isWithin : GoodIn wsX2_trackWithStep wsX2_isWithin := goodIn_r _ [15] (by decide +kernel) (by decide +kernel)
set_option maxRecDepth 20000 in
theorem gX2_trackWithStep_X2_isWithin : GoodIn wsX2_trackWithStep (va_wsS RX2 31 yX2_isWithin wsX2_isWithin) := goodIn_app (goodIn_of _ (by decide +kernel)) ggX2_trackWithStep_X2_isWithin
set_option maxRecDepth 20000 in
theorem ggX2_trackWithStep_X2_checkIndex : GoodIn wsX2_trackWithStep wsX2_checkIndex := goodIn_ca (goodIn_r _ [18, 6, 7] (by decide +kernel) (by decide +kernel)) (goodIn_sub (fun _ h => List.mem_cons_of_mem _ (List.mem_append_right _ h)) (by decide +kernel))
set_option maxRecDepth 20000 in
theorem gX2_trackWithStep_X2_checkIndex : GoodIn wsX2_trackWithStep (va_wsS RX2 61 yX2_checkIndex wsX2_checkIndex) := goodIn_app (goodIn_of _ (by decide +kernel)) ggX2_trackWithStep_X2_checkIndex
set_option maxRecDepth 20000 in
theorem ggX2_songTicks_X2_sectionOrNull : GoodIn wsX2_songTicks wsX2_sectionOrNull := goodIn_r _ [6, 7, 8, 9, 10, 11, 12] (by decide +kernel) (by decide +kernel)
set_option maxRecDepth 20000 in
theorem gX2_songTicks_X2_sectionOrNull : GoodIn wsX2_songTicks (wsV RX2 194 RX2 yX2_sectionOrNull wsX2_sectionOrNull) := goodIn_app (goodIn_of _ (by decide +kernel)) ggX2_songTicks_X2_sectionOrNull
set_option maxRecDepth 20000 in
theorem ggX2_sectionNumber_X2_sectionOrNull : GoodIn wsX2_sectionNumber wsX2_sectionOrNull := goodIn_r _ [6, 7, 8, 9, 10, 11, 12] (by decide +kernel) (by decide +kernel)
set_option maxRecDepth 20000 in
theorem gX2_sectionNumber_X2_sectionOrNull : GoodIn wsX2_sectionNumber (wsV RX2 194 RX2 yX2_sectionOrNull wsX2_sectionOrNull) := goodIn_app (goodIn_of _ (by decide +kernel)) ggX2_sectionNumber_X2_sectionOrNull
set_option maxRecDepth 20000 in
theorem ggX2_localTime_X2_sectionNumber : GoodIn wsX2_localTime wsX2_sectionNumber := goodIn_r _ [6, 1, 7, 8, 9, 5, 10, 11, 15, 16, 17, 18, 19, 20, 21, 22, 23] (by decide +kernel) (by decide +kernel)
set_option maxRecDepth 20000 in
theorem gX2_localTime_X2_sectionNumber : GoodIn wsX2_localTime (wsV RX2 125 RX2 yX2_sectionNumber wsX2_sectionNumber) := goodIn_app (goodIn_of _ (by decide +kernel)) ggX2_localTime_X2_sectionNumber
set_option maxRecDepth 20000 in
theorem ggX2_localTime_X2_sectionOrNull : GoodIn wsX2_localTime wsX2_sectionOrNull := goodIn_r _ [10, 11, 15, 16, 17, 18, 19] (by decide +kernel) (by decide +kernel)
set_option maxRecDepth 20000 in
theorem gX2_localTime_X2_sectionOrNull : GoodIn wsX2_localTime (wsV RX2 194 RX2 yX2_sectionOrNull wsX2_sectionOrNull) := goodIn_app (goodIn_of _ (by decide +kernel)) ggX2_localTime_X2_sectionOrNull
set_option maxRecDepth 20000 in
theorem ggX2_localTime_X2_isInSet : GoodIn wsX2_localTime wsX2_isInSet := goodIn_r _ [14] (by decide +kernel) (by decide +kernel)
set_option maxRecDepth 20000 in
theorem gX2_localTime_X2_isInSet : GoodIn wsX2_localTime (va_wsS RX2 149 yX2_isInSet wsX2_isInSet) := goodIn_app (goodIn_of _ (by decide +kernel)) ggX2_localTime_X2_isInSet
set_option maxRecDepth 20000 in
theorem ggX2_isAnySolo_X2_trackOrNull : GoodIn wsX2_isAnySolo wsX2_trackOrNull := goodIn_r _ [6, 7, 8, 9, 10, 11, 12] (by decide +kernel) (by decide +kernel)
set_option maxRecDepth 20000 in
theorem gX2_isAnySolo_X2_trackOrNull : GoodIn wsX2_isAnySolo (wsV RX2 146 RX2 yX2_trackOrNull wsX2_trackOrNull) := goodIn_app (goodIn_of _ (by decide +kernel)) ggX2_isAnySolo_X2_trackOrNull
set_option maxRecDepth 20000 in
theorem ggX2_isSilenced_X2_isAnySolo : GoodIn wsX2_isSilenced wsX2_isAnySolo := goodIn_r _ [5, 6, 7, 8, 9, 4, 10, 11, 22, 23, 24, 25, 26, 12, 13, 14, 15, 16, 17, 18, 19, 20, 21] (by decide +kernel) (by decide +kernel)
set_option maxRecDepth 20000 in
theorem gX2_isSilenced_X2_isAnySolo : GoodIn wsX2_isSilenced (wsV RX2 229 RX2 yX2_isAnySolo wsX2_isAnySolo) := goodIn_app (goodIn_of _ (by decide +kernel)) ggX2_isSilenced_X2_isAnySolo
set_option maxRecDepth 20000 in
theorem ggX2_struckForce_X2_trackOrNull : GoodIn wsX2_struckForce wsX2_trackOrNull := goodIn_r _ [5, 6, 62, 63, 64, 65, 66] (by decide +kernel) (by decide +kernel)
set_option maxRecDepth 20000 in
theorem gX2_struckForce_X2_trackOrNull : GoodIn wsX2_struckForce (wsV RX2 146 RX2 yX2_trackOrNull wsX2_trackOrNull) := goodIn_app (goodIn_of _ (by decide +kernel)) ggX2_struckForce_X2_trackOrNull
set_option maxRecDepth 20000 in
theorem ggX2_struckForce_X2_isSilenced : GoodIn wsX2_struckForce wsX2_isSilenced := goodIn_r _ [10, 11, 12, 13, 4, 14, 15, 1, 2, 3, 5, 6, 67, 68, 69, 70, 71, 72, 73, 74, 75, 76, 62, 63, 64, 65, 66] (by decide +kernel) (by decide +kernel)
set_option maxRecDepth 20000 in
theorem gX2_struckForce_X2_isSilenced : GoodIn wsX2_struckForce (wsV RX2 233 RX2 yX2_isSilenced wsX2_isSilenced) := goodIn_app (goodIn_of _ (by decide +kernel)) ggX2_struckForce_X2_isSilenced
set_option maxRecDepth 20000 in
theorem ggX2_struckForce_X2_localTime : GoodIn wsX2_struckForce wsX2_localTime := goodIn_r _ [19, 20, 21, 22, 23, 4, 24, 25, 26, 27, 28, 29, 30, 31, 32, 62, 63, 64, 65, 66, 77, 78, 79, 80] (by decide +kernel) (by decide +kernel)
set_option maxRecDepth 20000 in
theorem gX2_struckForce_X2_localTime : GoodIn wsX2_struckForce (wsV RX2 237 RX2 yX2_localTime wsX2_localTime) := goodIn_app (goodIn_of _ (by decide +kernel)) ggX2_struckForce_X2_localTime
set_option maxRecDepth 20000 in
theorem ggX2_struckForce_X1_forceAt : GoodIn wsX2_struckForce wsX1_forceAt := goodIn_r _ [36, 37, 38, 39, 40, 34, 41, 42, 43, 4, 44, 45, 46, 47, 48, 49, 50, 51, 52, 53, 54, 55, 56, 57, 58, 59, 60, 61, 67, 68, 69, 70, 71, 72, 73, 74, 75, 76] (by decide +kernel) (by decide +kernel)
set_option maxRecDepth 20000 in
theorem gX2_struckForce_X1_forceAt_n240 : GoodIn wsX2_struckForce (wsX1_forceAt) := ggX2_struckForce_X1_forceAt
set_option maxRecDepth 20000 in
theorem ggX2_makesHit_X2_trackOrNull : GoodIn wsX2_makesHit wsX2_trackOrNull := goodIn_r _ [5, 6, 76, 77, 78, 79, 80] (by decide +kernel) (by decide +kernel)
set_option maxRecDepth 20000 in
theorem gX2_makesHit_X2_trackOrNull : GoodIn wsX2_makesHit (wsV RX2 146 RX2 yX2_trackOrNull wsX2_trackOrNull) := goodIn_app (goodIn_of _ (by decide +kernel)) ggX2_makesHit_X2_trackOrNull
set_option maxRecDepth 20000 in
theorem ggX2_makesHit_X2_struckForce : GoodIn wsX2_makesHit wsX2_struckForce := goodIn_r _ [10, 1, 2, 3, 4, 5, 6, 11, 12, 13, 14, 15, 16, 17, 18, 19, 20, 21, 22, 23, 24, 25, 26, 27, 28, 29, 30, 31, 32, 33, 34, 35, 36, 37, 38, 39, 40, 41, 42, 43, 44, 45, 46, 47, 48, 49, 50, 51, 52, 53, 54, 55, 56, 57, 58, 59, 60, 61, 62, 63, 64, 65, 76, 77, 78, 79, 80, 66, 67, 68, 69, 70, 71, 72, 73, 74, 75, 81, 82, 83, 84] (by decide +kernel) (by decide +kernel)
set_option maxRecDepth 20000 in
theorem gX2_makesHit_X2_struckForce : GoodIn wsX2_makesHit (wsV RX2 132 RX2 yX2_struckForce wsX2_struckForce) := goodIn_app (goodIn_of _ (by decide +kernel)) ggX2_makesHit_X2_struckForce
set_option maxRecDepth 20000 in
theorem ggX2_accentForce_X2_trackOrNull : GoodIn wsX2_accentForce wsX2_trackOrNull := goodIn_r _ [6, 7, 66, 67, 68, 69, 70] (by decide +kernel) (by decide +kernel)
set_option maxRecDepth 20000 in
theorem gX2_accentForce_X2_trackOrNull : GoodIn wsX2_accentForce (wsV RX2 146 RX2 yX2_trackOrNull wsX2_trackOrNull) := goodIn_app (goodIn_of _ (by decide +kernel)) ggX2_accentForce_X2_trackOrNull
set_option maxRecDepth 20000 in
theorem ggX2_accentForce_X2_struckForce : GoodIn wsX2_accentForce wsX2_struckForce := goodIn_r _ [11, 2, 3, 4, 5, 6, 7, 12, 13, 14, 15, 16, 17, 18, 19, 1, 20, 21, 22, 23, 24, 25, 26, 27, 28, 29, 30, 31, 32, 33, 34, 35, 36, 37, 38, 39, 40, 41, 42, 43, 44, 45, 46, 47, 48, 49, 50, 51, 52, 53, 54, 55, 56, 57, 58, 59, 60, 61, 62, 63, 64, 65, 66, 67, 68, 69, 70, 71, 72, 73, 74, 75, 76, 77, 78, 79, 80, 81, 82, 83, 84] (by decide +kernel) (by decide +kernel)
set_option maxRecDepth 20000 in
theorem gX2_accentForce_X2_struckForce : GoodIn wsX2_accentForce (wsV RX2 132 RX2 yX2_struckForce wsX2_struckForce) := goodIn_app (goodIn_of _ (by decide +kernel)) ggX2_accentForce_X2_struckForce
set_option maxRecDepth 20000 in
theorem ggX2_hitSet_X2_makesHit : GoodIn wsX2_hitSet wsX2_makesHit := goodIn_r _ [6, 7, 8, 9, 5, 10, 11, 12, 13, 14, 15, 16, 17, 18, 19, 20, 21, 22, 23, 1, 24, 25, 26, 27, 28, 29, 30, 31, 32, 33, 34, 35, 36, 37, 38, 39, 40, 41, 42, 43, 44, 45, 46, 47, 48, 49, 50, 51, 52, 53, 54, 55, 56, 57, 58, 59, 60, 61, 62, 63, 64, 65, 66, 67, 68, 69, 75, 76, 77, 78, 79, 80, 81, 82, 83, 84, 70, 71, 72, 73, 74, 85, 86, 87, 88] (by decide +kernel) (by decide +kernel)
set_option maxRecDepth 20000 in
theorem gX2_hitSet_X2_makesHit : GoodIn wsX2_hitSet (wsV RX2 128 RX2 yX2_makesHit wsX2_makesHit) := goodIn_app (goodIn_of _ (by decide +kernel)) ggX2_hitSet_X2_makesHit
set_option maxRecDepth 20000 in
theorem ggX2_commonHits_X2_makesHit : GoodIn wsX2_commonHits wsX2_makesHit := goodIn_r _ [5, 6, 7, 8, 4, 9, 10, 11, 12, 13, 14, 15, 16, 17, 18, 19, 20, 21, 22, 23, 24, 25, 26, 27, 28, 29, 30, 31, 32, 33, 34, 35, 36, 37, 38, 39, 40, 41, 42, 43, 44, 45, 46, 47, 48, 49, 50, 51, 52, 53, 54, 55, 56, 57, 58, 59, 60, 61, 62, 63, 64, 65, 66, 67, 68, 69, 70, 71, 72, 73, 74, 75, 76, 77, 78, 79, 80, 81, 82, 83, 84, 85, 86, 87, 88] (by decide +kernel) (by decide +kernel)
set_option maxRecDepth 20000 in
theorem gX2_commonHits_X2_makesHit : GoodIn wsX2_commonHits (wsV RX2 128 RX2 yX2_makesHit wsX2_makesHit) := goodIn_app (goodIn_of _ (by decide +kernel)) ggX2_commonHits_X2_makesHit
set_option maxRecDepth 20000 in
theorem ggX2_groupSet_X2_trackOrNull : GoodIn wsX2_groupSet wsX2_trackOrNull := goodIn_r _ [6, 7, 8, 9, 10, 11, 12] (by decide +kernel) (by decide +kernel)
set_option maxRecDepth 20000 in
theorem gX2_groupSet_X2_trackOrNull : GoodIn wsX2_groupSet (wsV RX2 146 RX2 yX2_trackOrNull wsX2_trackOrNull) := goodIn_app (goodIn_of _ (by decide +kernel)) ggX2_groupSet_X2_trackOrNull
set_option maxRecDepth 20000 in
theorem ggX2_leastCommonMultiple_X2_greatestCommonDivisor : GoodIn wsX2_leastCommonMultiple wsX2_greatestCommonDivisor := goodIn_r _ [4, 5] (by decide +kernel) (by decide +kernel)
set_option maxRecDepth 20000 in
theorem gX2_leastCommonMultiple_X2_greatestCommonDivisor : GoodIn wsX2_leastCommonMultiple (va_wsS RX2 247 yX2_greatestCommonDivisor wsX2_greatestCommonDivisor) := goodIn_app (goodIn_of _ (by decide +kernel)) ggX2_leastCommonMultiple_X2_greatestCommonDivisor
end
section
set_option maxRecDepth 20000 in
theorem ggX3_isTrack_X3_isIn : GoodIn wsX3_isTrack wsX3_isIn := goodIn_r _ [5] (by decide +kernel) (by decide +kernel)
set_option maxRecDepth 20000 in
theorem gX3_isTrack_X3_isIn : GoodIn wsX3_isTrack (va_wsS RX3 51 yX3_isIn wsX3_isIn) := goodIn_app (goodIn_of _ (by decide +kernel)) ggX3_isTrack_X3_isIn
set_option maxRecDepth 20000 in
theorem ggX3_isStep_X3_isTrack : GoodIn wsX3_isStep wsX3_isTrack := goodIn_r _ [6, 7, 8, 9, 5, 10, 11, 12, 13, 14, 15, 16, 17, 18, 19, 20, 21, 22, 23, 24] (by decide +kernel) (by decide +kernel)
set_option maxRecDepth 20000 in
theorem gX3_isStep_X3_isTrack : GoodIn wsX3_isStep (wsV RX3 55 RX3 yX3_isTrack wsX3_isTrack) := goodIn_app (goodIn_of _ (by decide +kernel)) ggX3_isStep_X3_isTrack
set_option maxRecDepth 20000 in
theorem ggX3_isStep_X3_isIn : GoodIn wsX3_isStep wsX3_isIn := goodIn_r _ [10] (by decide +kernel) (by decide +kernel)
set_option maxRecDepth 20000 in
theorem gX3_isStep_X3_isIn : GoodIn wsX3_isStep (va_wsS RX3 51 yX3_isIn wsX3_isIn) := goodIn_app (goodIn_of _ (by decide +kernel)) ggX3_isStep_X3_isIn
set_option maxRecDepth 20000 in
theorem ggX3_isTick_X3_isIn : GoodIn wsX3_isTick wsX3_isIn := goodIn_r _ [5] (by decide +kernel) (by decide +kernel)
set_option maxRecDepth 20000 in
theorem gX3_isTick_X3_isIn : GoodIn wsX3_isTick (va_wsS RX3 51 yX3_isIn wsX3_isIn) := goodIn_app (goodIn_of _ (by decide +kernel)) ggX3_isTick_X3_isIn
set_option maxRecDepth 20000 in
theorem ggX3_plain_X3_at : GoodIn wsX3_plain wsX3_at := goodIn_r _ [5] (by decide +kernel) (by decide +kernel)
set_option maxRecDepth 20000 in
theorem gX3_plain_X3_at : GoodIn wsX3_plain (va_wsS RX3 60 yX3_at wsX3_at) := goodIn_app (goodIn_of _ (by decide +kernel)) ggX3_plain_X3_at
set_option maxRecDepth 20000 in
theorem ggX3_addTrack_X3_isIn : GoodIn wsX3_addTrack wsX3_isIn := goodIn_r _ [9] (by decide +kernel) (by decide +kernel)
set_option maxRecDepth 20000 in
theorem gX3_addTrack_X3_isIn : GoodIn wsX3_addTrack (va_wsS RX3 51 yX3_isIn wsX3_isIn) := goodIn_app (goodIn_of _ (by decide +kernel)) ggX3_addTrack_X3_isIn
set_option maxRecDepth 20000 in
theorem ggX3_addTrack_X3_no : GoodIn wsX3_addTrack wsX3_no := goodIn_r _ [13, 1, 22, 23, 24, 25, 26, 27, 28, 29, 30, 31, 32, 33, 34, 35] (by decide +kernel) (by decide +kernel)
set_option maxRecDepth 20000 in
theorem gX3_addTrack_X3_no : GoodIn wsX3_addTrack (wsV RX3 64 RX3 yX3_no wsX3_no) := goodIn_app (goodIn_of _ (by decide +kernel)) ggX3_addTrack_X3_no
set_option maxRecDepth 20000 in
theorem ggX3_addTrack_X3_plain : GoodIn wsX3_addTrack wsX3_plain := goodIn_r _ [17, 18, 19, 20, 8, 21, 22, 23, 24, 25, 26, 27, 28, 29, 30, 31, 32, 33, 34, 35] (by decide +kernel) (by decide +kernel)
set_option maxRecDepth 20000 in
theorem gX3_addTrack_X3_plain : GoodIn wsX3_addTrack (wsV RX3 68 RX3 yX3_plain wsX3_plain) := goodIn_app (goodIn_of _ (by decide +kernel)) ggX3_addTrack_X3_plain
set_option maxRecDepth 20000 in
theorem ggX3_set_X3_isStep : GoodIn wsX3_set wsX3_isStep := goodIn_r _ [7, 8, 9, 10, 11, 6, 12, 13, 14, 15, 16, 24, 25, 26, 27, 28, 29, 30, 31, 32, 33, 34, 35, 36, 37] (by decide +kernel) (by decide +kernel)
set_option maxRecDepth 20000 in
theorem gX3_set_X3_isStep : GoodIn wsX3_set (wsV RX3 72 RX3 yX3_isStep wsX3_isStep) := goodIn_app (goodIn_of _ (by decide +kernel)) ggX3_set_X3_isStep
set_option maxRecDepth 20000 in
theorem ggX3_set_X3_no : GoodIn wsX3_set wsX3_no := goodIn_r _ [20, 1, 24, 25, 26, 27, 28, 29, 30, 31, 32, 33, 34, 35, 36, 37] (by decide +kernel) (by decide +kernel)
set_option maxRecDepth 20000 in
theorem gX3_set_X3_no : GoodIn wsX3_set (wsV RX3 64 RX3 yX3_no wsX3_no) := goodIn_app (goodIn_of _ (by decide +kernel)) ggX3_set_X3_no
set_option maxRecDepth 20000 in
theorem ggX3_set_X3_isIn : GoodIn wsX3_set wsX3_isIn := goodIn_r _ [16] (by decide +kernel) (by decide +kernel)
set_option maxRecDepth 20000 in
theorem gX3_set_X3_isIn : GoodIn wsX3_set (va_wsS RX3 51 yX3_isIn wsX3_isIn) := goodIn_app (goodIn_of _ (by decide +kernel)) ggX3_set_X3_isIn
set_option maxRecDepth 20000 in
theorem ggX3_set_X3_at : GoodIn wsX3_set wsX3_at := goodIn_r _ [23] (by decide +kernel) (by decide +kernel)
set_option maxRecDepth 20000 in
theorem gX3_set_X3_at : GoodIn wsX3_set (va_wsS RX3 60 yX3_at wsX3_at) := goodIn_app (goodIn_of _ (by decide +kernel)) ggX3_set_X3_at
set_option maxRecDepth 20000 in
theorem ggX3_setTurn_X3_isStep : GoodIn wsX3_setTurn wsX3_isStep := goodIn_r _ [7, 8, 9, 10, 11, 6, 12, 13, 14, 15, 16, 24, 25, 26, 27, 28, 29, 30, 31, 32, 33, 34, 35, 36, 37] (by decide +kernel) (by decide +kernel)
set_option maxRecDepth 20000 in
theorem gX3_setTurn_X3_isStep : GoodIn wsX3_setTurn (wsV RX3 72 RX3 yX3_isStep wsX3_isStep) := goodIn_app (goodIn_of _ (by decide +kernel)) ggX3_setTurn_X3_isStep
set_option maxRecDepth 20000 in
theorem ggX3_setTurn_X3_no : GoodIn wsX3_setTurn wsX3_no := goodIn_r _ [20, 1, 24, 25, 26, 27, 28, 29, 30, 31, 32, 33, 34, 35, 36, 37] (by decide +kernel) (by decide +kernel)
set_option maxRecDepth 20000 in
theorem gX3_setTurn_X3_no : GoodIn wsX3_setTurn (wsV RX3 64 RX3 yX3_no wsX3_no) := goodIn_app (goodIn_of _ (by decide +kernel)) ggX3_setTurn_X3_no
set_option maxRecDepth 20000 in
theorem ggX3_setTurn_X3_isIn : GoodIn wsX3_setTurn wsX3_isIn := goodIn_r _ [16] (by decide +kernel) (by decide +kernel)
set_option maxRecDepth 20000 in
theorem gX3_setTurn_X3_isIn : GoodIn wsX3_setTurn (va_wsS RX3 51 yX3_isIn wsX3_isIn) := goodIn_app (goodIn_of _ (by decide +kernel)) ggX3_setTurn_X3_isIn
set_option maxRecDepth 20000 in
theorem ggX3_setTurn_X3_at : GoodIn wsX3_setTurn wsX3_at := goodIn_r _ [23] (by decide +kernel) (by decide +kernel)
set_option maxRecDepth 20000 in
theorem gX3_setTurn_X3_at : GoodIn wsX3_setTurn (va_wsS RX3 60 yX3_at wsX3_at) := goodIn_app (goodIn_of _ (by decide +kernel)) ggX3_setTurn_X3_at
set_option maxRecDepth 20000 in
theorem ggX3_step_X3_isStep : GoodIn wsX3_step wsX3_isStep := goodIn_r _ [7, 8, 9, 10, 11, 6, 12, 13, 14, 15, 16, 29, 30, 31, 32, 33, 34, 35, 36, 37, 38, 39, 40, 41, 42] (by decide +kernel) (by decide +kernel)
set_option maxRecDepth 20000 in
theorem gX3_step_X3_isStep : GoodIn wsX3_step (wsV RX3 72 RX3 yX3_isStep wsX3_isStep) := goodIn_app (goodIn_of _ (by decide +kernel)) ggX3_step_X3_isStep
set_option maxRecDepth 20000 in
theorem ggX3_step_X3_isIn : GoodIn wsX3_step wsX3_isIn := goodIn_r _ [16] (by decide +kernel) (by decide +kernel)
set_option maxRecDepth 20000 in
theorem gX3_step_X3_isIn : GoodIn wsX3_step (va_wsS RX3 51 yX3_isIn wsX3_isIn) := goodIn_app (goodIn_of _ (by decide +kernel)) ggX3_step_X3_isIn
set_option maxRecDepth 20000 in
theorem ggX3_step_X3_no : GoodIn wsX3_step wsX3_no := goodIn_r _ [20, 1, 29, 30, 31, 32, 33, 34, 35, 36, 37, 38, 39, 40, 41, 42] (by decide +kernel) (by decide +kernel)
set_option maxRecDepth 20000 in
theorem gX3_step_X3_no : GoodIn wsX3_step (wsV RX3 64 RX3 yX3_no wsX3_no) := goodIn_app (goodIn_of _ (by decide +kernel)) ggX3_step_X3_no
set_option maxRecDepth 20000 in
theorem ggX3_step_X3_delay : GoodIn wsX3_step wsX3_delay := goodIn_r _ [24, 25, 29, 30, 31, 32, 33, 34, 35, 36, 37, 38, 39, 40, 41, 42] (by decide +kernel) (by decide +kernel)
set_option maxRecDepth 20000 in
theorem gX3_step_X3_delay : GoodIn wsX3_step (wsV RX3 76 RX3 yX3_delay wsX3_delay) := goodIn_app (goodIn_of _ (by decide +kernel)) ggX3_step_X3_delay
set_option maxRecDepth 20000 in
theorem ggX3_step_X3_at : GoodIn wsX3_step wsX3_at := goodIn_r _ [28] (by decide +kernel) (by decide +kernel)
set_option maxRecDepth 20000 in
theorem gX3_step_X3_at : GoodIn wsX3_step (va_wsS RX3 60 yX3_at wsX3_at) := goodIn_app (goodIn_of _ (by decide +kernel)) ggX3_step_X3_at
set_option maxRecDepth 20000 in
theorem ggX3_track_X3_isTrack : GoodIn wsX3_track wsX3_isTrack := goodIn_r _ [6, 7, 8, 9, 5, 10, 25, 26, 27, 28, 29, 30, 31, 32, 33, 34, 35, 36, 37, 38] (by decide +kernel) (by decide +kernel)
set_option maxRecDepth 20000 in
theorem gX3_track_X3_isTrack : GoodIn wsX3_track (wsV RX3 55 RX3 yX3_isTrack wsX3_isTrack) := goodIn_app (goodIn_of _ (by decide +kernel)) ggX3_track_X3_isTrack
set_option maxRecDepth 20000 in
theorem ggX3_track_X3_isIn : GoodIn wsX3_track wsX3_isIn := goodIn_r _ [10] (by decide +kernel) (by decide +kernel)
set_option maxRecDepth 20000 in
theorem gX3_track_X3_isIn : GoodIn wsX3_track (va_wsS RX3 51 yX3_isIn wsX3_isIn) := goodIn_app (goodIn_of _ (by decide +kernel)) ggX3_track_X3_isIn
set_option maxRecDepth 20000 in
theorem ggX3_track_X3_told : GoodIn wsX3_track wsX3_told := goodIn_r _ [14, 15, 16, 17, 18, 19, 20, 25, 26, 27, 28, 29, 30, 31, 32, 33, 34, 35, 36, 37, 38] (by decide +kernel) (by decide +kernel)
set_option maxRecDepth 20000 in
theorem gX3_track_X3_told : GoodIn wsX3_track (wsV RX3 79 RX3 yX3_told wsX3_told) := goodIn_app (goodIn_of _ (by decide +kernel)) ggX3_track_X3_told
set_option maxRecDepth 20000 in
theorem ggX3_track_X3_no : GoodIn wsX3_track wsX3_no := goodIn_r _ [24, 1, 25, 26, 27, 28, 29, 30, 31, 32, 33, 34, 35, 36, 37, 38] (by decide +kernel) (by decide +kernel)
set_option maxRecDepth 20000 in
theorem gX3_track_X3_no : GoodIn wsX3_track (wsV RX3 64 RX3 yX3_no wsX3_no) := goodIn_app (goodIn_of _ (by decide +kernel)) ggX3_track_X3_no
set_option maxRecDepth 20000 in
theorem ggX3_tune_X3_isTrack : GoodIn wsX3_tune wsX3_isTrack := goodIn_r _ [10, 11, 12, 13, 9, 14, 19, 20, 21, 22, 23, 24, 25, 26, 27, 28, 29, 30, 31, 32] (by decide +kernel) (by decide +kernel)
set_option maxRecDepth 20000 in
theorem gX3_tune_X3_isTrack : GoodIn wsX3_tune (wsV RX3 55 RX3 yX3_isTrack wsX3_isTrack) := goodIn_app (goodIn_of _ (by decide +kernel)) ggX3_tune_X3_isTrack
set_option maxRecDepth 20000 in
theorem ggX3_tune_X3_no : GoodIn wsX3_tune wsX3_no := goodIn_r _ [18, 1, 19, 20, 21, 22, 23, 24, 25, 26, 27, 28, 29, 30, 31, 32] (by decide +kernel) (by decide +kernel)
set_option maxRecDepth 20000 in
theorem gX3_tune_X3_no : GoodIn wsX3_tune (wsV RX3 64 RX3 yX3_no wsX3_no) := goodIn_app (goodIn_of _ (by decide +kernel)) ggX3_tune_X3_no
set_option maxRecDepth 20000 in
theorem ggX3_tune_X3_isIn : GoodIn wsX3_tune wsX3_isIn := goodIn_r _ [14] (by decide +kernel) (by decide +kernel)
set_option maxRecDepth 20000 in
theorem gX3_tune_X3_isIn : GoodIn wsX3_tune (va_wsS RX3 51 yX3_isIn wsX3_isIn) := goodIn_app (goodIn_of _ (by decide +kernel)) ggX3_tune_X3_isIn
set_option maxRecDepth 20000 in
theorem ggX3_turn_X3_isTrack : GoodIn wsX3_turn wsX3_isTrack := goodIn_r _ [7, 8, 9, 10, 6, 11, 12, 13, 14, 15, 16, 17, 18, 19, 20, 21, 22, 23, 24, 25] (by decide +kernel) (by decide +kernel)
set_option maxRecDepth 20000 in
theorem gX3_turn_X3_isTrack : GoodIn wsX3_turn (wsV RX3 55 RX3 yX3_isTrack wsX3_isTrack) := goodIn_app (goodIn_of _ (by decide +kernel)) ggX3_turn_X3_isTrack
set_option maxRecDepth 20000 in
theorem ggX3_turn_X3_isIn : GoodIn wsX3_turn wsX3_isIn := goodIn_r _ [11] (by decide +kernel) (by decide +kernel)
set_option maxRecDepth 20000 in
theorem gX3_turn_X3_isIn : GoodIn wsX3_turn (va_wsS RX3 51 yX3_isIn wsX3_isIn) := goodIn_app (goodIn_of _ (by decide +kernel)) ggX3_turn_X3_isIn
set_option maxRecDepth 20000 in
theorem ggX3_spread_X3_isTrack : GoodIn wsX3_spread wsX3_isTrack := goodIn_r _ [7, 8, 9, 10, 6, 11, 24, 25, 26, 27, 28, 29, 30, 31, 32, 33, 34, 35, 36, 37] (by decide +kernel) (by decide +kernel)
set_option maxRecDepth 20000 in
theorem gX3_spread_X3_isTrack : GoodIn wsX3_spread (wsV RX3 55 RX3 yX3_isTrack wsX3_isTrack) := goodIn_app (goodIn_of _ (by decide +kernel)) ggX3_spread_X3_isTrack
set_option maxRecDepth 20000 in
theorem ggX3_spread_X3_no : GoodIn wsX3_spread wsX3_no := goodIn_r _ [15, 1, 24, 25, 26, 27, 28, 29, 30, 31, 32, 33, 34, 35, 36, 37] (by decide +kernel) (by decide +kernel)
set_option maxRecDepth 20000 in
theorem gX3_spread_X3_no : GoodIn wsX3_spread (wsV RX3 64 RX3 yX3_no wsX3_no) := goodIn_app (goodIn_of _ (by decide +kernel)) ggX3_spread_X3_no
set_option maxRecDepth 20000 in
theorem ggX3_spread_X3_isIn : GoodIn wsX3_spread wsX3_isIn := goodIn_r _ [11] (by decide +kernel) (by decide +kernel)
set_option maxRecDepth 20000 in
theorem gX3_spread_X3_isIn : GoodIn wsX3_spread (va_wsS RX3 51 yX3_isIn wsX3_isIn) := goodIn_app (goodIn_of _ (by decide +kernel)) ggX3_spread_X3_isIn
set_option maxRecDepth 20000 in
theorem ggX3_spread_X3_plain : GoodIn wsX3_spread wsX3_plain := goodIn_r _ [19, 20, 21, 22, 6, 23, 24, 25, 26, 27, 28, 29, 30, 31, 32, 33, 34, 35, 36, 37] (by decide +kernel) (by decide +kernel)
set_option maxRecDepth 20000 in
theorem gX3_spread_X3_plain : GoodIn wsX3_spread (wsV RX3 68 RX3 yX3_plain wsX3_plain) := goodIn_app (goodIn_of _ (by decide +kernel)) ggX3_spread_X3_plain
set_option maxRecDepth 20000 in
theorem ggX3_take_X3_at : GoodIn wsX3_take wsX3_at := goodIn_r _ [10] (by decide +kernel) (by decide +kernel)
set_option maxRecDepth 20000 in
theorem gX3_take_X3_at : GoodIn wsX3_take (va_wsS RX3 60 yX3_at wsX3_at) := goodIn_app (goodIn_of _ (by decide +kernel)) ggX3_take_X3_at
set_option maxRecDepth 20000 in
theorem ggX3_loud_X3_at : GoodIn wsX3_loud wsX3_at := goodIn_r _ [6] (by decide +kernel) (by decide +kernel)
set_option maxRecDepth 20000 in
theorem gX3_loud_X3_at : GoodIn wsX3_loud (va_wsS RX3 60 yX3_at wsX3_at) := goodIn_app (goodIn_of _ (by decide +kernel)) ggX3_loud_X3_at
set_option maxRecDepth 20000 in
theorem ggX3_rotate_X3_isTrack : GoodIn wsX3_rotate wsX3_isTrack := goodIn_r _ [14, 15, 16, 17, 13, 18, 38, 39, 40, 41, 42, 43, 44, 45, 46, 47, 48, 49, 50, 51] (by decide +kernel) (by decide +kernel)
set_option maxRecDepth 20000 in
theorem gX3_rotate_X3_isTrack : GoodIn wsX3_rotate (wsV RX3 55 RX3 yX3_isTrack wsX3_isTrack) := goodIn_app (goodIn_of _ (by decide +kernel)) ggX3_rotate_X3_isTrack
set_option maxRecDepth 20000 in
theorem ggX3_rotate_X3_no : GoodIn wsX3_rotate wsX3_no := goodIn_r _ [22, 1, 38, 39, 40, 41, 42, 43, 44, 45, 46, 47, 48, 49, 50, 51] (by decide +kernel) (by decide +kernel)
set_option maxRecDepth 20000 in
theorem gX3_rotate_X3_no : GoodIn wsX3_rotate (wsV RX3 64 RX3 yX3_no wsX3_no) := goodIn_app (goodIn_of _ (by decide +kernel)) ggX3_rotate_X3_no
set_option maxRecDepth 20000 in
theorem ggX3_rotate_X3_isIn : GoodIn wsX3_rotate wsX3_isIn := goodIn_r _ [18] (by decide +kernel) (by decide +kernel)
set_option maxRecDepth 20000 in
theorem gX3_rotate_X3_isIn : GoodIn wsX3_rotate (va_wsS RX3 51 yX3_isIn wsX3_isIn) := goodIn_app (goodIn_of _ (by decide +kernel)) ggX3_rotate_X3_isIn
set_option maxRecDepth 20000 in
theorem ggX3_rotate_X3_take : GoodIn wsX3_rotate wsX3_take := goodIn_r _ [26, 2, 3, 27, 28, 29, 30, 31, 32, 13, 33, 38, 39, 40, 41, 42, 43, 44, 45, 46, 47, 48, 49, 50, 51] (by decide +kernel) (by decide +kernel)
set_option maxRecDepth 20000 in
theorem gX3_rotate_X3_take : GoodIn wsX3_rotate (wsV RX3 93 RX3 yX3_take wsX3_take) := goodIn_app (goodIn_of _ (by decide +kernel)) ggX3_rotate_X3_take
set_option maxRecDepth 20000 in
theorem ggX3_rotate_X3_loud : GoodIn wsX3_rotate wsX3_loud := goodIn_r _ [37, 2, 3, 31, 32, 13, 33, 38, 39, 40, 41, 42, 43, 44, 45, 46, 47, 48, 49, 50, 51] (by decide +kernel) (by decide +kernel)
set_option maxRecDepth 20000 in
theorem gX3_rotate_X3_loud : GoodIn wsX3_rotate (wsV RX3 97 RX3 yX3_loud wsX3_loud) := goodIn_app (goodIn_of _ (by decide +kernel)) ggX3_rotate_X3_loud
set_option maxRecDepth 20000 in
theorem ggX3_stretch_X3_isTrack : GoodIn wsX3_stretch wsX3_isTrack := goodIn_r _ [14, 15, 16, 17, 13, 18, 34, 35, 36, 37, 38, 39, 40, 41, 42, 43, 44, 45, 46, 47] (by decide +kernel) (by decide +kernel)
set_option maxRecDepth 20000 in
theorem gX3_stretch_X3_isTrack : GoodIn wsX3_stretch (wsV RX3 55 RX3 yX3_isTrack wsX3_isTrack) := goodIn_app (goodIn_of _ (by decide +kernel)) ggX3_stretch_X3_isTrack
set_option maxRecDepth 20000 in
theorem ggX3_stretch_X3_no : GoodIn wsX3_stretch wsX3_no := goodIn_r _ [22, 1, 34, 35, 36, 37, 38, 39, 40, 41, 42, 43, 44, 45, 46, 47] (by decide +kernel) (by decide +kernel)
set_option maxRecDepth 20000 in
theorem gX3_stretch_X3_no : GoodIn wsX3_stretch (wsV RX3 64 RX3 yX3_no wsX3_no) := goodIn_app (goodIn_of _ (by decide +kernel)) ggX3_stretch_X3_no
set_option maxRecDepth 20000 in
theorem ggX3_stretch_X3_isIn : GoodIn wsX3_stretch wsX3_isIn := goodIn_r _ [18] (by decide +kernel) (by decide +kernel)
set_option maxRecDepth 20000 in
theorem gX3_stretch_X3_isIn : GoodIn wsX3_stretch (va_wsS RX3 51 yX3_isIn wsX3_isIn) := goodIn_app (goodIn_of _ (by decide +kernel)) ggX3_stretch_X3_isIn
set_option maxRecDepth 20000 in
theorem ggX3_stretch_X3_take : GoodIn wsX3_stretch wsX3_take := goodIn_r _ [26, 2, 3, 27, 28, 29, 30, 31, 32, 13, 33, 34, 35, 36, 37, 38, 39, 40, 41, 42, 43, 44, 45, 46, 47] (by decide +kernel) (by decide +kernel)
set_option maxRecDepth 20000 in
theorem gX3_stretch_X3_take : GoodIn wsX3_stretch (wsV RX3 93 RX3 yX3_take wsX3_take) := goodIn_app (goodIn_of _ (by decide +kernel)) ggX3_stretch_X3_take
set_option maxRecDepth 20000 in
theorem ggX3_tap_X3_isTrack : GoodIn wsX3_tap wsX3_isTrack := goodIn_r _ [16, 17, 18, 19, 15, 20, 37, 38, 39, 40, 41, 42, 43, 44, 45, 46, 47, 48, 49, 50] (by decide +kernel) (by decide +kernel)
set_option maxRecDepth 20000 in
theorem gX3_tap_X3_isTrack : GoodIn wsX3_tap (wsV RX3 55 RX3 yX3_isTrack wsX3_isTrack) := goodIn_app (goodIn_of _ (by decide +kernel)) ggX3_tap_X3_isTrack
set_option maxRecDepth 20000 in
theorem ggX3_tap_X3_no : GoodIn wsX3_tap wsX3_no := goodIn_r _ [24, 1, 37, 38, 39, 40, 41, 42, 43, 44, 45, 46, 47, 48, 49, 50] (by decide +kernel) (by decide +kernel)
set_option maxRecDepth 20000 in
theorem gX3_tap_X3_no : GoodIn wsX3_tap (wsV RX3 64 RX3 yX3_no wsX3_no) := goodIn_app (goodIn_of _ (by decide +kernel)) ggX3_tap_X3_no
set_option maxRecDepth 20000 in
theorem ggX3_tap_X3_isTick : GoodIn wsX3_tap wsX3_isTick := goodIn_r _ [27, 28, 18, 19, 15, 20] (by decide +kernel) (by decide +kernel)
set_option maxRecDepth 20000 in
theorem gX3_tap_X3_isTick : GoodIn wsX3_tap (va_wsS RX3 100 yX3_isTick wsX3_isTick) := goodIn_app (goodIn_of _ (by decide +kernel)) ggX3_tap_X3_isTick
set_option maxRecDepth 20000 in
theorem ggX3_tap_X3_isIn : GoodIn wsX3_tap wsX3_isIn := goodIn_r _ [20] (by decide +kernel) (by decide +kernel)
set_option maxRecDepth 20000 in
theorem gX3_tap_X3_isIn : GoodIn wsX3_tap (va_wsS RX3 51 yX3_isIn wsX3_isIn) := goodIn_app (goodIn_of _ (by decide +kernel)) ggX3_tap_X3_isIn
set_option maxRecDepth 20000 in
theorem ggX3_tap_X3_delay : GoodIn wsX3_tap wsX3_delay := goodIn_r _ [32, 33, 37, 38, 39, 40, 41, 42, 43, 44, 45, 46, 47, 48, 49, 50] (by decide +kernel) (by decide +kernel)
set_option maxRecDepth 20000 in
theorem gX3_tap_X3_delay : GoodIn wsX3_tap (wsV RX3 76 RX3 yX3_delay wsX3_delay) := goodIn_app (goodIn_of _ (by decide +kernel)) ggX3_tap_X3_delay
set_option maxRecDepth 20000 in
theorem ggX3_tap_X3_at : GoodIn wsX3_tap wsX3_at := goodIn_r _ [36] (by decide +kernel) (by decide +kernel)
set_option maxRecDepth 20000 in
theorem gX3_tap_X3_at : GoodIn wsX3_tap (va_wsS RX3 60 yX3_at wsX3_at) := goodIn_app (goodIn_of _ (by decide +kernel)) ggX3_tap_X3_at
set_option maxRecDepth 20000 in
theorem ggX3_addSection_X3_isIn : GoodIn wsX3_addSection wsX3_isIn := goodIn_r _ [9] (by decide +kernel) (by decide +kernel)
set_option maxRecDepth 20000 in
theorem gX3_addSection_X3_isIn : GoodIn wsX3_addSection (va_wsS RX3 51 yX3_isIn wsX3_isIn) := goodIn_app (goodIn_of _ (by decide +kernel)) ggX3_addSection_X3_isIn
set_option maxRecDepth 20000 in
theorem ggX3_addSection_X3_no : GoodIn wsX3_addSection wsX3_no := goodIn_r _ [13, 1, 14, 15, 16, 17, 18, 19, 20, 21, 22, 23, 24, 25, 26, 27] (by decide +kernel) (by decide +kernel)
set_option maxRecDepth 20000 in
theorem gX3_addSection_X3_no : GoodIn wsX3_addSection (wsV RX3 64 RX3 yX3_no wsX3_no) := goodIn_app (goodIn_of _ (by decide +kernel)) ggX3_addSection_X3_no
set_option maxRecDepth 20000 in
theorem ggX3_dropSection_X3_no : GoodIn wsX3_dropSection wsX3_no := goodIn_r _ [7, 1, 8, 9, 10, 11, 12, 13, 14, 15, 16, 17, 18, 19, 20, 21] (by decide +kernel) (by decide +kernel)
set_option maxRecDepth 20000 in
theorem gX3_dropSection_X3_no : GoodIn wsX3_dropSection (wsV RX3 64 RX3 yX3_no wsX3_no) := goodIn_app (goodIn_of _ (by decide +kernel)) ggX3_dropSection_X3_no
set_option maxRecDepth 20000 in
theorem ggX3_sectionAt_X3_isTick : GoodIn wsX3_sectionAt wsX3_isTick := goodIn_r _ [5, 6, 7, 8, 4, 9] (by decide +kernel) (by decide +kernel)
set_option maxRecDepth 20000 in
theorem gX3_sectionAt_X3_isTick : GoodIn wsX3_sectionAt (va_wsS RX3 100 yX3_isTick wsX3_isTick) := goodIn_app (goodIn_of _ (by decide +kernel)) ggX3_sectionAt_X3_isTick
set_option maxRecDepth 20000 in
theorem ggX3_sectionAt_X3_section : GoodIn wsX3_sectionAt wsX3_section := goodIn_r _ [13, 14, 15, 20, 21, 22, 23, 24, 25, 26, 27, 28, 29, 30, 31, 32, 33] (by decide +kernel) (by decide +kernel)
set_option maxRecDepth 20000 in
theorem gX3_sectionAt_X3_section : GoodIn wsX3_sectionAt (wsV RX3 114 RX3 yX3_section wsX3_section) := goodIn_app (goodIn_of _ (by decide +kernel)) ggX3_sectionAt_X3_section
set_option maxRecDepth 20000 in
theorem ggX3_sectionAt_X3_no : GoodIn wsX3_sectionAt wsX3_no := goodIn_r _ [19, 1, 20, 21, 22, 23, 24, 25, 26, 27, 28, 29, 30, 31, 32, 33] (by decide +kernel) (by decide +kernel)
set_option maxRecDepth 20000 in
theorem gX3_sectionAt_X3_no : GoodIn wsX3_sectionAt (wsV RX3 64 RX3 yX3_no wsX3_no) := goodIn_app (goodIn_of _ (by decide +kernel)) ggX3_sectionAt_X3_no
set_option maxRecDepth 20000 in
theorem ggX3_strike_X3_isSilent : GoodIn wsX3_strike wsX3_isSilent := goodIn_r _ [12, 13, 14, 27, 28, 29, 30, 31, 32, 33, 34, 35, 36, 37, 38, 39, 40] (by decide +kernel) (by decide +kernel)
set_option maxRecDepth 20000 in
theorem gX3_strike_X3_isSilent : GoodIn wsX3_strike (wsV RX3 117 RX3 yX3_isSilent wsX3_isSilent) := goodIn_app (goodIn_of _ (by decide +kernel)) ggX3_strike_X3_isSilent
set_option maxRecDepth 20000 in
theorem ggX3_strike_X3_section : GoodIn wsX3_strike wsX3_section := goodIn_r _ [18, 1, 4, 27, 28, 29, 30, 31, 32, 33, 34, 35, 36, 37, 38, 39, 40] (by decide +kernel) (by decide +kernel)
set_option maxRecDepth 20000 in
theorem gX3_strike_X3_section : GoodIn wsX3_strike (wsV RX3 114 RX3 yX3_section wsX3_section) := goodIn_app (goodIn_of _ (by decide +kernel)) ggX3_strike_X3_section
set_option maxRecDepth 20000 in
theorem ggX3_strike_X3_at : GoodIn wsX3_strike wsX3_at := goodIn_r _ [21] (by decide +kernel) (by decide +kernel)
set_option maxRecDepth 20000 in
theorem gX3_strike_X3_at : GoodIn wsX3_strike (va_wsS RX3 60 yX3_at wsX3_at) := goodIn_app (goodIn_of _ (by decide +kernel)) ggX3_strike_X3_at
set_option maxRecDepth 20000 in
theorem ggX3_strike_X3_delay : GoodIn wsX3_strike wsX3_delay := goodIn_r _ [25, 26, 27, 28, 29, 30, 31, 32, 33, 34, 35, 36, 37, 38, 39, 40] (by decide +kernel) (by decide +kernel)
set_option maxRecDepth 20000 in
theorem gX3_strike_X3_delay : GoodIn wsX3_strike (wsV RX3 76 RX3 yX3_delay wsX3_delay) := goodIn_app (goodIn_of _ (by decide +kernel)) ggX3_strike_X3_delay
set_option maxRecDepth 20000 in
theorem ggX3_loud__X3_strike : GoodIn wsX3_loud_ wsX3_strike := goodIn_r _ [11, 12, 13, 14, 15, 16, 17, 18, 19, 20, 21, 10, 22, 2, 1, 23, 24, 25, 26, 27, 28, 29, 30, 31, 32, 33, 34, 35, 36, 37, 38, 39, 40, 41, 42, 43, 44, 45, 46, 47, 48] (by decide +kernel) (by decide +kernel)
set_option maxRecDepth 20000 in
theorem gX3_loud__X3_strike : GoodIn wsX3_loud_ (wsV RX3 120 RX3 yX3_strike wsX3_strike) := goodIn_app (goodIn_of _ (by decide +kernel)) ggX3_loud__X3_strike
set_option maxRecDepth 20000 in
theorem ggX3_hits_X3_strike : GoodIn wsX3_hits wsX3_strike := goodIn_r _ [6, 7, 8, 9, 10, 11, 12, 13, 14, 15, 16, 5, 17, 18, 1, 19, 20, 21, 22, 23, 24, 25, 26, 27, 28, 29, 30, 31, 32, 33, 34, 35, 36, 37, 38, 39, 40, 41, 42, 43, 44] (by decide +kernel) (by decide +kernel)
set_option maxRecDepth 20000 in
theorem gX3_hits_X3_strike : GoodIn wsX3_hits (wsV RX3 120 RX3 yX3_strike wsX3_strike) := goodIn_app (goodIn_of _ (by decide +kernel)) ggX3_hits_X3_strike
set_option maxRecDepth 20000 in
theorem ggX3_loudness_X3_isTrack : GoodIn wsX3_loudness wsX3_isTrack := goodIn_r _ [6, 7, 8, 9, 5, 10, 55, 56, 57, 58, 59, 60, 61, 62, 63, 64, 65, 66, 67, 68] (by decide +kernel) (by decide +kernel)
set_option maxRecDepth 20000 in
theorem gX3_loudness_X3_isTrack : GoodIn wsX3_loudness (wsV RX3 55 RX3 yX3_isTrack wsX3_isTrack) := goodIn_app (goodIn_of _ (by decide +kernel)) ggX3_loudness_X3_isTrack
set_option maxRecDepth 20000 in
theorem ggX3_loudness_X3_no : GoodIn wsX3_loudness wsX3_no := goodIn_r _ [14, 1, 55, 56, 57, 58, 59, 60, 61, 62, 63, 64, 65, 66, 67, 68] (by decide +kernel) (by decide +kernel)
set_option maxRecDepth 20000 in
theorem gX3_loudness_X3_no : GoodIn wsX3_loudness (wsV RX3 64 RX3 yX3_no wsX3_no) := goodIn_app (goodIn_of _ (by decide +kernel)) ggX3_loudness_X3_no
set_option maxRecDepth 20000 in
theorem ggX3_loudness_X3_isTick : GoodIn wsX3_loudness wsX3_isTick := goodIn_r _ [17, 18, 8, 9, 5, 10] (by decide +kernel) (by decide +kernel)
set_option maxRecDepth 20000 in
theorem gX3_loudness_X3_isTick : GoodIn wsX3_loudness (va_wsS RX3 100 yX3_isTick wsX3_isTick) := goodIn_app (goodIn_of _ (by decide +kernel)) ggX3_loudness_X3_isTick
set_option maxRecDepth 20000 in
theorem ggX3_loudness_X3_loud_ : GoodIn wsX3_loudness wsX3_loud_ := goodIn_r _ [22, 23, 7, 24, 25, 26, 27, 28, 29, 30, 5, 31, 32, 33, 34, 35, 36, 37, 38, 39, 40, 41, 42, 43, 44, 45, 46, 47, 48, 49, 50, 51, 52, 53, 54, 55, 56, 57, 58, 59, 60, 61, 62, 63, 64, 65, 66, 67, 68] (by decide +kernel) (by decide +kernel)
set_option maxRecDepth 20000 in
theorem gX3_loudness_X3_loud_ : GoodIn wsX3_loudness (wsV RX3 123 RX3 yX3_loud_ wsX3_loud_) := goodIn_app (goodIn_of _ (by decide +kernel)) ggX3_loudness_X3_loud_
set_option maxRecDepth 20000 in
theorem ggX3_hits__X3_isTick : GoodIn wsX3_hits_ wsX3_isTick := goodIn_r _ [6, 7, 8, 9, 5, 10] (by decide +kernel) (by decide +kernel)
set_option maxRecDepth 20000 in
theorem gX3_hits__X3_isTick : GoodIn wsX3_hits_ (va_wsS RX3 100 yX3_isTick wsX3_isTick) := goodIn_app (goodIn_of _ (by decide +kernel)) ggX3_hits__X3_isTick
set_option maxRecDepth 20000 in
theorem ggX3_hits__X3_no : GoodIn wsX3_hits_ wsX3_no := goodIn_r _ [14, 1, 47, 48, 49, 50, 51, 52, 53, 54, 55, 56, 57, 58, 59, 60] (by decide +kernel) (by decide +kernel)
set_option maxRecDepth 20000 in
theorem gX3_hits__X3_no : GoodIn wsX3_hits_ (wsV RX3 64 RX3 yX3_no wsX3_no) := goodIn_app (goodIn_of _ (by decide +kernel)) ggX3_hits__X3_no
set_option maxRecDepth 20000 in
theorem ggX3_hits__X3_hits : GoodIn wsX3_hits_ wsX3_hits := goodIn_r _ [18, 19, 20, 21, 22, 5, 23, 24, 25, 26, 27, 28, 29, 30, 31, 32, 33, 34, 2, 35, 36, 37, 38, 39, 40, 41, 42, 43, 44, 45, 46, 47, 48, 49, 50, 51, 52, 53, 54, 55, 56, 57, 58, 59, 60] (by decide +kernel) (by decide +kernel)
set_option maxRecDepth 20000 in
theorem gX3_hits__X3_hits : GoodIn wsX3_hits_ (wsV RX3 125 RX3 yX3_hits wsX3_hits) := goodIn_app (goodIn_of _ (by decide +kernel)) ggX3_hits__X3_hits
set_option maxRecDepth 20000 in
theorem ggX3_sounds_X3_hits : GoodIn wsX3_sounds wsX3_hits := goodIn_r _ [8, 9, 10, 11, 12, 7, 13, 14, 15, 16, 17, 18, 19, 20, 21, 22, 23, 24, 2, 25, 26, 27, 28, 29, 30, 31, 32, 33, 34, 35, 36, 37, 38, 39, 40, 41, 42, 43, 44, 45, 46, 47, 48, 49, 50] (by decide +kernel) (by decide +kernel)
set_option maxRecDepth 20000 in
theorem gX3_sounds_X3_hits : GoodIn wsX3_sounds (wsV RX3 125 RX3 yX3_hits wsX3_hits) := goodIn_app (goodIn_of _ (by decide +kernel)) ggX3_sounds_X3_hits
set_option maxRecDepth 20000 in
theorem ggX3_sounding_X3_isTick : GoodIn wsX3_sounding wsX3_isTick := goodIn_r _ [6, 7, 8, 9, 5, 10] (by decide +kernel) (by decide +kernel)
set_option maxRecDepth 20000 in
theorem gX3_sounding_X3_isTick : GoodIn wsX3_sounding (va_wsS RX3 100 yX3_isTick wsX3_isTick) := goodIn_app (goodIn_of _ (by decide +kernel)) ggX3_sounding_X3_isTick
set_option maxRecDepth 20000 in
theorem ggX3_sounding_X3_no : GoodIn wsX3_sounding wsX3_no := goodIn_r _ [14, 1, 53, 54, 55, 56, 57, 58, 59, 60, 61, 62, 63, 64, 65, 66] (by decide +kernel) (by decide +kernel)
set_option maxRecDepth 20000 in
theorem gX3_sounding_X3_no : GoodIn wsX3_sounding (wsV RX3 64 RX3 yX3_no wsX3_no) := goodIn_app (goodIn_of _ (by decide +kernel)) ggX3_sounding_X3_no
set_option maxRecDepth 20000 in
theorem ggX3_sounding_X3_sounds : GoodIn wsX3_sounding wsX3_sounds := goodIn_r _ [18, 19, 2, 20, 21, 22, 23, 5, 24, 25, 26, 27, 28, 29, 30, 31, 32, 33, 34, 35, 36, 37, 38, 39, 40, 41, 42, 43, 44, 45, 46, 47, 48, 49, 50, 51, 52, 53, 54, 55, 56, 57, 58, 59, 60, 61, 62, 63, 64, 65, 66] (by decide +kernel) (by decide +kernel)
set_option maxRecDepth 20000 in
theorem gX3_sounding_X3_sounds : GoodIn wsX3_sounding (wsV RX3 128 RX3 yX3_sounds wsX3_sounds) := goodIn_app (goodIn_of _ (by decide +kernel)) ggX3_sounding_X3_sounds
set_option maxRecDepth 20000 in
theorem ggX3_next_X3_isTrack : GoodIn wsX3_next wsX3_isTrack := goodIn_r _ [7, 8, 9, 10, 6, 11, 51, 52, 53, 54, 55, 56, 57, 58, 59, 60, 61, 62, 63, 64] (by decide +kernel) (by decide +kernel)
set_option maxRecDepth 20000 in
theorem gX3_next_X3_isTrack : GoodIn wsX3_next (wsV RX3 55 RX3 yX3_isTrack wsX3_isTrack) := goodIn_app (goodIn_of _ (by decide +kernel)) ggX3_next_X3_isTrack
set_option maxRecDepth 20000 in
theorem ggX3_next_X3_no : GoodIn wsX3_next wsX3_no := goodIn_r _ [15, 1, 51, 52, 53, 54, 55, 56, 57, 58, 59, 60, 61, 62, 63, 64] (by decide +kernel) (by decide +kernel)
set_option maxRecDepth 20000 in
theorem gX3_next_X3_no : GoodIn wsX3_next (wsV RX3 64 RX3 yX3_no wsX3_no) := goodIn_app (goodIn_of _ (by decide +kernel)) ggX3_next_X3_no
set_option maxRecDepth 20000 in
theorem ggX3_next_X3_isTick : GoodIn wsX3_next wsX3_isTick := goodIn_r _ [18, 2, 9, 10, 6, 11] (by decide +kernel) (by decide +kernel)
set_option maxRecDepth 20000 in
theorem gX3_next_X3_isTick : GoodIn wsX3_next (va_wsS RX3 100 yX3_isTick wsX3_isTick) := goodIn_app (goodIn_of _ (by decide +kernel)) ggX3_next_X3_isTick
set_option maxRecDepth 20000 in
theorem ggX3_next_X3_hits : GoodIn wsX3_next wsX3_hits := goodIn_r _ [22, 23, 24, 25, 26, 6, 27, 28, 29, 30, 31, 32, 33, 34, 35, 36, 37, 38, 8, 39, 40, 41, 42, 43, 44, 45, 46, 47, 48, 49, 50, 51, 52, 53, 54, 55, 56, 57, 58, 59, 60, 61, 62, 63, 64] (by decide +kernel) (by decide +kernel)
set_option maxRecDepth 20000 in
theorem gX3_next_X3_hits : GoodIn wsX3_next (wsV RX3 125 RX3 yX3_hits wsX3_hits) := goodIn_app (goodIn_of _ (by decide +kernel)) ggX3_next_X3_hits
set_option maxRecDepth 20000 in
theorem ggX3_isSpan_X3_isTick : GoodIn wsX3_isSpan wsX3_isTick := goodIn_r _ [4, 5, 6, 7, 3, 8] (by decide +kernel) (by decide +kernel)
set_option maxRecDepth 20000 in
theorem gX3_isSpan_X3_isTick : GoodIn wsX3_isSpan (va_wsS RX3 100 yX3_isTick wsX3_isTick) := goodIn_app (goodIn_of _ (by decide +kernel)) ggX3_isSpan_X3_isTick
set_option maxRecDepth 20000 in
theorem ggX3_isSpan_X3_isIn : GoodIn wsX3_isSpan wsX3_isIn := goodIn_r _ [8] (by decide +kernel) (by decide +kernel)
set_option maxRecDepth 20000 in
theorem gX3_isSpan_X3_isIn : GoodIn wsX3_isSpan (va_wsS RX3 51 yX3_isIn wsX3_isIn) := goodIn_app (goodIn_of _ (by decide +kernel)) ggX3_isSpan_X3_isIn
set_option maxRecDepth 20000 in
theorem ggX3_count_X3_isTrack : GoodIn wsX3_count wsX3_isTrack := goodIn_r _ [6, 7, 8, 9, 5, 10, 54, 55, 56, 57, 58, 59, 60, 61, 62, 63, 64, 65, 66, 67] (by decide +kernel) (by decide +kernel)
set_option maxRecDepth 20000 in
theorem gX3_count_X3_isTrack : GoodIn wsX3_count (wsV RX3 55 RX3 yX3_isTrack wsX3_isTrack) := goodIn_app (goodIn_of _ (by decide +kernel)) ggX3_count_X3_isTrack
set_option maxRecDepth 20000 in
theorem ggX3_count_X3_no : GoodIn wsX3_count wsX3_no := goodIn_r _ [14, 1, 54, 55, 56, 57, 58, 59, 60, 61, 62, 63, 64, 65, 66, 67] (by decide +kernel) (by decide +kernel)
set_option maxRecDepth 20000 in
theorem gX3_count_X3_no : GoodIn wsX3_count (wsV RX3 64 RX3 yX3_no wsX3_no) := goodIn_app (goodIn_of _ (by decide +kernel)) ggX3_count_X3_no
set_option maxRecDepth 20000 in
theorem ggX3_count_X3_isSpan : GoodIn wsX3_count wsX3_isSpan := goodIn_r _ [17, 18, 19, 5, 20, 21, 8, 9, 10] (by decide +kernel) (by decide +kernel)
set_option maxRecDepth 20000 in
theorem gX3_count_X3_isSpan : GoodIn wsX3_count (va_wsS RX3 131 yX3_isSpan wsX3_isSpan) := goodIn_app (goodIn_of _ (by decide +kernel)) ggX3_count_X3_isSpan
set_option maxRecDepth 20000 in
theorem ggX3_count_X3_hits : GoodIn wsX3_count wsX3_hits := goodIn_r _ [25, 26, 27, 28, 29, 5, 30, 31, 32, 33, 34, 35, 36, 37, 38, 39, 40, 41, 7, 42, 43, 44, 45, 46, 47, 48, 49, 50, 51, 52, 53, 54, 55, 56, 57, 58, 59, 60, 61, 62, 63, 64, 65, 66, 67] (by decide +kernel) (by decide +kernel)
set_option maxRecDepth 20000 in
theorem gX3_count_X3_hits : GoodIn wsX3_count (wsV RX3 125 RX3 yX3_hits wsX3_hits) := goodIn_app (goodIn_of _ (by decide +kernel)) ggX3_count_X3_hits
set_option maxRecDepth 20000 in
theorem ggX3_together_X3_isTrack : GoodIn wsX3_together wsX3_isTrack := goodIn_r _ [6, 7, 8, 9, 5, 10, 54, 55, 56, 57, 58, 59, 60, 61, 62, 63, 64, 65, 66, 67] (by decide +kernel) (by decide +kernel)
set_option maxRecDepth 20000 in
theorem gX3_together_X3_isTrack : GoodIn wsX3_together (wsV RX3 55 RX3 yX3_isTrack wsX3_isTrack) := goodIn_app (goodIn_of _ (by decide +kernel)) ggX3_together_X3_isTrack
set_option maxRecDepth 20000 in
theorem ggX3_together_X3_no : GoodIn wsX3_together wsX3_no := goodIn_r _ [14, 1, 54, 55, 56, 57, 58, 59, 60, 61, 62, 63, 64, 65, 66, 67] (by decide +kernel) (by decide +kernel)
set_option maxRecDepth 20000 in
theorem gX3_together_X3_no : GoodIn wsX3_together (wsV RX3 64 RX3 yX3_no wsX3_no) := goodIn_app (goodIn_of _ (by decide +kernel)) ggX3_together_X3_no
set_option maxRecDepth 20000 in
theorem ggX3_together_X3_isSpan : GoodIn wsX3_together wsX3_isSpan := goodIn_r _ [17, 18, 19, 5, 20, 21, 8, 9, 10] (by decide +kernel) (by decide +kernel)
set_option maxRecDepth 20000 in
theorem gX3_together_X3_isSpan : GoodIn wsX3_together (va_wsS RX3 131 yX3_isSpan wsX3_isSpan) := goodIn_app (goodIn_of _ (by decide +kernel)) ggX3_together_X3_isSpan
set_option maxRecDepth 20000 in
theorem ggX3_together_X3_hits : GoodIn wsX3_together wsX3_hits := goodIn_r _ [25, 26, 27, 28, 29, 5, 30, 31, 32, 33, 34, 35, 36, 37, 38, 39, 40, 41, 7, 42, 43, 44, 45, 46, 47, 48, 49, 50, 51, 52, 53, 54, 55, 56, 57, 58, 59, 60, 61, 62, 63, 64, 65, 66, 67] (by decide +kernel) (by decide +kernel)
set_option maxRecDepth 20000 in
theorem gX3_together_X3_hits : GoodIn wsX3_together (wsV RX3 125 RX3 yX3_hits wsX3_hits) := goodIn_app (goodIn_of _ (by decide +kernel)) ggX3_together_X3_hits
set_option maxRecDepth 20000 in
theorem ggX3_roundsOf_X3_at : GoodIn wsX3_roundsOf wsX3_at := goodIn_r _ [6] (by decide +kernel) (by decide +kernel)
set_option maxRecDepth 20000 in
theorem gX3_roundsOf_X3_at : GoodIn wsX3_roundsOf (va_wsS RX3 60 yX3_at wsX3_at) := goodIn_app (goodIn_of _ (by decide +kernel)) ggX3_roundsOf_X3_at
set_option maxRecDepth 20000 in
theorem ggX3_roundsOf_X3_divisor : GoodIn wsX3_roundsOf wsX3_divisor := goodIn_r _ [9] (by decide +kernel) (by decide +kernel)
set_option maxRecDepth 20000 in
theorem gX3_roundsOf_X3_divisor : GoodIn wsX3_roundsOf (va_wsS RX3 134 yX3_divisor wsX3_divisor) := goodIn_app (goodIn_of _ (by decide +kernel)) ggX3_roundsOf_X3_divisor
set_option maxRecDepth 20000 in
theorem ggX3_rounds_X3_isTrack : GoodIn wsX3_rounds wsX3_isTrack := goodIn_r _ [6, 7, 8, 9, 5, 10, 27, 28, 29, 30, 31, 32, 33, 34, 35, 36, 37, 38, 39, 40] (by decide +kernel) (by decide +kernel)
set_option maxRecDepth 20000 in
theorem gX3_rounds_X3_isTrack : GoodIn wsX3_rounds (wsV RX3 55 RX3 yX3_isTrack wsX3_isTrack) := goodIn_app (goodIn_of _ (by decide +kernel)) ggX3_rounds_X3_isTrack
set_option maxRecDepth 20000 in
theorem ggX3_rounds_X3_roundsOf : GoodIn wsX3_rounds wsX3_roundsOf := goodIn_r _ [14, 15, 16, 17, 18, 5, 19, 20, 21, 22, 27, 28, 29, 30, 31, 32, 33, 34, 35, 36, 37, 38, 39, 40] (by decide +kernel) (by decide +kernel)
set_option maxRecDepth 20000 in
theorem gX3_rounds_X3_roundsOf : GoodIn wsX3_rounds (wsV RX3 138 RX3 yX3_roundsOf wsX3_roundsOf) := goodIn_app (goodIn_of _ (by decide +kernel)) ggX3_rounds_X3_roundsOf
set_option maxRecDepth 20000 in
theorem ggX3_rounds_X3_no : GoodIn wsX3_rounds wsX3_no := goodIn_r _ [26, 1, 27, 28, 29, 30, 31, 32, 33, 34, 35, 36, 37, 38, 39, 40] (by decide +kernel) (by decide +kernel)
set_option maxRecDepth 20000 in
theorem gX3_rounds_X3_no : GoodIn wsX3_rounds (wsV RX3 64 RX3 yX3_no wsX3_no) := goodIn_app (goodIn_of _ (by decide +kernel)) ggX3_rounds_X3_no
set_option maxRecDepth 20000 in
theorem ggX3_period_X3_roundsOf : GoodIn wsX3_period wsX3_roundsOf := goodIn_r _ [11, 3, 12, 13, 14, 10, 15, 16, 17, 18, 19, 20, 21, 22, 23, 24, 25, 26, 27, 28, 29, 30, 31, 32] (by decide +kernel) (by decide +kernel)
set_option maxRecDepth 20000 in
theorem gX3_period_X3_roundsOf : GoodIn wsX3_period (wsV RX3 138 RX3 yX3_roundsOf wsX3_roundsOf) := goodIn_app (goodIn_of _ (by decide +kernel)) ggX3_period_X3_roundsOf
set_option maxRecDepth 20000 in
theorem ggX3_period_X3_divisor : GoodIn wsX3_period wsX3_divisor := goodIn_r _ [18] (by decide +kernel) (by decide +kernel)
set_option maxRecDepth 20000 in
theorem gX3_period_X3_divisor : GoodIn wsX3_period (va_wsS RX3 134 yX3_divisor wsX3_divisor) := goodIn_app (goodIn_of _ (by decide +kernel)) ggX3_period_X3_divisor
set_option maxRecDepth 20000 in
theorem ggX3_density_X3_isTrack : GoodIn wsX3_density wsX3_isTrack := goodIn_r _ [8, 9, 10, 11, 7, 12, 16, 17, 18, 19, 20, 21, 22, 23, 24, 25, 26, 27, 28, 29] (by decide +kernel) (by decide +kernel)
set_option maxRecDepth 20000 in
theorem gX3_density_X3_isTrack : GoodIn wsX3_density (wsV RX3 55 RX3 yX3_isTrack wsX3_isTrack) := goodIn_app (goodIn_of _ (by decide +kernel)) ggX3_density_X3_isTrack
set_option maxRecDepth 20000 in
theorem ggX3_density_X3_at : GoodIn wsX3_density wsX3_at := goodIn_r _ [15] (by decide +kernel) (by decide +kernel)
set_option maxRecDepth 20000 in
theorem gX3_density_X3_at : GoodIn wsX3_density (va_wsS RX3 60 yX3_at wsX3_at) := goodIn_app (goodIn_of _ (by decide +kernel)) ggX3_density_X3_at
set_option maxRecDepth 20000 in
theorem ggX3_setSpeed_X3_isIn : GoodIn wsX3_setSpeed wsX3_isIn := goodIn_r _ [6] (by decide +kernel) (by decide +kernel)
set_option maxRecDepth 20000 in
theorem gX3_setSpeed_X3_isIn : GoodIn wsX3_setSpeed (va_wsS RX3 51 yX3_isIn wsX3_isIn) := goodIn_app (goodIn_of _ (by decide +kernel)) ggX3_setSpeed_X3_isIn
set_option maxRecDepth 20000 in
theorem ggX3_setSpeed_X3_no : GoodIn wsX3_setSpeed wsX3_no := goodIn_r _ [10, 1, 11, 12, 13, 14, 15, 16, 17, 18, 19, 20, 21, 22, 23, 24] (by decide +kernel) (by decide +kernel)
set_option maxRecDepth 20000 in
theorem gX3_setSpeed_X3_no : GoodIn wsX3_setSpeed (wsV RX3 64 RX3 yX3_no wsX3_no) := goodIn_app (goodIn_of _ (by decide +kernel)) ggX3_setSpeed_X3_no
set_option maxRecDepth 20000 in
theorem ggX3_seconds_X3_isTick : GoodIn wsX3_seconds wsX3_isTick := goodIn_r _ [8, 9, 10, 11, 7, 12] (by decide +kernel) (by decide +kernel)
set_option maxRecDepth 20000 in
theorem gX3_seconds_X3_isTick : GoodIn wsX3_seconds (va_wsS RX3 100 yX3_isTick wsX3_isTick) := goodIn_app (goodIn_of _ (by decide +kernel)) ggX3_seconds_X3_isTick
set_option maxRecDepth 20000 in
theorem ggX3_digest_X3_told : GoodIn wsX3_digest wsX3_told := goodIn_r _ [16, 6, 17, 18, 19, 20, 21, 25, 26, 27, 28, 29, 30, 31, 32, 33, 34, 35, 36, 37, 38] (by decide +kernel) (by decide +kernel)
set_option maxRecDepth 20000 in
theorem gX3_digest_X3_told : GoodIn wsX3_digest (wsV RX3 79 RX3 yX3_told wsX3_told) := goodIn_app (goodIn_of _ (by decide +kernel)) ggX3_digest_X3_told
set_option maxRecDepth 20000 in
theorem ggX3_digest_X3_at : GoodIn wsX3_digest wsX3_at := goodIn_r _ [24] (by decide +kernel) (by decide +kernel)
set_option maxRecDepth 20000 in
theorem gX3_digest_X3_at : GoodIn wsX3_digest (va_wsS RX3 60 yX3_at wsX3_at) := goodIn_app (goodIn_of _ (by decide +kernel)) ggX3_digest_X3_at
end
section
theorem dX0_init_0 : decode cX0_init 0 = .ok (.aload_n 0, 1) := by decide +kernel
theorem dX0_init_1 : decode cX0_init 1 = .ok (.invokespecial 1, 3) := by decide +kernel
theorem dX0_init_4 : decode cX0_init 4 = .ok (.aload_n 0, 1) := by decide +kernel
theorem dX0_init_5 : decode cX0_init 5 = .ok (.iload_n 1, 1) := by decide +kernel
theorem dX0_init_6 : decode cX0_init 6 = .ok (.putfield 7, 3) := by decide +kernel
theorem dX0_init_9 : decode cX0_init 9 = .ok (.aload_n 0, 1) := by decide +kernel
theorem dX0_init_10 : decode cX0_init 10 = .ok (.iload_n 2, 1) := by decide +kernel
theorem dX0_init_11 : decode cX0_init 11 = .ok (.putfield 13, 3) := by decide +kernel
theorem dX0_init_14 : decode cX0_init 14 = .ok (.aload_n 0, 1) := by decide +kernel
theorem dX0_init_15 : decode cX0_init 15 = .ok (.iload_n 3, 1) := by decide +kernel
theorem dX0_init_16 : decode cX0_init 16 = .ok (.putfield 16, 3) := by decide +kernel
theorem dX0_init_19 : decode cX0_init 19 = .ok (.aload_n 0, 1) := by decide +kernel
theorem dX0_init_20 : decode cX0_init 20 = .ok (.iload 4, 2) := by decide +kernel
theorem dX0_init_22 : decode cX0_init 22 = .ok (.putfield 19, 3) := by decide +kernel
theorem dX0_init_25 : decode cX0_init 25 = .ok (.return_, 1) := by decide +kernel
theorem dX1_init_0 : decode cX1_init 0 = .ok (.aload_n 0, 1) := by decide +kernel
theorem dX1_init_1 : decode cX1_init 1 = .ok (.invokespecial 3, 3) := by decide +kernel
theorem dX1_init_4 : decode cX1_init 4 = .ok (.aload_n 0, 1) := by decide +kernel
theorem dX1_init_5 : decode cX1_init 5 = .ok (.iconst 0, 1) := by decide +kernel
theorem dX1_init_6 : decode cX1_init 6 = .ok (.putfield 9, 3) := by decide +kernel
theorem dX1_init_9 : decode cX1_init 9 = .ok (.aload_n 0, 1) := by decide +kernel
theorem dX1_init_10 : decode cX1_init 10 = .ok (.bipush 10, 2) := by decide +kernel
theorem dX1_init_12 : decode cX1_init 12 = .ok (.putfield 15, 3) := by decide +kernel
theorem dX1_init_15 : decode cX1_init 15 = .ok (.aload_n 0, 1) := by decide +kernel
theorem dX1_init_16 : decode cX1_init 16 = .ok (.iconst 0, 1) := by decide +kernel
theorem dX1_init_17 : decode cX1_init 17 = .ok (.putfield 18, 3) := by decide +kernel
theorem dX1_init_20 : decode cX1_init 20 = .ok (.aload_n 0, 1) := by decide +kernel
theorem dX1_init_21 : decode cX1_init 21 = .ok (.iconst 0, 1) := by decide +kernel
theorem dX1_init_22 : decode cX1_init 22 = .ok (.putfield 21, 3) := by decide +kernel
theorem dX1_init_25 : decode cX1_init 25 = .ok (.aload_n 0, 1) := by decide +kernel
theorem dX1_init_26 : decode cX1_init 26 = .ok (.iconst 0, 1) := by decide +kernel
theorem dX1_init_27 : decode cX1_init 27 = .ok (.putfield 25, 3) := by decide +kernel
theorem dX1_init_30 : decode cX1_init 30 = .ok (.aload_n 0, 1) := by decide +kernel
theorem dX1_init_31 : decode cX1_init 31 = .ok (.iconst 0, 1) := by decide +kernel
theorem dX1_init_32 : decode cX1_init 32 = .ok (.putfield 28, 3) := by decide +kernel
theorem dX1_init_35 : decode cX1_init 35 = .ok (.aload_n 0, 1) := by decide +kernel
theorem dX1_init_36 : decode cX1_init 36 = .ok (.sipush 128, 3) := by decide +kernel
theorem dX1_init_39 : decode cX1_init 39 = .ok (.newarray .int, 2) := by decide +kernel
theorem dX1_init_41 : decode cX1_init 41 = .ok (.putfield 31, 3) := by decide +kernel
theorem dX1_init_44 : decode cX1_init 44 = .ok (.aload_n 0, 1) := by decide +kernel
theorem dX1_init_45 : decode cX1_init 45 = .ok (.sipush 128, 3) := by decide +kernel
theorem dX1_init_48 : decode cX1_init 48 = .ok (.newarray .int, 2) := by decide +kernel
theorem dX1_init_50 : decode cX1_init 50 = .ok (.putfield 35, 3) := by decide +kernel
theorem dX1_init_53 : decode cX1_init 53 = .ok (.aload_n 0, 1) := by decide +kernel
theorem dX1_init_54 : decode cX1_init 54 = .ok (.iload_n 1, 1) := by decide +kernel
theorem dX1_init_55 : decode cX1_init 55 = .ok (.putfield 38, 3) := by decide +kernel
theorem dX1_init_58 : decode cX1_init 58 = .ok (.aload_n 0, 1) := by decide +kernel
theorem dX1_init_59 : decode cX1_init 59 = .ok (.iload_n 2, 1) := by decide +kernel
theorem dX1_init_60 : decode cX1_init 60 = .ok (.putfield 41, 3) := by decide +kernel
theorem dX1_init_63 : decode cX1_init 63 = .ok (.iconst 0, 1) := by decide +kernel
theorem dX1_init_64 : decode cX1_init 64 = .ok (.istore_n 3, 1) := by decide +kernel
theorem dX1_init_65 : decode cX1_init 65 = .ok (.iload_n 3, 1) := by decide +kernel
theorem dX1_init_66 : decode cX1_init 66 = .ok (.bipush 32, 2) := by decide +kernel
theorem dX1_init_68 : decode cX1_init 68 = .ok (.if_icmp .ge 15, 3) := by decide +kernel
theorem dX1_init_71 : decode cX1_init 71 = .ok (.aload_n 0, 1) := by decide +kernel
theorem dX1_init_72 : decode cX1_init 72 = .ok (.iload_n 3, 1) := by decide +kernel
theorem dX1_init_73 : decode cX1_init 73 = .ok (.iconst 0, 1) := by decide +kernel
theorem dX1_init_74 : decode cX1_init 74 = .ok (.invokevirtual 44, 3) := by decide +kernel
theorem dX1_init_77 : decode cX1_init 77 = .ok (.iinc 3 1, 3) := by decide +kernel
theorem dX1_init_80 : decode cX1_init 80 = .ok (.goto (-15), 3) := by decide +kernel
theorem dX1_init_83 : decode cX1_init 83 = .ok (.return_, 1) := by decide +kernel
theorem dX1_cell_0 : decode cX1_cell 0 = .ok (.aload_n 0, 1) := by decide +kernel
theorem dX1_cell_1 : decode cX1_cell 1 = .ok (.getfield 31, 3) := by decide +kernel
theorem dX1_cell_4 : decode cX1_cell 4 = .ok (.iload_n 1, 1) := by decide +kernel
theorem dX1_cell_5 : decode cX1_cell 5 = .ok (.iconst 4, 1) := by decide +kernel
theorem dX1_cell_6 : decode cX1_cell 6 = .ok (.imul, 1) := by decide +kernel
theorem dX1_cell_7 : decode cX1_cell 7 = .ok (.iload_n 2, 1) := by decide +kernel
theorem dX1_cell_8 : decode cX1_cell 8 = .ok (.iadd, 1) := by decide +kernel
theorem dX1_cell_9 : decode cX1_cell 9 = .ok (.invokestatic 48, 3) := by decide +kernel
theorem dX1_cell_12 : decode cX1_cell 12 = .ok (.ireturn, 1) := by decide +kernel
theorem dX1_putCell_0 : decode cX1_putCell 0 = .ok (.aload_n 0, 1) := by decide +kernel
theorem dX1_putCell_1 : decode cX1_putCell 1 = .ok (.getfield 31, 3) := by decide +kernel
theorem dX1_putCell_4 : decode cX1_putCell 4 = .ok (.iload_n 1, 1) := by decide +kernel
theorem dX1_putCell_5 : decode cX1_putCell 5 = .ok (.iconst 4, 1) := by decide +kernel
theorem dX1_putCell_6 : decode cX1_putCell 6 = .ok (.imul, 1) := by decide +kernel
theorem dX1_putCell_7 : decode cX1_putCell 7 = .ok (.iload_n 2, 1) := by decide +kernel
theorem dX1_putCell_8 : decode cX1_putCell 8 = .ok (.iadd, 1) := by decide +kernel
theorem dX1_putCell_9 : decode cX1_putCell 9 = .ok (.iload_n 3, 1) := by decide +kernel
theorem dX1_putCell_10 : decode cX1_putCell 10 = .ok (.invokestatic 52, 3) := by decide +kernel
theorem dX1_putCell_13 : decode cX1_putCell 13 = .ok (.return_, 1) := by decide +kernel
theorem dX1_clearStep_0 : decode cX1_clearStep 0 = .ok (.aload_n 0, 1) := by decide +kernel
theorem dX1_clearStep_1 : decode cX1_clearStep 1 = .ok (.iload_n 1, 1) := by decide +kernel
theorem dX1_clearStep_2 : decode cX1_clearStep 2 = .ok (.iconst 0, 1) := by decide +kernel
theorem dX1_clearStep_3 : decode cX1_clearStep 3 = .ok (.iload_n 2, 1) := by decide +kernel
theorem dX1_clearStep_4 : decode cX1_clearStep 4 = .ok (.invokevirtual 56, 3) := by decide +kernel
theorem dX1_clearStep_7 : decode cX1_clearStep 7 = .ok (.aload_n 0, 1) := by decide +kernel
theorem dX1_clearStep_8 : decode cX1_clearStep 8 = .ok (.iload_n 1, 1) := by decide +kernel
theorem dX1_clearStep_9 : decode cX1_clearStep 9 = .ok (.iconst 1, 1) := by decide +kernel
theorem dX1_clearStep_10 : decode cX1_clearStep 10 = .ok (.iconst 1, 1) := by decide +kernel
theorem dX1_clearStep_11 : decode cX1_clearStep 11 = .ok (.invokevirtual 56, 3) := by decide +kernel
theorem dX1_clearStep_14 : decode cX1_clearStep 14 = .ok (.aload_n 0, 1) := by decide +kernel
theorem dX1_clearStep_15 : decode cX1_clearStep 15 = .ok (.iload_n 1, 1) := by decide +kernel
theorem dX1_clearStep_16 : decode cX1_clearStep 16 = .ok (.iconst 2, 1) := by decide +kernel
theorem dX1_clearStep_17 : decode cX1_clearStep 17 = .ok (.iconst 0, 1) := by decide +kernel
theorem dX1_clearStep_18 : decode cX1_clearStep 18 = .ok (.invokevirtual 56, 3) := by decide +kernel
theorem dX1_clearStep_21 : decode cX1_clearStep 21 = .ok (.aload_n 0, 1) := by decide +kernel
theorem dX1_clearStep_22 : decode cX1_clearStep 22 = .ok (.iload_n 1, 1) := by decide +kernel
theorem dX1_clearStep_23 : decode cX1_clearStep 23 = .ok (.iconst 3, 1) := by decide +kernel
theorem dX1_clearStep_24 : decode cX1_clearStep 24 = .ok (.iconst 1, 1) := by decide +kernel
theorem dX1_clearStep_25 : decode cX1_clearStep 25 = .ok (.invokevirtual 56, 3) := by decide +kernel
theorem dX1_clearStep_28 : decode cX1_clearStep 28 = .ok (.return_, 1) := by decide +kernel
theorem dX1_delay_0 : decode cX1_delay 0 = .ok (.iload_n 1, 1) := by decide +kernel
theorem dX1_delay_1 : decode cX1_delay 1 = .ok (.iconst 2, 1) := by decide +kernel
theorem dX1_delay_2 : decode cX1_delay 2 = .ok (.irem, 1) := by decide +kernel
theorem dX1_delay_3 : decode cX1_delay 3 = .ok (.iconst 1, 1) := by decide +kernel
theorem dX1_delay_4 : decode cX1_delay 4 = .ok (.if_icmp .ne 10, 3) := by decide +kernel
theorem dX1_delay_7 : decode cX1_delay 7 = .ok (.aload_n 0, 1) := by decide +kernel
theorem dX1_delay_8 : decode cX1_delay 8 = .ok (.getfield 9, 3) := by decide +kernel
theorem dX1_delay_11 : decode cX1_delay 11 = .ok (.goto 4, 3) := by decide +kernel
theorem dX1_delay_14 : decode cX1_delay 14 = .ok (.iconst 0, 1) := by decide +kernel
theorem dX1_delay_15 : decode cX1_delay 15 = .ok (.ireturn, 1) := by decide +kernel
theorem dX1_roundTicks_0 : decode cX1_roundTicks 0 = .ok (.aload_n 0, 1) := by decide +kernel
theorem dX1_roundTicks_1 : decode cX1_roundTicks 1 = .ok (.getfield 38, 3) := by decide +kernel
theorem dX1_roundTicks_4 : decode cX1_roundTicks 4 = .ok (.aload_n 0, 1) := by decide +kernel
theorem dX1_roundTicks_5 : decode cX1_roundTicks 5 = .ok (.getfield 41, 3) := by decide +kernel
theorem dX1_roundTicks_8 : decode cX1_roundTicks 8 = .ok (.imul, 1) := by decide +kernel
theorem dX1_roundTicks_9 : decode cX1_roundTicks 9 = .ok (.ireturn, 1) := by decide +kernel
theorem dX1_setting_0 : decode cX1_setting 0 = .ok (.iload_n 1, 1) := by decide +kernel
theorem dX1_setting_1 : decode cX1_setting 1 = .ok (.tableswitch 94 0 6 #[43, 48, 53, 58, 63, 68, 81], 43) := by decide +kernel
theorem dX1_setting_44 : decode cX1_setting 44 = .ok (.aload_n 0, 1) := by decide +kernel
theorem dX1_setting_45 : decode cX1_setting 45 = .ok (.getfield 38, 3) := by decide +kernel
theorem dX1_setting_48 : decode cX1_setting 48 = .ok (.ireturn, 1) := by decide +kernel
theorem dX1_setting_49 : decode cX1_setting 49 = .ok (.aload_n 0, 1) := by decide +kernel
theorem dX1_setting_50 : decode cX1_setting 50 = .ok (.getfield 41, 3) := by decide +kernel
theorem dX1_setting_53 : decode cX1_setting 53 = .ok (.ireturn, 1) := by decide +kernel
theorem dX1_setting_54 : decode cX1_setting 54 = .ok (.aload_n 0, 1) := by decide +kernel
theorem dX1_setting_55 : decode cX1_setting 55 = .ok (.getfield 9, 3) := by decide +kernel
theorem dX1_setting_58 : decode cX1_setting 58 = .ok (.ireturn, 1) := by decide +kernel
theorem dX1_setting_59 : decode cX1_setting 59 = .ok (.aload_n 0, 1) := by decide +kernel
theorem dX1_setting_60 : decode cX1_setting 60 = .ok (.getfield 15, 3) := by decide +kernel
theorem dX1_setting_63 : decode cX1_setting 63 = .ok (.ireturn, 1) := by decide +kernel
theorem dX1_setting_64 : decode cX1_setting 64 = .ok (.aload_n 0, 1) := by decide +kernel
theorem dX1_setting_65 : decode cX1_setting 65 = .ok (.getfield 18, 3) := by decide +kernel
theorem dX1_setting_68 : decode cX1_setting 68 = .ok (.ireturn, 1) := by decide +kernel
theorem dX1_setting_69 : decode cX1_setting 69 = .ok (.aload_n 0, 1) := by decide +kernel
theorem dX1_setting_70 : decode cX1_setting 70 = .ok (.getfield 21, 3) := by decide +kernel
theorem dX1_setting_73 : decode cX1_setting 73 = .ok (.ifCond .eq 7, 3) := by decide +kernel
theorem dX1_setting_76 : decode cX1_setting 76 = .ok (.iconst 1, 1) := by decide +kernel
theorem dX1_setting_77 : decode cX1_setting 77 = .ok (.goto 4, 3) := by decide +kernel
theorem dX1_setting_80 : decode cX1_setting 80 = .ok (.iconst 0, 1) := by decide +kernel
theorem dX1_setting_81 : decode cX1_setting 81 = .ok (.ireturn, 1) := by decide +kernel
theorem dX1_setting_82 : decode cX1_setting 82 = .ok (.aload_n 0, 1) := by decide +kernel
theorem dX1_setting_83 : decode cX1_setting 83 = .ok (.getfield 25, 3) := by decide +kernel
theorem dX1_setting_86 : decode cX1_setting 86 = .ok (.ifCond .eq 7, 3) := by decide +kernel
theorem dX1_setting_89 : decode cX1_setting 89 = .ok (.iconst 1, 1) := by decide +kernel
theorem dX1_setting_90 : decode cX1_setting 90 = .ok (.goto 4, 3) := by decide +kernel
theorem dX1_setting_93 : decode cX1_setting 93 = .ok (.iconst 0, 1) := by decide +kernel
theorem dX1_setting_94 : decode cX1_setting 94 = .ok (.ireturn, 1) := by decide +kernel
theorem dX1_setting_95 : decode cX1_setting 95 = .ok (.aload_n 0, 1) := by decide +kernel
theorem dX1_setting_96 : decode cX1_setting 96 = .ok (.getfield 28, 3) := by decide +kernel
theorem dX1_setting_99 : decode cX1_setting 99 = .ok (.ifCond .eq 7, 3) := by decide +kernel
theorem dX1_setting_102 : decode cX1_setting 102 = .ok (.iconst 1, 1) := by decide +kernel
theorem dX1_setting_103 : decode cX1_setting 103 = .ok (.goto 4, 3) := by decide +kernel
theorem dX1_setting_106 : decode cX1_setting 106 = .ok (.iconst 0, 1) := by decide +kernel
theorem dX1_setting_107 : decode cX1_setting 107 = .ok (.ireturn, 1) := by decide +kernel
theorem dX1_switchTo_0 : decode cX1_switchTo 0 = .ok (.iload_n 1, 1) := by decide +kernel
theorem dX1_switchTo_1 : decode cX1_switchTo 1 = .ok (.lookupswitch 43 #[(5, 27), (6, 35)], 27) := by decide +kernel
theorem dX1_switchTo_28 : decode cX1_switchTo 28 = .ok (.aload_n 0, 1) := by decide +kernel
theorem dX1_switchTo_29 : decode cX1_switchTo 29 = .ok (.iload_n 2, 1) := by decide +kernel
theorem dX1_switchTo_30 : decode cX1_switchTo 30 = .ok (.putfield 21, 3) := by decide +kernel
theorem dX1_switchTo_33 : decode cX1_switchTo 33 = .ok (.goto 16, 3) := by decide +kernel
theorem dX1_switchTo_36 : decode cX1_switchTo 36 = .ok (.aload_n 0, 1) := by decide +kernel
theorem dX1_switchTo_37 : decode cX1_switchTo 37 = .ok (.iload_n 2, 1) := by decide +kernel
theorem dX1_switchTo_38 : decode cX1_switchTo 38 = .ok (.putfield 25, 3) := by decide +kernel
theorem dX1_switchTo_41 : decode cX1_switchTo 41 = .ok (.goto 8, 3) := by decide +kernel
theorem dX1_switchTo_44 : decode cX1_switchTo 44 = .ok (.aload_n 0, 1) := by decide +kernel
theorem dX1_switchTo_45 : decode cX1_switchTo 45 = .ok (.iload_n 2, 1) := by decide +kernel
theorem dX1_switchTo_46 : decode cX1_switchTo 46 = .ok (.putfield 28, 3) := by decide +kernel
theorem dX1_switchTo_49 : decode cX1_switchTo 49 = .ok (.return_, 1) := by decide +kernel
theorem dX1_spreadHits_0 : decode cX1_spreadHits 0 = .ok (.iconst (-1), 1) := by decide +kernel
theorem dX1_spreadHits_1 : decode cX1_spreadHits 1 = .ok (.istore_n 3, 1) := by decide +kernel
theorem dX1_spreadHits_2 : decode cX1_spreadHits 2 = .ok (.iconst 0, 1) := by decide +kernel
theorem dX1_spreadHits_3 : decode cX1_spreadHits 3 = .ok (.istore 4, 2) := by decide +kernel
theorem dX1_spreadHits_5 : decode cX1_spreadHits 5 = .ok (.iload 4, 2) := by decide +kernel
theorem dX1_spreadHits_7 : decode cX1_spreadHits 7 = .ok (.aload_n 0, 1) := by decide +kernel
theorem dX1_spreadHits_8 : decode cX1_spreadHits 8 = .ok (.getfield 38, 3) := by decide +kernel
theorem dX1_spreadHits_11 : decode cX1_spreadHits 11 = .ok (.if_icmp .ge 55, 3) := by decide +kernel
theorem dX1_spreadHits_14 : decode cX1_spreadHits 14 = .ok (.iload 4, 2) := by decide +kernel
theorem dX1_spreadHits_16 : decode cX1_spreadHits 16 = .ok (.iload_n 1, 1) := by decide +kernel
theorem dX1_spreadHits_17 : decode cX1_spreadHits 17 = .ok (.imul, 1) := by decide +kernel
theorem dX1_spreadHits_18 : decode cX1_spreadHits 18 = .ok (.aload_n 0, 1) := by decide +kernel
theorem dX1_spreadHits_19 : decode cX1_spreadHits 19 = .ok (.getfield 38, 3) := by decide +kernel
theorem dX1_spreadHits_22 : decode cX1_spreadHits 22 = .ok (.invokestatic 60, 3) := by decide +kernel
theorem dX1_spreadHits_25 : decode cX1_spreadHits 25 = .ok (.iload_n 1, 1) := by decide +kernel
theorem dX1_spreadHits_26 : decode cX1_spreadHits 26 = .ok (.if_icmp .ge 7, 3) := by decide +kernel
theorem dX1_spreadHits_29 : decode cX1_spreadHits 29 = .ok (.iconst 1, 1) := by decide +kernel
theorem dX1_spreadHits_30 : decode cX1_spreadHits 30 = .ok (.goto 4, 3) := by decide +kernel
theorem dX1_spreadHits_33 : decode cX1_spreadHits 33 = .ok (.iconst 0, 1) := by decide +kernel
theorem dX1_spreadHits_34 : decode cX1_spreadHits 34 = .ok (.istore 5, 2) := by decide +kernel
theorem dX1_spreadHits_36 : decode cX1_spreadHits 36 = .ok (.aload_n 0, 1) := by decide +kernel
theorem dX1_spreadHits_37 : decode cX1_spreadHits 37 = .ok (.iload 4, 2) := by decide +kernel
theorem dX1_spreadHits_39 : decode cX1_spreadHits 39 = .ok (.iload 5, 2) := by decide +kernel
theorem dX1_spreadHits_41 : decode cX1_spreadHits 41 = .ok (.ifCond .eq 7, 3) := by decide +kernel
theorem dX1_spreadHits_44 : decode cX1_spreadHits 44 = .ok (.iload_n 2, 1) := by decide +kernel
theorem dX1_spreadHits_45 : decode cX1_spreadHits 45 = .ok (.goto 4, 3) := by decide +kernel
theorem dX1_spreadHits_48 : decode cX1_spreadHits 48 = .ok (.iconst 0, 1) := by decide +kernel
theorem dX1_spreadHits_49 : decode cX1_spreadHits 49 = .ok (.invokevirtual 44, 3) := by decide +kernel
theorem dX1_spreadHits_52 : decode cX1_spreadHits 52 = .ok (.iload 5, 2) := by decide +kernel
theorem dX1_spreadHits_54 : decode cX1_spreadHits 54 = .ok (.ifCond .eq 6, 3) := by decide +kernel
theorem dX1_spreadHits_57 : decode cX1_spreadHits 57 = .ok (.iload 4, 2) := by decide +kernel
theorem dX1_spreadHits_59 : decode cX1_spreadHits 59 = .ok (.istore_n 3, 1) := by decide +kernel
theorem dX1_spreadHits_60 : decode cX1_spreadHits 60 = .ok (.iinc 4 1, 3) := by decide +kernel
theorem dX1_spreadHits_63 : decode cX1_spreadHits 63 = .ok (.goto (-58), 3) := by decide +kernel
theorem dX1_spreadHits_66 : decode cX1_spreadHits 66 = .ok (.iload_n 3, 1) := by decide +kernel
theorem dX1_spreadHits_67 : decode cX1_spreadHits 67 = .ok (.ireturn, 1) := by decide +kernel
theorem dX1_moveSteps_0 : decode cX1_moveSteps 0 = .ok (.aload_n 0, 1) := by decide +kernel
theorem dX1_moveSteps_1 : decode cX1_moveSteps 1 = .ok (.getfield 31, 3) := by decide +kernel
theorem dX1_moveSteps_4 : decode cX1_moveSteps 4 = .ok (.iconst 0, 1) := by decide +kernel
theorem dX1_moveSteps_5 : decode cX1_moveSteps 5 = .ok (.aload_n 0, 1) := by decide +kernel
theorem dX1_moveSteps_6 : decode cX1_moveSteps 6 = .ok (.getfield 35, 3) := by decide +kernel
theorem dX1_moveSteps_9 : decode cX1_moveSteps 9 = .ok (.iconst 0, 1) := by decide +kernel
theorem dX1_moveSteps_10 : decode cX1_moveSteps 10 = .ok (.sipush 128, 3) := by decide +kernel
theorem dX1_moveSteps_13 : decode cX1_moveSteps 13 = .ok (.invokestatic 64, 3) := by decide +kernel
theorem dX1_moveSteps_16 : decode cX1_moveSteps 16 = .ok (.iconst 0, 1) := by decide +kernel
theorem dX1_moveSteps_17 : decode cX1_moveSteps 17 = .ok (.istore_n 2, 1) := by decide +kernel
theorem dX1_moveSteps_18 : decode cX1_moveSteps 18 = .ok (.iload_n 2, 1) := by decide +kernel
theorem dX1_moveSteps_19 : decode cX1_moveSteps 19 = .ok (.aload_n 0, 1) := by decide +kernel
theorem dX1_moveSteps_20 : decode cX1_moveSteps 20 = .ok (.getfield 38, 3) := by decide +kernel
theorem dX1_moveSteps_23 : decode cX1_moveSteps 23 = .ok (.if_icmp .ge 28, 3) := by decide +kernel
theorem dX1_moveSteps_26 : decode cX1_moveSteps 26 = .ok (.aload_n 0, 1) := by decide +kernel
theorem dX1_moveSteps_27 : decode cX1_moveSteps 27 = .ok (.aload_n 0, 1) := by decide +kernel
theorem dX1_moveSteps_28 : decode cX1_moveSteps 28 = .ok (.getfield 35, 3) := by decide +kernel
theorem dX1_moveSteps_31 : decode cX1_moveSteps 31 = .ok (.iload_n 2, 1) := by decide +kernel
theorem dX1_moveSteps_32 : decode cX1_moveSteps 32 = .ok (.iload_n 2, 1) := by decide +kernel
theorem dX1_moveSteps_33 : decode cX1_moveSteps 33 = .ok (.iload_n 1, 1) := by decide +kernel
theorem dX1_moveSteps_34 : decode cX1_moveSteps 34 = .ok (.iadd, 1) := by decide +kernel
theorem dX1_moveSteps_35 : decode cX1_moveSteps 35 = .ok (.aload_n 0, 1) := by decide +kernel
theorem dX1_moveSteps_36 : decode cX1_moveSteps 36 = .ok (.getfield 38, 3) := by decide +kernel
theorem dX1_moveSteps_39 : decode cX1_moveSteps 39 = .ok (.invokestatic 60, 3) := by decide +kernel
theorem dX1_moveSteps_42 : decode cX1_moveSteps 42 = .ok (.invokevirtual 70, 3) := by decide +kernel
theorem dX1_moveSteps_45 : decode cX1_moveSteps 45 = .ok (.iinc 2 1, 3) := by decide +kernel
theorem dX1_moveSteps_48 : decode cX1_moveSteps 48 = .ok (.goto (-30), 3) := by decide +kernel
theorem dX1_moveSteps_51 : decode cX1_moveSteps 51 = .ok (.return_, 1) := by decide +kernel
theorem dX1_resize_0 : decode cX1_resize 0 = .ok (.aload_n 0, 1) := by decide +kernel
theorem dX1_resize_1 : decode cX1_resize 1 = .ok (.getfield 38, 3) := by decide +kernel
theorem dX1_resize_4 : decode cX1_resize 4 = .ok (.istore_n 2, 1) := by decide +kernel
theorem dX1_resize_5 : decode cX1_resize 5 = .ok (.iload_n 2, 1) := by decide +kernel
theorem dX1_resize_6 : decode cX1_resize 6 = .ok (.iload_n 1, 1) := by decide +kernel
theorem dX1_resize_7 : decode cX1_resize 7 = .ok (.if_icmp .ge 24, 3) := by decide +kernel
theorem dX1_resize_10 : decode cX1_resize 10 = .ok (.aload_n 0, 1) := by decide +kernel
theorem dX1_resize_11 : decode cX1_resize 11 = .ok (.aload_n 0, 1) := by decide +kernel
theorem dX1_resize_12 : decode cX1_resize 12 = .ok (.getfield 31, 3) := by decide +kernel
theorem dX1_resize_15 : decode cX1_resize 15 = .ok (.iload_n 2, 1) := by decide +kernel
theorem dX1_resize_16 : decode cX1_resize 16 = .ok (.aload_n 0, 1) := by decide +kernel
theorem dX1_resize_17 : decode cX1_resize 17 = .ok (.getfield 38, 3) := by decide +kernel
theorem dX1_resize_20 : decode cX1_resize 20 = .ok (.isub, 1) := by decide +kernel
theorem dX1_resize_21 : decode cX1_resize 21 = .ok (.iload_n 2, 1) := by decide +kernel
theorem dX1_resize_22 : decode cX1_resize 22 = .ok (.invokevirtual 70, 3) := by decide +kernel
theorem dX1_resize_25 : decode cX1_resize 25 = .ok (.iinc 2 1, 3) := by decide +kernel
theorem dX1_resize_28 : decode cX1_resize 28 = .ok (.goto (-23), 3) := by decide +kernel
theorem dX1_resize_31 : decode cX1_resize 31 = .ok (.aload_n 0, 1) := by decide +kernel
theorem dX1_resize_32 : decode cX1_resize 32 = .ok (.iload_n 1, 1) := by decide +kernel
theorem dX1_resize_33 : decode cX1_resize 33 = .ok (.putfield 38, 3) := by decide +kernel
theorem dX1_resize_36 : decode cX1_resize 36 = .ok (.return_, 1) := by decide +kernel
theorem dX1_copyStep_0 : decode cX1_copyStep 0 = .ok (.iconst 0, 1) := by decide +kernel
theorem dX1_copyStep_1 : decode cX1_copyStep 1 = .ok (.istore 4, 2) := by decide +kernel
theorem dX1_copyStep_3 : decode cX1_copyStep 3 = .ok (.iload 4, 2) := by decide +kernel
theorem dX1_copyStep_5 : decode cX1_copyStep 5 = .ok (.iconst 4, 1) := by decide +kernel
theorem dX1_copyStep_6 : decode cX1_copyStep 6 = .ok (.if_icmp .ge 26, 3) := by decide +kernel
theorem dX1_copyStep_9 : decode cX1_copyStep 9 = .ok (.aload_n 0, 1) := by decide +kernel
theorem dX1_copyStep_10 : decode cX1_copyStep 10 = .ok (.iload_n 3, 1) := by decide +kernel
theorem dX1_copyStep_11 : decode cX1_copyStep 11 = .ok (.iload 4, 2) := by decide +kernel
theorem dX1_copyStep_13 : decode cX1_copyStep 13 = .ok (.aload_n 1, 1) := by decide +kernel
theorem dX1_copyStep_14 : decode cX1_copyStep 14 = .ok (.iload_n 2, 1) := by decide +kernel
theorem dX1_copyStep_15 : decode cX1_copyStep 15 = .ok (.iconst 4, 1) := by decide +kernel
theorem dX1_copyStep_16 : decode cX1_copyStep 16 = .ok (.imul, 1) := by decide +kernel
theorem dX1_copyStep_17 : decode cX1_copyStep 17 = .ok (.iload 4, 2) := by decide +kernel
theorem dX1_copyStep_19 : decode cX1_copyStep 19 = .ok (.iadd, 1) := by decide +kernel
theorem dX1_copyStep_20 : decode cX1_copyStep 20 = .ok (.invokestatic 48, 3) := by decide +kernel
theorem dX1_copyStep_23 : decode cX1_copyStep 23 = .ok (.invokevirtual 56, 3) := by decide +kernel
theorem dX1_copyStep_26 : decode cX1_copyStep 26 = .ok (.iinc 4 1, 3) := by decide +kernel
theorem dX1_copyStep_29 : decode cX1_copyStep 29 = .ok (.goto (-26), 3) := by decide +kernel
theorem dX1_copyStep_32 : decode cX1_copyStep 32 = .ok (.return_, 1) := by decide +kernel
theorem dX1_stepsWithForce_0 : decode cX1_stepsWithForce 0 = .ok (.iconst 0, 1) := by decide +kernel
theorem dX1_stepsWithForce_1 : decode cX1_stepsWithForce 1 = .ok (.istore_n 1, 1) := by decide +kernel
theorem dX1_stepsWithForce_2 : decode cX1_stepsWithForce 2 = .ok (.iconst 0, 1) := by decide +kernel
theorem dX1_stepsWithForce_3 : decode cX1_stepsWithForce 3 = .ok (.istore_n 2, 1) := by decide +kernel
theorem dX1_stepsWithForce_4 : decode cX1_stepsWithForce 4 = .ok (.iload_n 2, 1) := by decide +kernel
theorem dX1_stepsWithForce_5 : decode cX1_stepsWithForce 5 = .ok (.aload_n 0, 1) := by decide +kernel
theorem dX1_stepsWithForce_6 : decode cX1_stepsWithForce 6 = .ok (.getfield 38, 3) := by decide +kernel
theorem dX1_stepsWithForce_9 : decode cX1_stepsWithForce 9 = .ok (.if_icmp .ge 21, 3) := by decide +kernel
theorem dX1_stepsWithForce_12 : decode cX1_stepsWithForce 12 = .ok (.aload_n 0, 1) := by decide +kernel
theorem dX1_stepsWithForce_13 : decode cX1_stepsWithForce 13 = .ok (.iload_n 2, 1) := by decide +kernel
theorem dX1_stepsWithForce_14 : decode cX1_stepsWithForce 14 = .ok (.iconst 0, 1) := by decide +kernel
theorem dX1_stepsWithForce_15 : decode cX1_stepsWithForce 15 = .ok (.invokevirtual 73, 3) := by decide +kernel
theorem dX1_stepsWithForce_18 : decode cX1_stepsWithForce 18 = .ok (.ifCond .le 6, 3) := by decide +kernel
theorem dX1_stepsWithForce_21 : decode cX1_stepsWithForce 21 = .ok (.iinc 1 1, 3) := by decide +kernel
theorem dX1_stepsWithForce_24 : decode cX1_stepsWithForce 24 = .ok (.iinc 2 1, 3) := by decide +kernel
theorem dX1_stepsWithForce_27 : decode cX1_stepsWithForce 27 = .ok (.goto (-23), 3) := by decide +kernel
theorem dX1_stepsWithForce_30 : decode cX1_stepsWithForce 30 = .ok (.iload_n 1, 1) := by decide +kernel
theorem dX1_stepsWithForce_31 : decode cX1_stepsWithForce 31 = .ok (.ireturn, 1) := by decide +kernel
theorem dX1_nearestStep_0 : decode cX1_nearestStep 0 = .ok (.iload_n 1, 1) := by decide +kernel
theorem dX1_nearestStep_1 : decode cX1_nearestStep 1 = .ok (.aload_n 0, 1) := by decide +kernel
theorem dX1_nearestStep_2 : decode cX1_nearestStep 2 = .ok (.invokevirtual 76, 3) := by decide +kernel
theorem dX1_nearestStep_5 : decode cX1_nearestStep 5 = .ok (.invokestatic 60, 3) := by decide +kernel
theorem dX1_nearestStep_8 : decode cX1_nearestStep 8 = .ok (.istore_n 2, 1) := by decide +kernel
theorem dX1_nearestStep_9 : decode cX1_nearestStep 9 = .ok (.iconst 0, 1) := by decide +kernel
theorem dX1_nearestStep_10 : decode cX1_nearestStep 10 = .ok (.istore_n 3, 1) := by decide +kernel
theorem dX1_nearestStep_11 : decode cX1_nearestStep 11 = .ok (.iload_n 2, 1) := by decide +kernel
theorem dX1_nearestStep_12 : decode cX1_nearestStep 12 = .ok (.aload_n 0, 1) := by decide +kernel
theorem dX1_nearestStep_13 : decode cX1_nearestStep 13 = .ok (.invokevirtual 76, 3) := by decide +kernel
theorem dX1_nearestStep_16 : decode cX1_nearestStep 16 = .ok (.iload_n 2, 1) := by decide +kernel
theorem dX1_nearestStep_17 : decode cX1_nearestStep 17 = .ok (.isub, 1) := by decide +kernel
theorem dX1_nearestStep_18 : decode cX1_nearestStep 18 = .ok (.invokestatic 80, 3) := by decide +kernel
theorem dX1_nearestStep_21 : decode cX1_nearestStep 21 = .ok (.istore 4, 2) := by decide +kernel
theorem dX1_nearestStep_23 : decode cX1_nearestStep 23 = .ok (.iconst 1, 1) := by decide +kernel
theorem dX1_nearestStep_24 : decode cX1_nearestStep 24 = .ok (.istore 5, 2) := by decide +kernel
theorem dX1_nearestStep_26 : decode cX1_nearestStep 26 = .ok (.iload 5, 2) := by decide +kernel
theorem dX1_nearestStep_28 : decode cX1_nearestStep 28 = .ok (.aload_n 0, 1) := by decide +kernel
theorem dX1_nearestStep_29 : decode cX1_nearestStep 29 = .ok (.getfield 38, 3) := by decide +kernel
theorem dX1_nearestStep_32 : decode cX1_nearestStep 32 = .ok (.if_icmp .ge 44, 3) := by decide +kernel
theorem dX1_nearestStep_35 : decode cX1_nearestStep 35 = .ok (.iload_n 2, 1) := by decide +kernel
theorem dX1_nearestStep_36 : decode cX1_nearestStep 36 = .ok (.iload 5, 2) := by decide +kernel
theorem dX1_nearestStep_38 : decode cX1_nearestStep 38 = .ok (.aload_n 0, 1) := by decide +kernel
theorem dX1_nearestStep_39 : decode cX1_nearestStep 39 = .ok (.getfield 41, 3) := by decide +kernel
theorem dX1_nearestStep_42 : decode cX1_nearestStep 42 = .ok (.imul, 1) := by decide +kernel
theorem dX1_nearestStep_43 : decode cX1_nearestStep 43 = .ok (.aload_n 0, 1) := by decide +kernel
theorem dX1_nearestStep_44 : decode cX1_nearestStep 44 = .ok (.iload 5, 2) := by decide +kernel
theorem dX1_nearestStep_46 : decode cX1_nearestStep 46 = .ok (.invokevirtual 85, 3) := by decide +kernel
theorem dX1_nearestStep_49 : decode cX1_nearestStep 49 = .ok (.iadd, 1) := by decide +kernel
theorem dX1_nearestStep_50 : decode cX1_nearestStep 50 = .ok (.isub, 1) := by decide +kernel
theorem dX1_nearestStep_51 : decode cX1_nearestStep 51 = .ok (.invokestatic 89, 3) := by decide +kernel
theorem dX1_nearestStep_54 : decode cX1_nearestStep 54 = .ok (.istore 6, 2) := by decide +kernel
theorem dX1_nearestStep_56 : decode cX1_nearestStep 56 = .ok (.iload 6, 2) := by decide +kernel
theorem dX1_nearestStep_58 : decode cX1_nearestStep 58 = .ok (.iload 4, 2) := by decide +kernel
theorem dX1_nearestStep_60 : decode cX1_nearestStep 60 = .ok (.if_icmp .ge 10, 3) := by decide +kernel
theorem dX1_nearestStep_63 : decode cX1_nearestStep 63 = .ok (.iload 5, 2) := by decide +kernel
theorem dX1_nearestStep_65 : decode cX1_nearestStep 65 = .ok (.istore_n 3, 1) := by decide +kernel
theorem dX1_nearestStep_66 : decode cX1_nearestStep 66 = .ok (.iload 6, 2) := by decide +kernel
theorem dX1_nearestStep_68 : decode cX1_nearestStep 68 = .ok (.istore 4, 2) := by decide +kernel
theorem dX1_nearestStep_70 : decode cX1_nearestStep 70 = .ok (.iinc 5 1, 3) := by decide +kernel
theorem dX1_nearestStep_73 : decode cX1_nearestStep 73 = .ok (.goto (-47), 3) := by decide +kernel
theorem dX1_nearestStep_76 : decode cX1_nearestStep 76 = .ok (.iload_n 3, 1) := by decide +kernel
theorem dX1_nearestStep_77 : decode cX1_nearestStep 77 = .ok (.ireturn, 1) := by decide +kernel
theorem dX1_forceAt_0 : decode cX1_forceAt 0 = .ok (.iload_n 1, 1) := by decide +kernel
theorem dX1_forceAt_1 : decode cX1_forceAt 1 = .ok (.aload_n 0, 1) := by decide +kernel
theorem dX1_forceAt_2 : decode cX1_forceAt 2 = .ok (.invokevirtual 76, 3) := by decide +kernel
theorem dX1_forceAt_5 : decode cX1_forceAt 5 = .ok (.invokestatic 92, 3) := by decide +kernel
theorem dX1_forceAt_8 : decode cX1_forceAt 8 = .ok (.istore_n 2, 1) := by decide +kernel
theorem dX1_forceAt_9 : decode cX1_forceAt 9 = .ok (.iload_n 1, 1) := by decide +kernel
theorem dX1_forceAt_10 : decode cX1_forceAt 10 = .ok (.aload_n 0, 1) := by decide +kernel
theorem dX1_forceAt_11 : decode cX1_forceAt 11 = .ok (.invokevirtual 76, 3) := by decide +kernel
theorem dX1_forceAt_14 : decode cX1_forceAt 14 = .ok (.invokestatic 60, 3) := by decide +kernel
theorem dX1_forceAt_17 : decode cX1_forceAt 17 = .ok (.istore_n 3, 1) := by decide +kernel
theorem dX1_forceAt_18 : decode cX1_forceAt 18 = .ok (.iload_n 3, 1) := by decide +kernel
theorem dX1_forceAt_19 : decode cX1_forceAt 19 = .ok (.aload_n 0, 1) := by decide +kernel
theorem dX1_forceAt_20 : decode cX1_forceAt 20 = .ok (.getfield 41, 3) := by decide +kernel
theorem dX1_forceAt_23 : decode cX1_forceAt 23 = .ok (.invokestatic 92, 3) := by decide +kernel
theorem dX1_forceAt_26 : decode cX1_forceAt 26 = .ok (.istore 4, 2) := by decide +kernel
theorem dX1_forceAt_28 : decode cX1_forceAt 28 = .ok (.iload_n 2, 1) := by decide +kernel
theorem dX1_forceAt_29 : decode cX1_forceAt 29 = .ok (.aload_n 0, 1) := by decide +kernel
theorem dX1_forceAt_30 : decode cX1_forceAt 30 = .ok (.iload 4, 2) := by decide +kernel
theorem dX1_forceAt_32 : decode cX1_forceAt 32 = .ok (.iconst 3, 1) := by decide +kernel
theorem dX1_forceAt_33 : decode cX1_forceAt 33 = .ok (.invokevirtual 73, 3) := by decide +kernel
theorem dX1_forceAt_36 : decode cX1_forceAt 36 = .ok (.invokestatic 60, 3) := by decide +kernel
theorem dX1_forceAt_39 : decode cX1_forceAt 39 = .ok (.aload_n 0, 1) := by decide +kernel
theorem dX1_forceAt_40 : decode cX1_forceAt 40 = .ok (.iload 4, 2) := by decide +kernel
theorem dX1_forceAt_42 : decode cX1_forceAt 42 = .ok (.iconst 2, 1) := by decide +kernel
theorem dX1_forceAt_43 : decode cX1_forceAt 43 = .ok (.invokevirtual 73, 3) := by decide +kernel
theorem dX1_forceAt_46 : decode cX1_forceAt 46 = .ok (.if_icmp .eq 5, 3) := by decide +kernel
theorem dX1_forceAt_49 : decode cX1_forceAt 49 = .ok (.iconst 0, 1) := by decide +kernel
theorem dX1_forceAt_50 : decode cX1_forceAt 50 = .ok (.ireturn, 1) := by decide +kernel
theorem dX1_forceAt_51 : decode cX1_forceAt 51 = .ok (.aload_n 0, 1) := by decide +kernel
theorem dX1_forceAt_52 : decode cX1_forceAt 52 = .ok (.iload 4, 2) := by decide +kernel
theorem dX1_forceAt_54 : decode cX1_forceAt 54 = .ok (.invokevirtual 85, 3) := by decide +kernel
theorem dX1_forceAt_57 : decode cX1_forceAt 57 = .ok (.istore 5, 2) := by decide +kernel
theorem dX1_forceAt_59 : decode cX1_forceAt 59 = .ok (.iload_n 3, 1) := by decide +kernel
theorem dX1_forceAt_60 : decode cX1_forceAt 60 = .ok (.iload 4, 2) := by decide +kernel
theorem dX1_forceAt_62 : decode cX1_forceAt 62 = .ok (.aload_n 0, 1) := by decide +kernel
theorem dX1_forceAt_63 : decode cX1_forceAt 63 = .ok (.getfield 41, 3) := by decide +kernel
theorem dX1_forceAt_66 : decode cX1_forceAt 66 = .ok (.imul, 1) := by decide +kernel
theorem dX1_forceAt_67 : decode cX1_forceAt 67 = .ok (.isub, 1) := by decide +kernel
theorem dX1_forceAt_68 : decode cX1_forceAt 68 = .ok (.iload 5, 2) := by decide +kernel
theorem dX1_forceAt_70 : decode cX1_forceAt 70 = .ok (.isub, 1) := by decide +kernel
theorem dX1_forceAt_71 : decode cX1_forceAt 71 = .ok (.istore 6, 2) := by decide +kernel
theorem dX1_forceAt_73 : decode cX1_forceAt 73 = .ok (.iload 6, 2) := by decide +kernel
theorem dX1_forceAt_75 : decode cX1_forceAt 75 = .ok (.aload_n 0, 1) := by decide +kernel
theorem dX1_forceAt_76 : decode cX1_forceAt 76 = .ok (.getfield 41, 3) := by decide +kernel
theorem dX1_forceAt_79 : decode cX1_forceAt 79 = .ok (.iload 5, 2) := by decide +kernel
theorem dX1_forceAt_81 : decode cX1_forceAt 81 = .ok (.isub, 1) := by decide +kernel
theorem dX1_forceAt_82 : decode cX1_forceAt 82 = .ok (.aload_n 0, 1) := by decide +kernel
theorem dX1_forceAt_83 : decode cX1_forceAt 83 = .ok (.iload 4, 2) := by decide +kernel
theorem dX1_forceAt_85 : decode cX1_forceAt 85 = .ok (.iconst 1, 1) := by decide +kernel
theorem dX1_forceAt_86 : decode cX1_forceAt 86 = .ok (.invokevirtual 73, 3) := by decide +kernel
theorem dX1_forceAt_89 : decode cX1_forceAt 89 = .ok (.invokestatic 95, 3) := by decide +kernel
theorem dX1_forceAt_92 : decode cX1_forceAt 92 = .ok (.istore 7, 2) := by decide +kernel
theorem dX1_forceAt_94 : decode cX1_forceAt 94 = .ok (.iload 7, 2) := by decide +kernel
theorem dX1_forceAt_96 : decode cX1_forceAt 96 = .ok (.ifCond .eq 13, 3) := by decide +kernel
theorem dX1_forceAt_99 : decode cX1_forceAt 99 = .ok (.aload_n 0, 1) := by decide +kernel
theorem dX1_forceAt_100 : decode cX1_forceAt 100 = .ok (.iload 4, 2) := by decide +kernel
theorem dX1_forceAt_102 : decode cX1_forceAt 102 = .ok (.iconst 0, 1) := by decide +kernel
theorem dX1_forceAt_103 : decode cX1_forceAt 103 = .ok (.invokevirtual 73, 3) := by decide +kernel
theorem dX1_forceAt_106 : decode cX1_forceAt 106 = .ok (.goto 4, 3) := by decide +kernel
theorem dX1_forceAt_109 : decode cX1_forceAt 109 = .ok (.iconst 0, 1) := by decide +kernel
theorem dX1_forceAt_110 : decode cX1_forceAt 110 = .ok (.ireturn, 1) := by decide +kernel
theorem dX1_isStroke_0 : decode cX1_isStroke 0 = .ok (.iconst 0, 1) := by decide +kernel
theorem dX1_isStroke_1 : decode cX1_isStroke 1 = .ok (.istore_n 3, 1) := by decide +kernel
theorem dX1_isStroke_2 : decode cX1_isStroke 2 = .ok (.iload_n 3, 1) := by decide +kernel
theorem dX1_isStroke_3 : decode cX1_isStroke 3 = .ok (.iload_n 2, 1) := by decide +kernel
theorem dX1_isStroke_4 : decode cX1_isStroke 4 = .ok (.if_icmp .ge 22, 3) := by decide +kernel
theorem dX1_isStroke_7 : decode cX1_isStroke 7 = .ok (.iload_n 0, 1) := by decide +kernel
theorem dX1_isStroke_8 : decode cX1_isStroke 8 = .ok (.iload_n 3, 1) := by decide +kernel
theorem dX1_isStroke_9 : decode cX1_isStroke 9 = .ok (.iload_n 1, 1) := by decide +kernel
theorem dX1_isStroke_10 : decode cX1_isStroke 10 = .ok (.imul, 1) := by decide +kernel
theorem dX1_isStroke_11 : decode cX1_isStroke 11 = .ok (.iload_n 2, 1) := by decide +kernel
theorem dX1_isStroke_12 : decode cX1_isStroke 12 = .ok (.invokestatic 92, 3) := by decide +kernel
theorem dX1_isStroke_15 : decode cX1_isStroke 15 = .ok (.if_icmp .ne 5, 3) := by decide +kernel
theorem dX1_isStroke_18 : decode cX1_isStroke 18 = .ok (.iconst 1, 1) := by decide +kernel
theorem dX1_isStroke_19 : decode cX1_isStroke 19 = .ok (.ireturn, 1) := by decide +kernel
theorem dX1_isStroke_20 : decode cX1_isStroke 20 = .ok (.iinc 3 1, 3) := by decide +kernel
theorem dX1_isStroke_23 : decode cX1_isStroke 23 = .ok (.goto (-21), 3) := by decide +kernel
theorem dX1_isStroke_26 : decode cX1_isStroke 26 = .ok (.iconst 0, 1) := by decide +kernel
theorem dX1_isStroke_27 : decode cX1_isStroke 27 = .ok (.ireturn, 1) := by decide +kernel
theorem dX1_roundsOfTurns_0 : decode cX1_roundsOfTurns 0 = .ok (.lconst 1, 1) := by decide +kernel
theorem dX1_roundsOfTurns_1 : decode cX1_roundsOfTurns 1 = .ok (.lstore_n 1, 1) := by decide +kernel
theorem dX1_roundsOfTurns_2 : decode cX1_roundsOfTurns 2 = .ok (.iconst 0, 1) := by decide +kernel
theorem dX1_roundsOfTurns_3 : decode cX1_roundsOfTurns 3 = .ok (.istore_n 3, 1) := by decide +kernel
theorem dX1_roundsOfTurns_4 : decode cX1_roundsOfTurns 4 = .ok (.iload_n 3, 1) := by decide +kernel
theorem dX1_roundsOfTurns_5 : decode cX1_roundsOfTurns 5 = .ok (.aload_n 0, 1) := by decide +kernel
theorem dX1_roundsOfTurns_6 : decode cX1_roundsOfTurns 6 = .ok (.getfield 38, 3) := by decide +kernel
theorem dX1_roundsOfTurns_9 : decode cX1_roundsOfTurns 9 = .ok (.if_icmp .ge 30, 3) := by decide +kernel
theorem dX1_roundsOfTurns_12 : decode cX1_roundsOfTurns 12 = .ok (.aload_n 0, 1) := by decide +kernel
theorem dX1_roundsOfTurns_13 : decode cX1_roundsOfTurns 13 = .ok (.iload_n 3, 1) := by decide +kernel
theorem dX1_roundsOfTurns_14 : decode cX1_roundsOfTurns 14 = .ok (.iconst 0, 1) := by decide +kernel
theorem dX1_roundsOfTurns_15 : decode cX1_roundsOfTurns 15 = .ok (.invokevirtual 73, 3) := by decide +kernel
theorem dX1_roundsOfTurns_18 : decode cX1_roundsOfTurns 18 = .ok (.ifCond .le 15, 3) := by decide +kernel
theorem dX1_roundsOfTurns_21 : decode cX1_roundsOfTurns 21 = .ok (.lload_n 1, 1) := by decide +kernel
theorem dX1_roundsOfTurns_22 : decode cX1_roundsOfTurns 22 = .ok (.aload_n 0, 1) := by decide +kernel
theorem dX1_roundsOfTurns_23 : decode cX1_roundsOfTurns 23 = .ok (.iload_n 3, 1) := by decide +kernel
theorem dX1_roundsOfTurns_24 : decode cX1_roundsOfTurns 24 = .ok (.iconst 3, 1) := by decide +kernel
theorem dX1_roundsOfTurns_25 : decode cX1_roundsOfTurns 25 = .ok (.invokevirtual 73, 3) := by decide +kernel
theorem dX1_roundsOfTurns_28 : decode cX1_roundsOfTurns 28 = .ok (.i2l, 1) := by decide +kernel
theorem dX1_roundsOfTurns_29 : decode cX1_roundsOfTurns 29 = .ok (.invokestatic 99, 3) := by decide +kernel
theorem dX1_roundsOfTurns_32 : decode cX1_roundsOfTurns 32 = .ok (.lstore_n 1, 1) := by decide +kernel
theorem dX1_roundsOfTurns_33 : decode cX1_roundsOfTurns 33 = .ok (.iinc 3 1, 3) := by decide +kernel
theorem dX1_roundsOfTurns_36 : decode cX1_roundsOfTurns 36 = .ok (.goto (-32), 3) := by decide +kernel
theorem dX1_roundsOfTurns_39 : decode cX1_roundsOfTurns 39 = .ok (.lload_n 1, 1) := by decide +kernel
theorem dX1_roundsOfTurns_40 : decode cX1_roundsOfTurns 40 = .ok (.l2i, 1) := by decide +kernel
theorem dX1_roundsOfTurns_41 : decode cX1_roundsOfTurns 41 = .ok (.ireturn, 1) := by decide +kernel
theorem dX1_strokesPerRound_0 : decode cX1_strokesPerRound 0 = .ok (.dconst 0, 1) := by decide +kernel
theorem dX1_strokesPerRound_1 : decode cX1_strokesPerRound 1 = .ok (.dstore_n 1, 1) := by decide +kernel
theorem dX1_strokesPerRound_2 : decode cX1_strokesPerRound 2 = .ok (.iconst 0, 1) := by decide +kernel
theorem dX1_strokesPerRound_3 : decode cX1_strokesPerRound 3 = .ok (.istore_n 3, 1) := by decide +kernel
theorem dX1_strokesPerRound_4 : decode cX1_strokesPerRound 4 = .ok (.iload_n 3, 1) := by decide +kernel
theorem dX1_strokesPerRound_5 : decode cX1_strokesPerRound 5 = .ok (.aload_n 0, 1) := by decide +kernel
theorem dX1_strokesPerRound_6 : decode cX1_strokesPerRound 6 = .ok (.getfield 38, 3) := by decide +kernel
theorem dX1_strokesPerRound_9 : decode cX1_strokesPerRound 9 = .ok (.if_icmp .ge 45, 3) := by decide +kernel
theorem dX1_strokesPerRound_12 : decode cX1_strokesPerRound 12 = .ok (.aload_n 0, 1) := by decide +kernel
theorem dX1_strokesPerRound_13 : decode cX1_strokesPerRound 13 = .ok (.iload_n 3, 1) := by decide +kernel
theorem dX1_strokesPerRound_14 : decode cX1_strokesPerRound 14 = .ok (.iconst 3, 1) := by decide +kernel
theorem dX1_strokesPerRound_15 : decode cX1_strokesPerRound 15 = .ok (.invokevirtual 73, 3) := by decide +kernel
theorem dX1_strokesPerRound_18 : decode cX1_strokesPerRound 18 = .ok (.istore 4, 2) := by decide +kernel
theorem dX1_strokesPerRound_20 : decode cX1_strokesPerRound 20 = .ok (.aload_n 0, 1) := by decide +kernel
theorem dX1_strokesPerRound_21 : decode cX1_strokesPerRound 21 = .ok (.iload_n 3, 1) := by decide +kernel
theorem dX1_strokesPerRound_22 : decode cX1_strokesPerRound 22 = .ok (.iconst 0, 1) := by decide +kernel
theorem dX1_strokesPerRound_23 : decode cX1_strokesPerRound 23 = .ok (.invokevirtual 73, 3) := by decide +kernel
theorem dX1_strokesPerRound_26 : decode cX1_strokesPerRound 26 = .ok (.ifCond .le 22, 3) := by decide +kernel
theorem dX1_strokesPerRound_29 : decode cX1_strokesPerRound 29 = .ok (.iload 4, 2) := by decide +kernel
theorem dX1_strokesPerRound_31 : decode cX1_strokesPerRound 31 = .ok (.ifCond .le 17, 3) := by decide +kernel
theorem dX1_strokesPerRound_34 : decode cX1_strokesPerRound 34 = .ok (.dload_n 1, 1) := by decide +kernel
theorem dX1_strokesPerRound_35 : decode cX1_strokesPerRound 35 = .ok (.aload_n 0, 1) := by decide +kernel
theorem dX1_strokesPerRound_36 : decode cX1_strokesPerRound 36 = .ok (.iload_n 3, 1) := by decide +kernel
theorem dX1_strokesPerRound_37 : decode cX1_strokesPerRound 37 = .ok (.iconst 1, 1) := by decide +kernel
theorem dX1_strokesPerRound_38 : decode cX1_strokesPerRound 38 = .ok (.invokevirtual 73, 3) := by decide +kernel
theorem dX1_strokesPerRound_41 : decode cX1_strokesPerRound 41 = .ok (.i2d, 1) := by decide +kernel
theorem dX1_strokesPerRound_42 : decode cX1_strokesPerRound 42 = .ok (.iload 4, 2) := by decide +kernel
theorem dX1_strokesPerRound_44 : decode cX1_strokesPerRound 44 = .ok (.i2d, 1) := by decide +kernel
theorem dX1_strokesPerRound_45 : decode cX1_strokesPerRound 45 = .ok (.ddiv, 1) := by decide +kernel
theorem dX1_strokesPerRound_46 : decode cX1_strokesPerRound 46 = .ok (.dadd, 1) := by decide +kernel
theorem dX1_strokesPerRound_47 : decode cX1_strokesPerRound 47 = .ok (.dstore_n 1, 1) := by decide +kernel
theorem dX1_strokesPerRound_48 : decode cX1_strokesPerRound 48 = .ok (.iinc 3 1, 3) := by decide +kernel
theorem dX1_strokesPerRound_51 : decode cX1_strokesPerRound 51 = .ok (.goto (-47), 3) := by decide +kernel
theorem dX1_strokesPerRound_54 : decode cX1_strokesPerRound 54 = .ok (.dload_n 1, 1) := by decide +kernel
theorem dX1_strokesPerRound_55 : decode cX1_strokesPerRound 55 = .ok (.dreturn, 1) := by decide +kernel
theorem dX1_mixInto_0 : decode cX1_mixInto 0 = .ok (.lload_n 1, 1) := by decide +kernel
theorem dX1_mixInto_1 : decode cX1_mixInto 1 = .ok (.lstore_n 3, 1) := by decide +kernel
theorem dX1_mixInto_2 : decode cX1_mixInto 2 = .ok (.iconst 0, 1) := by decide +kernel
theorem dX1_mixInto_3 : decode cX1_mixInto 3 = .ok (.istore 5, 2) := by decide +kernel
theorem dX1_mixInto_5 : decode cX1_mixInto 5 = .ok (.iload 5, 2) := by decide +kernel
theorem dX1_mixInto_7 : decode cX1_mixInto 7 = .ok (.bipush 7, 2) := by decide +kernel
theorem dX1_mixInto_9 : decode cX1_mixInto 9 = .ok (.if_icmp .gt 21, 3) := by decide +kernel
theorem dX1_mixInto_12 : decode cX1_mixInto 12 = .ok (.lload_n 3, 1) := by decide +kernel
theorem dX1_mixInto_13 : decode cX1_mixInto 13 = .ok (.aload_n 0, 1) := by decide +kernel
theorem dX1_mixInto_14 : decode cX1_mixInto 14 = .ok (.iload 5, 2) := by decide +kernel
theorem dX1_mixInto_16 : decode cX1_mixInto 16 = .ok (.invokevirtual 103, 3) := by decide +kernel
theorem dX1_mixInto_19 : decode cX1_mixInto 19 = .ok (.i2l, 1) := by decide +kernel
theorem dX1_mixInto_20 : decode cX1_mixInto 20 = .ok (.invokestatic 106, 3) := by decide +kernel
theorem dX1_mixInto_23 : decode cX1_mixInto 23 = .ok (.lstore_n 3, 1) := by decide +kernel
theorem dX1_mixInto_24 : decode cX1_mixInto 24 = .ok (.iinc 5 1, 3) := by decide +kernel
theorem dX1_mixInto_27 : decode cX1_mixInto 27 = .ok (.goto (-22), 3) := by decide +kernel
theorem dX1_mixInto_30 : decode cX1_mixInto 30 = .ok (.iconst 0, 1) := by decide +kernel
theorem dX1_mixInto_31 : decode cX1_mixInto 31 = .ok (.istore 5, 2) := by decide +kernel
theorem dX1_mixInto_33 : decode cX1_mixInto 33 = .ok (.iload 5, 2) := by decide +kernel
theorem dX1_mixInto_35 : decode cX1_mixInto 35 = .ok (.aload_n 0, 1) := by decide +kernel
theorem dX1_mixInto_36 : decode cX1_mixInto 36 = .ok (.getfield 38, 3) := by decide +kernel
theorem dX1_mixInto_39 : decode cX1_mixInto 39 = .ok (.if_icmp .ge 38, 3) := by decide +kernel
theorem dX1_mixInto_42 : decode cX1_mixInto 42 = .ok (.iconst 0, 1) := by decide +kernel
theorem dX1_mixInto_43 : decode cX1_mixInto 43 = .ok (.istore 6, 2) := by decide +kernel
theorem dX1_mixInto_45 : decode cX1_mixInto 45 = .ok (.iload 6, 2) := by decide +kernel
theorem dX1_mixInto_47 : decode cX1_mixInto 47 = .ok (.iconst 4, 1) := by decide +kernel
theorem dX1_mixInto_48 : decode cX1_mixInto 48 = .ok (.if_icmp .ge 23, 3) := by decide +kernel
theorem dX1_mixInto_51 : decode cX1_mixInto 51 = .ok (.lload_n 3, 1) := by decide +kernel
theorem dX1_mixInto_52 : decode cX1_mixInto 52 = .ok (.aload_n 0, 1) := by decide +kernel
theorem dX1_mixInto_53 : decode cX1_mixInto 53 = .ok (.iload 5, 2) := by decide +kernel
theorem dX1_mixInto_55 : decode cX1_mixInto 55 = .ok (.iload 6, 2) := by decide +kernel
theorem dX1_mixInto_57 : decode cX1_mixInto 57 = .ok (.invokevirtual 73, 3) := by decide +kernel
theorem dX1_mixInto_60 : decode cX1_mixInto 60 = .ok (.i2l, 1) := by decide +kernel
theorem dX1_mixInto_61 : decode cX1_mixInto 61 = .ok (.invokestatic 106, 3) := by decide +kernel
theorem dX1_mixInto_64 : decode cX1_mixInto 64 = .ok (.lstore_n 3, 1) := by decide +kernel
theorem dX1_mixInto_65 : decode cX1_mixInto 65 = .ok (.iinc 6 1, 3) := by decide +kernel
theorem dX1_mixInto_68 : decode cX1_mixInto 68 = .ok (.goto (-23), 3) := by decide +kernel
theorem dX1_mixInto_71 : decode cX1_mixInto 71 = .ok (.iinc 5 1, 3) := by decide +kernel
theorem dX1_mixInto_74 : decode cX1_mixInto 74 = .ok (.goto (-41), 3) := by decide +kernel
theorem dX1_mixInto_77 : decode cX1_mixInto 77 = .ok (.lload_n 3, 1) := by decide +kernel
theorem dX1_mixInto_78 : decode cX1_mixInto 78 = .ok (.lreturn, 1) := by decide +kernel
end
section
theorem dX2_init_0 : decode cX2_init 0 = .ok (.aload_n 0, 1) := by decide +kernel
theorem dX2_init_1 : decode cX2_init 1 = .ok (.invokespecial 1, 3) := by decide +kernel
theorem dX2_init_4 : decode cX2_init 4 = .ok (.aload_n 0, 1) := by decide +kernel
theorem dX2_init_5 : decode cX2_init 5 = .ok (.bipush 8, 2) := by decide +kernel
theorem dX2_init_7 : decode cX2_init 7 = .ok (.anewarray 9, 3) := by decide +kernel
theorem dX2_init_10 : decode cX2_init 10 = .ok (.putfield 11, 3) := by decide +kernel
theorem dX2_init_13 : decode cX2_init 13 = .ok (.aload_n 0, 1) := by decide +kernel
theorem dX2_init_14 : decode cX2_init 14 = .ok (.iconst 0, 1) := by decide +kernel
theorem dX2_init_15 : decode cX2_init 15 = .ok (.putfield 15, 3) := by decide +kernel
theorem dX2_init_18 : decode cX2_init 18 = .ok (.aload_n 0, 1) := by decide +kernel
theorem dX2_init_19 : decode cX2_init 19 = .ok (.bipush 12, 2) := by decide +kernel
theorem dX2_init_21 : decode cX2_init 21 = .ok (.anewarray 19, 3) := by decide +kernel
theorem dX2_init_24 : decode cX2_init 24 = .ok (.putfield 21, 3) := by decide +kernel
theorem dX2_init_27 : decode cX2_init 27 = .ok (.aload_n 0, 1) := by decide +kernel
theorem dX2_init_28 : decode cX2_init 28 = .ok (.iconst 0, 1) := by decide +kernel
theorem dX2_init_29 : decode cX2_init 29 = .ok (.putfield 25, 3) := by decide +kernel
theorem dX2_init_32 : decode cX2_init 32 = .ok (.aload_n 0, 1) := by decide +kernel
theorem dX2_init_33 : decode cX2_init 33 = .ok (.bipush 120, 2) := by decide +kernel
theorem dX2_init_35 : decode cX2_init 35 = .ok (.putfield 28, 3) := by decide +kernel
theorem dX2_init_38 : decode cX2_init 38 = .ok (.return_, 1) := by decide +kernel
theorem dX2_addTrack_0 : decode cX2_addTrack 0 = .ok (.iload_n 1, 1) := by decide +kernel
theorem dX2_addTrack_1 : decode cX2_addTrack 1 = .ok (.iconst 1, 1) := by decide +kernel
theorem dX2_addTrack_2 : decode cX2_addTrack 2 = .ok (.bipush 32, 2) := by decide +kernel
theorem dX2_addTrack_4 : decode cX2_addTrack 4 = .ok (.invokestatic 31, 3) := by decide +kernel
theorem dX2_addTrack_7 : decode cX2_addTrack 7 = .ok (.ifCond .eq 17, 3) := by decide +kernel
theorem dX2_addTrack_10 : decode cX2_addTrack 10 = .ok (.iload_n 2, 1) := by decide +kernel
theorem dX2_addTrack_11 : decode cX2_addTrack 11 = .ok (.iconst 1, 1) := by decide +kernel
theorem dX2_addTrack_12 : decode cX2_addTrack 12 = .ok (.bipush 48, 2) := by decide +kernel
theorem dX2_addTrack_14 : decode cX2_addTrack 14 = .ok (.invokestatic 31, 3) := by decide +kernel
theorem dX2_addTrack_17 : decode cX2_addTrack 17 = .ok (.ifCond .eq 7, 3) := by decide +kernel
theorem dX2_addTrack_20 : decode cX2_addTrack 20 = .ok (.iconst 1, 1) := by decide +kernel
theorem dX2_addTrack_21 : decode cX2_addTrack 21 = .ok (.goto 4, 3) := by decide +kernel
theorem dX2_addTrack_24 : decode cX2_addTrack 24 = .ok (.iconst 0, 1) := by decide +kernel
theorem dX2_addTrack_25 : decode cX2_addTrack 25 = .ok (.invokestatic 35, 3) := by decide +kernel
theorem dX2_addTrack_28 : decode cX2_addTrack 28 = .ok (.aload_n 0, 1) := by decide +kernel
theorem dX2_addTrack_29 : decode cX2_addTrack 29 = .ok (.getfield 15, 3) := by decide +kernel
theorem dX2_addTrack_32 : decode cX2_addTrack 32 = .ok (.ifCond .lt 15, 3) := by decide +kernel
theorem dX2_addTrack_35 : decode cX2_addTrack 35 = .ok (.aload_n 0, 1) := by decide +kernel
theorem dX2_addTrack_36 : decode cX2_addTrack 36 = .ok (.getfield 15, 3) := by decide +kernel
theorem dX2_addTrack_39 : decode cX2_addTrack 39 = .ok (.aload_n 0, 1) := by decide +kernel
theorem dX2_addTrack_40 : decode cX2_addTrack 40 = .ok (.getfield 11, 3) := by decide +kernel
theorem dX2_addTrack_43 : decode cX2_addTrack 43 = .ok (.arraylength, 1) := by decide +kernel
theorem dX2_addTrack_44 : decode cX2_addTrack 44 = .ok (.if_icmp .lt 13, 3) := by decide +kernel
theorem dX2_addTrack_47 : decode cX2_addTrack 47 = .ok (.new 39, 3) := by decide +kernel
theorem dX2_addTrack_50 : decode cX2_addTrack 50 = .ok (.dup, 1) := by decide +kernel
theorem dX2_addTrack_51 : decode cX2_addTrack 51 = .ok (.ldc 41, 2) := by decide +kernel
theorem dX2_addTrack_53 : decode cX2_addTrack 53 = .ok (.invokespecial 43, 3) := by decide +kernel
theorem dX2_addTrack_56 : decode cX2_addTrack 56 = .ok (.athrow, 1) := by decide +kernel
theorem dX2_addTrack_57 : decode cX2_addTrack 57 = .ok (.aload_n 0, 1) := by decide +kernel
theorem dX2_addTrack_58 : decode cX2_addTrack 58 = .ok (.getfield 15, 3) := by decide +kernel
theorem dX2_addTrack_61 : decode cX2_addTrack 61 = .ok (.istore_n 3, 1) := by decide +kernel
theorem dX2_addTrack_62 : decode cX2_addTrack 62 = .ok (.aload_n 0, 1) := by decide +kernel
theorem dX2_addTrack_63 : decode cX2_addTrack 63 = .ok (.getfield 11, 3) := by decide +kernel
theorem dX2_addTrack_66 : decode cX2_addTrack 66 = .ok (.iload_n 3, 1) := by decide +kernel
theorem dX2_addTrack_67 : decode cX2_addTrack 67 = .ok (.new 9, 3) := by decide +kernel
theorem dX2_addTrack_70 : decode cX2_addTrack 70 = .ok (.dup, 1) := by decide +kernel
theorem dX2_addTrack_71 : decode cX2_addTrack 71 = .ok (.iload_n 1, 1) := by decide +kernel
theorem dX2_addTrack_72 : decode cX2_addTrack 72 = .ok (.iload_n 2, 1) := by decide +kernel
theorem dX2_addTrack_73 : decode cX2_addTrack 73 = .ok (.invokespecial 46, 3) := by decide +kernel
theorem dX2_addTrack_76 : decode cX2_addTrack 76 = .ok (.aastore, 1) := by decide +kernel
theorem dX2_addTrack_77 : decode cX2_addTrack 77 = .ok (.aload_n 0, 1) := by decide +kernel
theorem dX2_addTrack_78 : decode cX2_addTrack 78 = .ok (.iload_n 3, 1) := by decide +kernel
theorem dX2_addTrack_79 : decode cX2_addTrack 79 = .ok (.iconst 1, 1) := by decide +kernel
theorem dX2_addTrack_80 : decode cX2_addTrack 80 = .ok (.iadd, 1) := by decide +kernel
theorem dX2_addTrack_81 : decode cX2_addTrack 81 = .ok (.putfield 15, 3) := by decide +kernel
theorem dX2_addTrack_84 : decode cX2_addTrack 84 = .ok (.iload_n 3, 1) := by decide +kernel
theorem dX2_addTrack_85 : decode cX2_addTrack 85 = .ok (.ireturn, 1) := by decide +kernel
theorem dX2_set_0 : decode cX2_set 0 = .ok (.aload_n 0, 1) := by decide +kernel
theorem dX2_set_1 : decode cX2_set 1 = .ok (.iload_n 1, 1) := by decide +kernel
theorem dX2_set_2 : decode cX2_set 2 = .ok (.iload_n 2, 1) := by decide +kernel
theorem dX2_set_3 : decode cX2_set 3 = .ok (.invokevirtual 49, 3) := by decide +kernel
theorem dX2_set_6 : decode cX2_set 6 = .ok (.astore 5, 2) := by decide +kernel
theorem dX2_set_8 : decode cX2_set 8 = .ok (.iload_n 3, 1) := by decide +kernel
theorem dX2_set_9 : decode cX2_set 9 = .ok (.iconst 0, 1) := by decide +kernel
theorem dX2_set_10 : decode cX2_set 10 = .ok (.bipush 127, 2) := by decide +kernel
theorem dX2_set_12 : decode cX2_set 12 = .ok (.invokestatic 31, 3) := by decide +kernel
theorem dX2_set_15 : decode cX2_set 15 = .ok (.ifCond .eq 17, 3) := by decide +kernel
theorem dX2_set_18 : decode cX2_set 18 = .ok (.iload 4, 2) := by decide +kernel
theorem dX2_set_20 : decode cX2_set 20 = .ok (.iconst 1, 1) := by decide +kernel
theorem dX2_set_21 : decode cX2_set 21 = .ok (.iconst 4, 1) := by decide +kernel
theorem dX2_set_22 : decode cX2_set 22 = .ok (.invokestatic 31, 3) := by decide +kernel
theorem dX2_set_25 : decode cX2_set 25 = .ok (.ifCond .eq 7, 3) := by decide +kernel
theorem dX2_set_28 : decode cX2_set 28 = .ok (.iconst 1, 1) := by decide +kernel
theorem dX2_set_29 : decode cX2_set 29 = .ok (.goto 4, 3) := by decide +kernel
theorem dX2_set_32 : decode cX2_set 32 = .ok (.iconst 0, 1) := by decide +kernel
theorem dX2_set_33 : decode cX2_set 33 = .ok (.invokestatic 35, 3) := by decide +kernel
theorem dX2_set_36 : decode cX2_set 36 = .ok (.aload 5, 2) := by decide +kernel
theorem dX2_set_38 : decode cX2_set 38 = .ok (.iload_n 2, 1) := by decide +kernel
theorem dX2_set_39 : decode cX2_set 39 = .ok (.iconst 0, 1) := by decide +kernel
theorem dX2_set_40 : decode cX2_set 40 = .ok (.invokevirtual 53, 3) := by decide +kernel
theorem dX2_set_43 : decode cX2_set 43 = .ok (.istore 6, 2) := by decide +kernel
theorem dX2_set_45 : decode cX2_set 45 = .ok (.aload 5, 2) := by decide +kernel
theorem dX2_set_47 : decode cX2_set 47 = .ok (.iload_n 2, 1) := by decide +kernel
theorem dX2_set_48 : decode cX2_set 48 = .ok (.iconst 0, 1) := by decide +kernel
theorem dX2_set_49 : decode cX2_set 49 = .ok (.iload_n 3, 1) := by decide +kernel
theorem dX2_set_50 : decode cX2_set 50 = .ok (.invokevirtual 57, 3) := by decide +kernel
theorem dX2_set_53 : decode cX2_set 53 = .ok (.aload 5, 2) := by decide +kernel
theorem dX2_set_55 : decode cX2_set 55 = .ok (.iload_n 2, 1) := by decide +kernel
theorem dX2_set_56 : decode cX2_set 56 = .ok (.iconst 1, 1) := by decide +kernel
theorem dX2_set_57 : decode cX2_set 57 = .ok (.iload 4, 2) := by decide +kernel
theorem dX2_set_59 : decode cX2_set 59 = .ok (.invokevirtual 57, 3) := by decide +kernel
theorem dX2_set_62 : decode cX2_set 62 = .ok (.iload 6, 2) := by decide +kernel
theorem dX2_set_64 : decode cX2_set 64 = .ok (.ireturn, 1) := by decide +kernel
theorem dX2_setTurn_0 : decode cX2_setTurn 0 = .ok (.aload_n 0, 1) := by decide +kernel
theorem dX2_setTurn_1 : decode cX2_setTurn 1 = .ok (.iload_n 1, 1) := by decide +kernel
theorem dX2_setTurn_2 : decode cX2_setTurn 2 = .ok (.iload_n 2, 1) := by decide +kernel
theorem dX2_setTurn_3 : decode cX2_setTurn 3 = .ok (.invokevirtual 49, 3) := by decide +kernel
theorem dX2_setTurn_6 : decode cX2_setTurn 6 = .ok (.astore 5, 2) := by decide +kernel
theorem dX2_setTurn_8 : decode cX2_setTurn 8 = .ok (.iload 4, 2) := by decide +kernel
theorem dX2_setTurn_10 : decode cX2_setTurn 10 = .ok (.iconst 1, 1) := by decide +kernel
theorem dX2_setTurn_11 : decode cX2_setTurn 11 = .ok (.bipush 8, 2) := by decide +kernel
theorem dX2_setTurn_13 : decode cX2_setTurn 13 = .ok (.invokestatic 31, 3) := by decide +kernel
theorem dX2_setTurn_16 : decode cX2_setTurn 16 = .ok (.ifCond .eq 19, 3) := by decide +kernel
theorem dX2_setTurn_19 : decode cX2_setTurn 19 = .ok (.iload_n 3, 1) := by decide +kernel
theorem dX2_setTurn_20 : decode cX2_setTurn 20 = .ok (.iconst 0, 1) := by decide +kernel
theorem dX2_setTurn_21 : decode cX2_setTurn 21 = .ok (.iload 4, 2) := by decide +kernel
theorem dX2_setTurn_23 : decode cX2_setTurn 23 = .ok (.iconst 1, 1) := by decide +kernel
theorem dX2_setTurn_24 : decode cX2_setTurn 24 = .ok (.isub, 1) := by decide +kernel
theorem dX2_setTurn_25 : decode cX2_setTurn 25 = .ok (.invokestatic 31, 3) := by decide +kernel
theorem dX2_setTurn_28 : decode cX2_setTurn 28 = .ok (.ifCond .eq 7, 3) := by decide +kernel
theorem dX2_setTurn_31 : decode cX2_setTurn 31 = .ok (.iconst 1, 1) := by decide +kernel
theorem dX2_setTurn_32 : decode cX2_setTurn 32 = .ok (.goto 4, 3) := by decide +kernel
theorem dX2_setTurn_35 : decode cX2_setTurn 35 = .ok (.iconst 0, 1) := by decide +kernel
theorem dX2_setTurn_36 : decode cX2_setTurn 36 = .ok (.invokestatic 35, 3) := by decide +kernel
theorem dX2_setTurn_39 : decode cX2_setTurn 39 = .ok (.aload 5, 2) := by decide +kernel
theorem dX2_setTurn_41 : decode cX2_setTurn 41 = .ok (.iload_n 2, 1) := by decide +kernel
theorem dX2_setTurn_42 : decode cX2_setTurn 42 = .ok (.iconst 3, 1) := by decide +kernel
theorem dX2_setTurn_43 : decode cX2_setTurn 43 = .ok (.invokevirtual 53, 3) := by decide +kernel
theorem dX2_setTurn_46 : decode cX2_setTurn 46 = .ok (.istore 6, 2) := by decide +kernel
theorem dX2_setTurn_48 : decode cX2_setTurn 48 = .ok (.aload 5, 2) := by decide +kernel
theorem dX2_setTurn_50 : decode cX2_setTurn 50 = .ok (.iload_n 2, 1) := by decide +kernel
theorem dX2_setTurn_51 : decode cX2_setTurn 51 = .ok (.iconst 2, 1) := by decide +kernel
theorem dX2_setTurn_52 : decode cX2_setTurn 52 = .ok (.iload_n 3, 1) := by decide +kernel
theorem dX2_setTurn_53 : decode cX2_setTurn 53 = .ok (.invokevirtual 57, 3) := by decide +kernel
theorem dX2_setTurn_56 : decode cX2_setTurn 56 = .ok (.aload 5, 2) := by decide +kernel
theorem dX2_setTurn_58 : decode cX2_setTurn 58 = .ok (.iload_n 2, 1) := by decide +kernel
theorem dX2_setTurn_59 : decode cX2_setTurn 59 = .ok (.iconst 3, 1) := by decide +kernel
theorem dX2_setTurn_60 : decode cX2_setTurn 60 = .ok (.iload 4, 2) := by decide +kernel
theorem dX2_setTurn_62 : decode cX2_setTurn 62 = .ok (.invokevirtual 57, 3) := by decide +kernel
theorem dX2_setTurn_65 : decode cX2_setTurn 65 = .ok (.iload 6, 2) := by decide +kernel
theorem dX2_setTurn_67 : decode cX2_setTurn 67 = .ok (.ireturn, 1) := by decide +kernel
theorem dX2_step_0 : decode cX2_step 0 = .ok (.aload_n 0, 1) := by decide +kernel
theorem dX2_step_1 : decode cX2_step 1 = .ok (.iload_n 1, 1) := by decide +kernel
theorem dX2_step_2 : decode cX2_step 2 = .ok (.iload_n 2, 1) := by decide +kernel
theorem dX2_step_3 : decode cX2_step 3 = .ok (.invokevirtual 49, 3) := by decide +kernel
theorem dX2_step_6 : decode cX2_step 6 = .ok (.astore 4, 2) := by decide +kernel
theorem dX2_step_8 : decode cX2_step 8 = .ok (.iload_n 3, 1) := by decide +kernel
theorem dX2_step_9 : decode cX2_step 9 = .ok (.iconst 0, 1) := by decide +kernel
theorem dX2_step_10 : decode cX2_step 10 = .ok (.iconst 4, 1) := by decide +kernel
theorem dX2_step_11 : decode cX2_step 11 = .ok (.invokestatic 31, 3) := by decide +kernel
theorem dX2_step_14 : decode cX2_step 14 = .ok (.invokestatic 61, 3) := by decide +kernel
theorem dX2_step_17 : decode cX2_step 17 = .ok (.iload_n 3, 1) := by decide +kernel
theorem dX2_step_18 : decode cX2_step 18 = .ok (.iconst 4, 1) := by decide +kernel
theorem dX2_step_19 : decode cX2_step 19 = .ok (.if_icmp .ne 12, 3) := by decide +kernel
theorem dX2_step_22 : decode cX2_step 22 = .ok (.aload 4, 2) := by decide +kernel
theorem dX2_step_24 : decode cX2_step 24 = .ok (.iload_n 2, 1) := by decide +kernel
theorem dX2_step_25 : decode cX2_step 25 = .ok (.invokevirtual 64, 3) := by decide +kernel
theorem dX2_step_28 : decode cX2_step 28 = .ok (.goto 10, 3) := by decide +kernel
theorem dX2_step_31 : decode cX2_step 31 = .ok (.aload 4, 2) := by decide +kernel
theorem dX2_step_33 : decode cX2_step 33 = .ok (.iload_n 2, 1) := by decide +kernel
theorem dX2_step_34 : decode cX2_step 34 = .ok (.iload_n 3, 1) := by decide +kernel
theorem dX2_step_35 : decode cX2_step 35 = .ok (.invokevirtual 53, 3) := by decide +kernel
theorem dX2_step_38 : decode cX2_step 38 = .ok (.ireturn, 1) := by decide +kernel
theorem dX2_track_0 : decode cX2_track 0 = .ok (.aload_n 0, 1) := by decide +kernel
theorem dX2_track_1 : decode cX2_track 1 = .ok (.iload_n 1, 1) := by decide +kernel
theorem dX2_track_2 : decode cX2_track 2 = .ok (.invokevirtual 68, 3) := by decide +kernel
theorem dX2_track_5 : decode cX2_track 5 = .ok (.astore_n 3, 1) := by decide +kernel
theorem dX2_track_6 : decode cX2_track 6 = .ok (.iload_n 2, 1) := by decide +kernel
theorem dX2_track_7 : decode cX2_track 7 = .ok (.iconst 0, 1) := by decide +kernel
theorem dX2_track_8 : decode cX2_track 8 = .ok (.bipush 7, 2) := by decide +kernel
theorem dX2_track_10 : decode cX2_track 10 = .ok (.invokestatic 31, 3) := by decide +kernel
theorem dX2_track_13 : decode cX2_track 13 = .ok (.invokestatic 61, 3) := by decide +kernel
theorem dX2_track_16 : decode cX2_track 16 = .ok (.aload_n 3, 1) := by decide +kernel
theorem dX2_track_17 : decode cX2_track 17 = .ok (.iload_n 2, 1) := by decide +kernel
theorem dX2_track_18 : decode cX2_track 18 = .ok (.invokevirtual 72, 3) := by decide +kernel
theorem dX2_track_21 : decode cX2_track 21 = .ok (.ireturn, 1) := by decide +kernel
theorem dX2_tune_0 : decode cX2_tune 0 = .ok (.aload_n 0, 1) := by decide +kernel
theorem dX2_tune_1 : decode cX2_tune 1 = .ok (.iload_n 1, 1) := by decide +kernel
theorem dX2_tune_2 : decode cX2_tune 2 = .ok (.invokevirtual 68, 3) := by decide +kernel
theorem dX2_tune_5 : decode cX2_tune 5 = .ok (.astore 5, 2) := by decide +kernel
theorem dX2_tune_7 : decode cX2_tune 7 = .ok (.iload_n 2, 1) := by decide +kernel
theorem dX2_tune_8 : decode cX2_tune 8 = .ok (.iconst 0, 1) := by decide +kernel
theorem dX2_tune_9 : decode cX2_tune 9 = .ok (.aload 5, 2) := by decide +kernel
theorem dX2_tune_11 : decode cX2_tune 11 = .ok (.getfield 75, 3) := by decide +kernel
theorem dX2_tune_14 : decode cX2_tune 14 = .ok (.iconst 1, 1) := by decide +kernel
theorem dX2_tune_15 : decode cX2_tune 15 = .ok (.isub, 1) := by decide +kernel
theorem dX2_tune_16 : decode cX2_tune 16 = .ok (.invokestatic 31, 3) := by decide +kernel
theorem dX2_tune_19 : decode cX2_tune 19 = .ok (.ifCond .eq 28, 3) := by decide +kernel
theorem dX2_tune_22 : decode cX2_tune 22 = .ok (.iload_n 3, 1) := by decide +kernel
theorem dX2_tune_23 : decode cX2_tune 23 = .ok (.iconst 1, 1) := by decide +kernel
theorem dX2_tune_24 : decode cX2_tune 24 = .ok (.sipush 200, 3) := by decide +kernel
theorem dX2_tune_27 : decode cX2_tune 27 = .ok (.invokestatic 31, 3) := by decide +kernel
theorem dX2_tune_30 : decode cX2_tune 30 = .ok (.ifCond .eq 17, 3) := by decide +kernel
theorem dX2_tune_33 : decode cX2_tune 33 = .ok (.iload 4, 2) := by decide +kernel
theorem dX2_tune_35 : decode cX2_tune 35 = .ok (.iconst 0, 1) := by decide +kernel
theorem dX2_tune_36 : decode cX2_tune 36 = .ok (.iconst 3, 1) := by decide +kernel
theorem dX2_tune_37 : decode cX2_tune 37 = .ok (.invokestatic 31, 3) := by decide +kernel
theorem dX2_tune_40 : decode cX2_tune 40 = .ok (.ifCond .eq 7, 3) := by decide +kernel
theorem dX2_tune_43 : decode cX2_tune 43 = .ok (.iconst 1, 1) := by decide +kernel
theorem dX2_tune_44 : decode cX2_tune 44 = .ok (.goto 4, 3) := by decide +kernel
theorem dX2_tune_47 : decode cX2_tune 47 = .ok (.iconst 0, 1) := by decide +kernel
theorem dX2_tune_48 : decode cX2_tune 48 = .ok (.invokestatic 35, 3) := by decide +kernel
theorem dX2_tune_51 : decode cX2_tune 51 = .ok (.aload 5, 2) := by decide +kernel
theorem dX2_tune_53 : decode cX2_tune 53 = .ok (.getfield 78, 3) := by decide +kernel
theorem dX2_tune_56 : decode cX2_tune 56 = .ok (.istore 6, 2) := by decide +kernel
theorem dX2_tune_58 : decode cX2_tune 58 = .ok (.aload 5, 2) := by decide +kernel
theorem dX2_tune_60 : decode cX2_tune 60 = .ok (.iload_n 2, 1) := by decide +kernel
theorem dX2_tune_61 : decode cX2_tune 61 = .ok (.putfield 78, 3) := by decide +kernel
theorem dX2_tune_64 : decode cX2_tune 64 = .ok (.aload 5, 2) := by decide +kernel
theorem dX2_tune_66 : decode cX2_tune 66 = .ok (.iload_n 3, 1) := by decide +kernel
theorem dX2_tune_67 : decode cX2_tune 67 = .ok (.putfield 81, 3) := by decide +kernel
theorem dX2_tune_70 : decode cX2_tune 70 = .ok (.aload 5, 2) := by decide +kernel
theorem dX2_tune_72 : decode cX2_tune 72 = .ok (.iload 4, 2) := by decide +kernel
theorem dX2_tune_74 : decode cX2_tune 74 = .ok (.putfield 84, 3) := by decide +kernel
theorem dX2_tune_77 : decode cX2_tune 77 = .ok (.iload 6, 2) := by decide +kernel
theorem dX2_tune_79 : decode cX2_tune 79 = .ok (.ireturn, 1) := by decide +kernel
theorem dX2_turn_0 : decode cX2_turn 0 = .ok (.aload_n 0, 1) := by decide +kernel
theorem dX2_turn_1 : decode cX2_turn 1 = .ok (.iload_n 1, 1) := by decide +kernel
theorem dX2_turn_2 : decode cX2_turn 2 = .ok (.invokevirtual 68, 3) := by decide +kernel
theorem dX2_turn_5 : decode cX2_turn 5 = .ok (.astore 4, 2) := by decide +kernel
theorem dX2_turn_7 : decode cX2_turn 7 = .ok (.iload_n 2, 1) := by decide +kernel
theorem dX2_turn_8 : decode cX2_turn 8 = .ok (.iconst 0, 1) := by decide +kernel
theorem dX2_turn_9 : decode cX2_turn 9 = .ok (.iconst 2, 1) := by decide +kernel
theorem dX2_turn_10 : decode cX2_turn 10 = .ok (.invokestatic 31, 3) := by decide +kernel
theorem dX2_turn_13 : decode cX2_turn 13 = .ok (.invokestatic 61, 3) := by decide +kernel
theorem dX2_turn_16 : decode cX2_turn 16 = .ok (.aload 4, 2) := by decide +kernel
theorem dX2_turn_18 : decode cX2_turn 18 = .ok (.iconst 5, 1) := by decide +kernel
theorem dX2_turn_19 : decode cX2_turn 19 = .ok (.iload_n 2, 1) := by decide +kernel
theorem dX2_turn_20 : decode cX2_turn 20 = .ok (.iadd, 1) := by decide +kernel
theorem dX2_turn_21 : decode cX2_turn 21 = .ok (.invokevirtual 72, 3) := by decide +kernel
theorem dX2_turn_24 : decode cX2_turn 24 = .ok (.iconst 1, 1) := by decide +kernel
theorem dX2_turn_25 : decode cX2_turn 25 = .ok (.if_icmp .ne 7, 3) := by decide +kernel
theorem dX2_turn_28 : decode cX2_turn 28 = .ok (.iconst 1, 1) := by decide +kernel
theorem dX2_turn_29 : decode cX2_turn 29 = .ok (.goto 4, 3) := by decide +kernel
theorem dX2_turn_32 : decode cX2_turn 32 = .ok (.iconst 0, 1) := by decide +kernel
theorem dX2_turn_33 : decode cX2_turn 33 = .ok (.istore 5, 2) := by decide +kernel
theorem dX2_turn_35 : decode cX2_turn 35 = .ok (.aload 4, 2) := by decide +kernel
theorem dX2_turn_37 : decode cX2_turn 37 = .ok (.iconst 5, 1) := by decide +kernel
theorem dX2_turn_38 : decode cX2_turn 38 = .ok (.iload_n 2, 1) := by decide +kernel
theorem dX2_turn_39 : decode cX2_turn 39 = .ok (.iadd, 1) := by decide +kernel
theorem dX2_turn_40 : decode cX2_turn 40 = .ok (.iload_n 3, 1) := by decide +kernel
theorem dX2_turn_41 : decode cX2_turn 41 = .ok (.invokevirtual 87, 3) := by decide +kernel
theorem dX2_turn_44 : decode cX2_turn 44 = .ok (.iload 5, 2) := by decide +kernel
theorem dX2_turn_46 : decode cX2_turn 46 = .ok (.ireturn, 1) := by decide +kernel
theorem dX2_spread_0 : decode cX2_spread 0 = .ok (.aload_n 0, 1) := by decide +kernel
theorem dX2_spread_1 : decode cX2_spread 1 = .ok (.iload_n 1, 1) := by decide +kernel
theorem dX2_spread_2 : decode cX2_spread 2 = .ok (.invokevirtual 68, 3) := by decide +kernel
theorem dX2_spread_5 : decode cX2_spread 5 = .ok (.astore 4, 2) := by decide +kernel
theorem dX2_spread_7 : decode cX2_spread 7 = .ok (.iload_n 2, 1) := by decide +kernel
theorem dX2_spread_8 : decode cX2_spread 8 = .ok (.iconst 0, 1) := by decide +kernel
theorem dX2_spread_9 : decode cX2_spread 9 = .ok (.aload 4, 2) := by decide +kernel
theorem dX2_spread_11 : decode cX2_spread 11 = .ok (.getfield 91, 3) := by decide +kernel
theorem dX2_spread_14 : decode cX2_spread 14 = .ok (.invokestatic 31, 3) := by decide +kernel
theorem dX2_spread_17 : decode cX2_spread 17 = .ok (.ifCond .eq 17, 3) := by decide +kernel
theorem dX2_spread_20 : decode cX2_spread 20 = .ok (.iload_n 3, 1) := by decide +kernel
theorem dX2_spread_21 : decode cX2_spread 21 = .ok (.iconst 1, 1) := by decide +kernel
theorem dX2_spread_22 : decode cX2_spread 22 = .ok (.bipush 127, 2) := by decide +kernel
theorem dX2_spread_24 : decode cX2_spread 24 = .ok (.invokestatic 31, 3) := by decide +kernel
theorem dX2_spread_27 : decode cX2_spread 27 = .ok (.ifCond .eq 7, 3) := by decide +kernel
theorem dX2_spread_30 : decode cX2_spread 30 = .ok (.iconst 1, 1) := by decide +kernel
theorem dX2_spread_31 : decode cX2_spread 31 = .ok (.goto 4, 3) := by decide +kernel
theorem dX2_spread_34 : decode cX2_spread 34 = .ok (.iconst 0, 1) := by decide +kernel
theorem dX2_spread_35 : decode cX2_spread 35 = .ok (.invokestatic 35, 3) := by decide +kernel
theorem dX2_spread_38 : decode cX2_spread 38 = .ok (.aload 4, 2) := by decide +kernel
theorem dX2_spread_40 : decode cX2_spread 40 = .ok (.iload_n 2, 1) := by decide +kernel
theorem dX2_spread_41 : decode cX2_spread 41 = .ok (.iload_n 3, 1) := by decide +kernel
theorem dX2_spread_42 : decode cX2_spread 42 = .ok (.invokevirtual 94, 3) := by decide +kernel
theorem dX2_spread_45 : decode cX2_spread 45 = .ok (.ireturn, 1) := by decide +kernel
theorem dX2_rotate_0 : decode cX2_rotate 0 = .ok (.aload_n 0, 1) := by decide +kernel
theorem dX2_rotate_1 : decode cX2_rotate 1 = .ok (.iload_n 1, 1) := by decide +kernel
theorem dX2_rotate_2 : decode cX2_rotate 2 = .ok (.invokevirtual 68, 3) := by decide +kernel
theorem dX2_rotate_5 : decode cX2_rotate 5 = .ok (.astore_n 3, 1) := by decide +kernel
theorem dX2_rotate_6 : decode cX2_rotate 6 = .ok (.iload_n 2, 1) := by decide +kernel
theorem dX2_rotate_7 : decode cX2_rotate 7 = .ok (.iconst 0, 1) := by decide +kernel
theorem dX2_rotate_8 : decode cX2_rotate 8 = .ok (.bipush 31, 2) := by decide +kernel
theorem dX2_rotate_10 : decode cX2_rotate 10 = .ok (.invokestatic 31, 3) := by decide +kernel
theorem dX2_rotate_13 : decode cX2_rotate 13 = .ok (.invokestatic 35, 3) := by decide +kernel
theorem dX2_rotate_16 : decode cX2_rotate 16 = .ok (.aload_n 3, 1) := by decide +kernel
theorem dX2_rotate_17 : decode cX2_rotate 17 = .ok (.iload_n 2, 1) := by decide +kernel
theorem dX2_rotate_18 : decode cX2_rotate 18 = .ok (.invokevirtual 97, 3) := by decide +kernel
theorem dX2_rotate_21 : decode cX2_rotate 21 = .ok (.aload_n 3, 1) := by decide +kernel
theorem dX2_rotate_22 : decode cX2_rotate 22 = .ok (.invokevirtual 101, 3) := by decide +kernel
theorem dX2_rotate_25 : decode cX2_rotate 25 = .ok (.ireturn, 1) := by decide +kernel
theorem dX2_stretch_0 : decode cX2_stretch 0 = .ok (.aload_n 0, 1) := by decide +kernel
theorem dX2_stretch_1 : decode cX2_stretch 1 = .ok (.iload_n 1, 1) := by decide +kernel
theorem dX2_stretch_2 : decode cX2_stretch 2 = .ok (.invokevirtual 68, 3) := by decide +kernel
theorem dX2_stretch_5 : decode cX2_stretch 5 = .ok (.astore_n 3, 1) := by decide +kernel
theorem dX2_stretch_6 : decode cX2_stretch 6 = .ok (.iload_n 2, 1) := by decide +kernel
theorem dX2_stretch_7 : decode cX2_stretch 7 = .ok (.iconst 1, 1) := by decide +kernel
theorem dX2_stretch_8 : decode cX2_stretch 8 = .ok (.bipush 32, 2) := by decide +kernel
theorem dX2_stretch_10 : decode cX2_stretch 10 = .ok (.invokestatic 31, 3) := by decide +kernel
theorem dX2_stretch_13 : decode cX2_stretch 13 = .ok (.invokestatic 35, 3) := by decide +kernel
theorem dX2_stretch_16 : decode cX2_stretch 16 = .ok (.aload_n 3, 1) := by decide +kernel
theorem dX2_stretch_17 : decode cX2_stretch 17 = .ok (.getfield 91, 3) := by decide +kernel
theorem dX2_stretch_20 : decode cX2_stretch 20 = .ok (.istore 4, 2) := by decide +kernel
theorem dX2_stretch_22 : decode cX2_stretch 22 = .ok (.aload_n 3, 1) := by decide +kernel
theorem dX2_stretch_23 : decode cX2_stretch 23 = .ok (.iload_n 2, 1) := by decide +kernel
theorem dX2_stretch_24 : decode cX2_stretch 24 = .ok (.invokevirtual 105, 3) := by decide +kernel
theorem dX2_stretch_27 : decode cX2_stretch 27 = .ok (.iload 4, 2) := by decide +kernel
theorem dX2_stretch_29 : decode cX2_stretch 29 = .ok (.ireturn, 1) := by decide +kernel
theorem dX2_tap_0 : decode cX2_tap 0 = .ok (.aload_n 0, 1) := by decide +kernel
theorem dX2_tap_1 : decode cX2_tap 1 = .ok (.iload_n 1, 1) := by decide +kernel
theorem dX2_tap_2 : decode cX2_tap 2 = .ok (.invokevirtual 68, 3) := by decide +kernel
theorem dX2_tap_5 : decode cX2_tap 5 = .ok (.astore 4, 2) := by decide +kernel
theorem dX2_tap_7 : decode cX2_tap 7 = .ok (.iload_n 2, 1) := by decide +kernel
theorem dX2_tap_8 : decode cX2_tap 8 = .ok (.invokestatic 108, 3) := by decide +kernel
theorem dX2_tap_11 : decode cX2_tap 11 = .ok (.ifCond .eq 17, 3) := by decide +kernel
theorem dX2_tap_14 : decode cX2_tap 14 = .ok (.iload_n 3, 1) := by decide +kernel
theorem dX2_tap_15 : decode cX2_tap 15 = .ok (.iconst 1, 1) := by decide +kernel
theorem dX2_tap_16 : decode cX2_tap 16 = .ok (.bipush 127, 2) := by decide +kernel
theorem dX2_tap_18 : decode cX2_tap 18 = .ok (.invokestatic 31, 3) := by decide +kernel
theorem dX2_tap_21 : decode cX2_tap 21 = .ok (.ifCond .eq 7, 3) := by decide +kernel
theorem dX2_tap_24 : decode cX2_tap 24 = .ok (.iconst 1, 1) := by decide +kernel
theorem dX2_tap_25 : decode cX2_tap 25 = .ok (.goto 4, 3) := by decide +kernel
theorem dX2_tap_28 : decode cX2_tap 28 = .ok (.iconst 0, 1) := by decide +kernel
theorem dX2_tap_29 : decode cX2_tap 29 = .ok (.invokestatic 35, 3) := by decide +kernel
theorem dX2_tap_32 : decode cX2_tap 32 = .ok (.aload 4, 2) := by decide +kernel
theorem dX2_tap_34 : decode cX2_tap 34 = .ok (.iload_n 2, 1) := by decide +kernel
theorem dX2_tap_35 : decode cX2_tap 35 = .ok (.invokevirtual 112, 3) := by decide +kernel
theorem dX2_tap_38 : decode cX2_tap 38 = .ok (.istore 5, 2) := by decide +kernel
theorem dX2_tap_40 : decode cX2_tap 40 = .ok (.aload 4, 2) := by decide +kernel
theorem dX2_tap_42 : decode cX2_tap 42 = .ok (.iload 5, 2) := by decide +kernel
theorem dX2_tap_44 : decode cX2_tap 44 = .ok (.iconst 0, 1) := by decide +kernel
theorem dX2_tap_45 : decode cX2_tap 45 = .ok (.iload_n 3, 1) := by decide +kernel
theorem dX2_tap_46 : decode cX2_tap 46 = .ok (.invokevirtual 57, 3) := by decide +kernel
theorem dX2_tap_49 : decode cX2_tap 49 = .ok (.iload 5, 2) := by decide +kernel
theorem dX2_tap_51 : decode cX2_tap 51 = .ok (.ireturn, 1) := by decide +kernel
theorem dX2_tracks_0 : decode cX2_tracks 0 = .ok (.aload_n 0, 1) := by decide +kernel
theorem dX2_tracks_1 : decode cX2_tracks 1 = .ok (.getfield 15, 3) := by decide +kernel
theorem dX2_tracks_4 : decode cX2_tracks 4 = .ok (.ireturn, 1) := by decide +kernel
theorem dX2_addSection_0 : decode cX2_addSection 0 = .ok (.iload_n 1, 1) := by decide +kernel
theorem dX2_addSection_1 : decode cX2_addSection 1 = .ok (.iconst 1, 1) := by decide +kernel
theorem dX2_addSection_2 : decode cX2_addSection 2 = .ok (.sipush 5000, 3) := by decide +kernel
theorem dX2_addSection_5 : decode cX2_addSection 5 = .ok (.invokestatic 31, 3) := by decide +kernel
theorem dX2_addSection_8 : decode cX2_addSection 8 = .ok (.ifCond .eq 18, 3) := by decide +kernel
theorem dX2_addSection_11 : decode cX2_addSection 11 = .ok (.iload_n 2, 1) := by decide +kernel
theorem dX2_addSection_12 : decode cX2_addSection 12 = .ok (.iconst 0, 1) := by decide +kernel
theorem dX2_addSection_13 : decode cX2_addSection 13 = .ok (.sipush 255, 3) := by decide +kernel
theorem dX2_addSection_16 : decode cX2_addSection 16 = .ok (.invokestatic 31, 3) := by decide +kernel
theorem dX2_addSection_19 : decode cX2_addSection 19 = .ok (.ifCond .eq 7, 3) := by decide +kernel
theorem dX2_addSection_22 : decode cX2_addSection 22 = .ok (.iconst 1, 1) := by decide +kernel
theorem dX2_addSection_23 : decode cX2_addSection 23 = .ok (.goto 4, 3) := by decide +kernel
theorem dX2_addSection_26 : decode cX2_addSection 26 = .ok (.iconst 0, 1) := by decide +kernel
theorem dX2_addSection_27 : decode cX2_addSection 27 = .ok (.invokestatic 35, 3) := by decide +kernel
theorem dX2_addSection_30 : decode cX2_addSection 30 = .ok (.aload_n 0, 1) := by decide +kernel
theorem dX2_addSection_31 : decode cX2_addSection 31 = .ok (.getfield 25, 3) := by decide +kernel
theorem dX2_addSection_34 : decode cX2_addSection 34 = .ok (.ifCond .lt 15, 3) := by decide +kernel
theorem dX2_addSection_37 : decode cX2_addSection 37 = .ok (.aload_n 0, 1) := by decide +kernel
theorem dX2_addSection_38 : decode cX2_addSection 38 = .ok (.getfield 25, 3) := by decide +kernel
theorem dX2_addSection_41 : decode cX2_addSection 41 = .ok (.aload_n 0, 1) := by decide +kernel
theorem dX2_addSection_42 : decode cX2_addSection 42 = .ok (.getfield 21, 3) := by decide +kernel
theorem dX2_addSection_45 : decode cX2_addSection 45 = .ok (.arraylength, 1) := by decide +kernel
theorem dX2_addSection_46 : decode cX2_addSection 46 = .ok (.if_icmp .lt 13, 3) := by decide +kernel
theorem dX2_addSection_49 : decode cX2_addSection 49 = .ok (.new 39, 3) := by decide +kernel
theorem dX2_addSection_52 : decode cX2_addSection 52 = .ok (.dup, 1) := by decide +kernel
theorem dX2_addSection_53 : decode cX2_addSection 53 = .ok (.ldc 115, 2) := by decide +kernel
theorem dX2_addSection_55 : decode cX2_addSection 55 = .ok (.invokespecial 43, 3) := by decide +kernel
theorem dX2_addSection_58 : decode cX2_addSection 58 = .ok (.athrow, 1) := by decide +kernel
theorem dX2_addSection_59 : decode cX2_addSection 59 = .ok (.aload_n 0, 1) := by decide +kernel
theorem dX2_addSection_60 : decode cX2_addSection 60 = .ok (.invokevirtual 117, 3) := by decide +kernel
theorem dX2_addSection_63 : decode cX2_addSection 63 = .ok (.istore 4, 2) := by decide +kernel
theorem dX2_addSection_65 : decode cX2_addSection 65 = .ok (.aload_n 0, 1) := by decide +kernel
theorem dX2_addSection_66 : decode cX2_addSection 66 = .ok (.getfield 21, 3) := by decide +kernel
theorem dX2_addSection_69 : decode cX2_addSection 69 = .ok (.aload_n 0, 1) := by decide +kernel
theorem dX2_addSection_70 : decode cX2_addSection 70 = .ok (.getfield 25, 3) := by decide +kernel
theorem dX2_addSection_73 : decode cX2_addSection 73 = .ok (.new 19, 3) := by decide +kernel
theorem dX2_addSection_76 : decode cX2_addSection 76 = .ok (.dup, 1) := by decide +kernel
theorem dX2_addSection_77 : decode cX2_addSection 77 = .ok (.iload 4, 2) := by decide +kernel
theorem dX2_addSection_79 : decode cX2_addSection 79 = .ok (.iload_n 1, 1) := by decide +kernel
theorem dX2_addSection_80 : decode cX2_addSection 80 = .ok (.iload_n 2, 1) := by decide +kernel
theorem dX2_addSection_81 : decode cX2_addSection 81 = .ok (.iload_n 3, 1) := by decide +kernel
theorem dX2_addSection_82 : decode cX2_addSection 82 = .ok (.invokespecial 120, 3) := by decide +kernel
theorem dX2_addSection_85 : decode cX2_addSection 85 = .ok (.aastore, 1) := by decide +kernel
theorem dX2_addSection_86 : decode cX2_addSection 86 = .ok (.aload_n 0, 1) := by decide +kernel
theorem dX2_addSection_87 : decode cX2_addSection 87 = .ok (.dup, 1) := by decide +kernel
theorem dX2_addSection_88 : decode cX2_addSection 88 = .ok (.getfield 25, 3) := by decide +kernel
theorem dX2_addSection_91 : decode cX2_addSection 91 = .ok (.iconst 1, 1) := by decide +kernel
theorem dX2_addSection_92 : decode cX2_addSection 92 = .ok (.iadd, 1) := by decide +kernel
theorem dX2_addSection_93 : decode cX2_addSection 93 = .ok (.putfield 25, 3) := by decide +kernel
theorem dX2_addSection_96 : decode cX2_addSection 96 = .ok (.iload 4, 2) := by decide +kernel
theorem dX2_addSection_98 : decode cX2_addSection 98 = .ok (.ireturn, 1) := by decide +kernel
theorem dX2_dropSection_0 : decode cX2_dropSection 0 = .ok (.aload_n 0, 1) := by decide +kernel
theorem dX2_dropSection_1 : decode cX2_dropSection 1 = .ok (.getfield 25, 3) := by decide +kernel
theorem dX2_dropSection_4 : decode cX2_dropSection 4 = .ok (.iconst 1, 1) := by decide +kernel
theorem dX2_dropSection_5 : decode cX2_dropSection 5 = .ok (.isub, 1) := by decide +kernel
theorem dX2_dropSection_6 : decode cX2_dropSection 6 = .ok (.istore_n 1, 1) := by decide +kernel
theorem dX2_dropSection_7 : decode cX2_dropSection 7 = .ok (.iload_n 1, 1) := by decide +kernel
theorem dX2_dropSection_8 : decode cX2_dropSection 8 = .ok (.ifCond .lt 12, 3) := by decide +kernel
theorem dX2_dropSection_11 : decode cX2_dropSection 11 = .ok (.iload_n 1, 1) := by decide +kernel
theorem dX2_dropSection_12 : decode cX2_dropSection 12 = .ok (.aload_n 0, 1) := by decide +kernel
theorem dX2_dropSection_13 : decode cX2_dropSection 13 = .ok (.getfield 21, 3) := by decide +kernel
theorem dX2_dropSection_16 : decode cX2_dropSection 16 = .ok (.arraylength, 1) := by decide +kernel
theorem dX2_dropSection_17 : decode cX2_dropSection 17 = .ok (.if_icmp .lt 13, 3) := by decide +kernel
theorem dX2_dropSection_20 : decode cX2_dropSection 20 = .ok (.new 39, 3) := by decide +kernel
theorem dX2_dropSection_23 : decode cX2_dropSection 23 = .ok (.dup, 1) := by decide +kernel
theorem dX2_dropSection_24 : decode cX2_dropSection 24 = .ok (.ldc 123, 2) := by decide +kernel
theorem dX2_dropSection_26 : decode cX2_dropSection 26 = .ok (.invokespecial 43, 3) := by decide +kernel
theorem dX2_dropSection_29 : decode cX2_dropSection 29 = .ok (.athrow, 1) := by decide +kernel
theorem dX2_dropSection_30 : decode cX2_dropSection 30 = .ok (.aload_n 0, 1) := by decide +kernel
theorem dX2_dropSection_31 : decode cX2_dropSection 31 = .ok (.getfield 21, 3) := by decide +kernel
theorem dX2_dropSection_34 : decode cX2_dropSection 34 = .ok (.iload_n 1, 1) := by decide +kernel
theorem dX2_dropSection_35 : decode cX2_dropSection 35 = .ok (.aconst_null, 1) := by decide +kernel
theorem dX2_dropSection_36 : decode cX2_dropSection 36 = .ok (.aastore, 1) := by decide +kernel
theorem dX2_dropSection_37 : decode cX2_dropSection 37 = .ok (.aload_n 0, 1) := by decide +kernel
theorem dX2_dropSection_38 : decode cX2_dropSection 38 = .ok (.iload_n 1, 1) := by decide +kernel
theorem dX2_dropSection_39 : decode cX2_dropSection 39 = .ok (.putfield 25, 3) := by decide +kernel
theorem dX2_dropSection_42 : decode cX2_dropSection 42 = .ok (.iload_n 1, 1) := by decide +kernel
theorem dX2_dropSection_43 : decode cX2_dropSection 43 = .ok (.ireturn, 1) := by decide +kernel
theorem dX2_sectionAt_0 : decode cX2_sectionAt 0 = .ok (.iload_n 1, 1) := by decide +kernel
theorem dX2_sectionAt_1 : decode cX2_sectionAt 1 = .ok (.invokestatic 108, 3) := by decide +kernel
theorem dX2_sectionAt_4 : decode cX2_sectionAt 4 = .ok (.invokestatic 35, 3) := by decide +kernel
theorem dX2_sectionAt_7 : decode cX2_sectionAt 7 = .ok (.aload_n 0, 1) := by decide +kernel
theorem dX2_sectionAt_8 : decode cX2_sectionAt 8 = .ok (.iload_n 1, 1) := by decide +kernel
theorem dX2_sectionAt_9 : decode cX2_sectionAt 9 = .ok (.invokevirtual 125, 3) := by decide +kernel
theorem dX2_sectionAt_12 : decode cX2_sectionAt 12 = .ok (.ireturn, 1) := by decide +kernel
theorem dX2_length_0 : decode cX2_length 0 = .ok (.aload_n 0, 1) := by decide +kernel
theorem dX2_length_1 : decode cX2_length 1 = .ok (.invokevirtual 117, 3) := by decide +kernel
theorem dX2_length_4 : decode cX2_length 4 = .ok (.ireturn, 1) := by decide +kernel
theorem dX2_loudness_0 : decode cX2_loudness 0 = .ok (.aload_n 0, 1) := by decide +kernel
theorem dX2_loudness_1 : decode cX2_loudness 1 = .ok (.iload_n 1, 1) := by decide +kernel
theorem dX2_loudness_2 : decode cX2_loudness 2 = .ok (.invokevirtual 68, 3) := by decide +kernel
theorem dX2_loudness_5 : decode cX2_loudness 5 = .ok (.pop, 1) := by decide +kernel
theorem dX2_loudness_6 : decode cX2_loudness 6 = .ok (.iload_n 2, 1) := by decide +kernel
theorem dX2_loudness_7 : decode cX2_loudness 7 = .ok (.invokestatic 108, 3) := by decide +kernel
theorem dX2_loudness_10 : decode cX2_loudness 10 = .ok (.invokestatic 35, 3) := by decide +kernel
theorem dX2_loudness_13 : decode cX2_loudness 13 = .ok (.aload_n 0, 1) := by decide +kernel
theorem dX2_loudness_14 : decode cX2_loudness 14 = .ok (.iload_n 1, 1) := by decide +kernel
theorem dX2_loudness_15 : decode cX2_loudness 15 = .ok (.iload_n 2, 1) := by decide +kernel
theorem dX2_loudness_16 : decode cX2_loudness 16 = .ok (.invokevirtual 128, 3) := by decide +kernel
theorem dX2_loudness_19 : decode cX2_loudness 19 = .ok (.ifCond .ne 5, 3) := by decide +kernel
theorem dX2_loudness_22 : decode cX2_loudness 22 = .ok (.iconst 0, 1) := by decide +kernel
theorem dX2_loudness_23 : decode cX2_loudness 23 = .ok (.ireturn, 1) := by decide +kernel
theorem dX2_loudness_24 : decode cX2_loudness 24 = .ok (.aload_n 0, 1) := by decide +kernel
theorem dX2_loudness_25 : decode cX2_loudness 25 = .ok (.iload_n 1, 1) := by decide +kernel
theorem dX2_loudness_26 : decode cX2_loudness 26 = .ok (.iload_n 2, 1) := by decide +kernel
theorem dX2_loudness_27 : decode cX2_loudness 27 = .ok (.invokevirtual 132, 3) := by decide +kernel
theorem dX2_loudness_30 : decode cX2_loudness 30 = .ok (.aload_n 0, 1) := by decide +kernel
theorem dX2_loudness_31 : decode cX2_loudness 31 = .ok (.iload_n 2, 1) := by decide +kernel
theorem dX2_loudness_32 : decode cX2_loudness 32 = .ok (.invokevirtual 135, 3) := by decide +kernel
theorem dX2_loudness_35 : decode cX2_loudness 35 = .ok (.iconst 4, 1) := by decide +kernel
theorem dX2_loudness_36 : decode cX2_loudness 36 = .ok (.idiv, 1) := by decide +kernel
theorem dX2_loudness_37 : decode cX2_loudness 37 = .ok (.iadd, 1) := by decide +kernel
theorem dX2_loudness_38 : decode cX2_loudness 38 = .ok (.bipush 127, 2) := by decide +kernel
theorem dX2_loudness_40 : decode cX2_loudness 40 = .ok (.invokestatic 138, 3) := by decide +kernel
theorem dX2_loudness_43 : decode cX2_loudness 43 = .ok (.ireturn, 1) := by decide +kernel
theorem dX2_hits_0 : decode cX2_hits 0 = .ok (.iload_n 1, 1) := by decide +kernel
theorem dX2_hits_1 : decode cX2_hits 1 = .ok (.invokestatic 108, 3) := by decide +kernel
theorem dX2_hits_4 : decode cX2_hits 4 = .ok (.invokestatic 35, 3) := by decide +kernel
theorem dX2_hits_7 : decode cX2_hits 7 = .ok (.aload_n 0, 1) := by decide +kernel
theorem dX2_hits_8 : decode cX2_hits 8 = .ok (.iload_n 1, 1) := by decide +kernel
theorem dX2_hits_9 : decode cX2_hits 9 = .ok (.invokevirtual 143, 3) := by decide +kernel
theorem dX2_hits_12 : decode cX2_hits 12 = .ok (.ireturn, 1) := by decide +kernel
theorem dX2_sounding_0 : decode cX2_sounding 0 = .ok (.iload_n 1, 1) := by decide +kernel
theorem dX2_sounding_1 : decode cX2_sounding 1 = .ok (.invokestatic 108, 3) := by decide +kernel
theorem dX2_sounding_4 : decode cX2_sounding 4 = .ok (.invokestatic 35, 3) := by decide +kernel
theorem dX2_sounding_7 : decode cX2_sounding 7 = .ok (.iconst 0, 1) := by decide +kernel
theorem dX2_sounding_8 : decode cX2_sounding 8 = .ok (.istore_n 2, 1) := by decide +kernel
theorem dX2_sounding_9 : decode cX2_sounding 9 = .ok (.iconst 1, 1) := by decide +kernel
theorem dX2_sounding_10 : decode cX2_sounding 10 = .ok (.aload_n 0, 1) := by decide +kernel
theorem dX2_sounding_11 : decode cX2_sounding 11 = .ok (.getfield 15, 3) := by decide +kernel
theorem dX2_sounding_14 : decode cX2_sounding 14 = .ok (.ishl, 1) := by decide +kernel
theorem dX2_sounding_15 : decode cX2_sounding 15 = .ok (.iconst 1, 1) := by decide +kernel
theorem dX2_sounding_16 : decode cX2_sounding 16 = .ok (.isub, 1) := by decide +kernel
theorem dX2_sounding_17 : decode cX2_sounding 17 = .ok (.istore_n 3, 1) := by decide +kernel
theorem dX2_sounding_18 : decode cX2_sounding 18 = .ok (.iconst 0, 1) := by decide +kernel
theorem dX2_sounding_19 : decode cX2_sounding 19 = .ok (.istore 4, 2) := by decide +kernel
theorem dX2_sounding_21 : decode cX2_sounding 21 = .ok (.iload 4, 2) := by decide +kernel
theorem dX2_sounding_23 : decode cX2_sounding 23 = .ok (.sipush 200, 3) := by decide +kernel
theorem dX2_sounding_26 : decode cX2_sounding 26 = .ok (.if_icmp .ge 112, 3) := by decide +kernel
theorem dX2_sounding_29 : decode cX2_sounding 29 = .ok (.iload 4, 2) := by decide +kernel
theorem dX2_sounding_31 : decode cX2_sounding 31 = .ok (.iload_n 1, 1) := by decide +kernel
theorem dX2_sounding_32 : decode cX2_sounding 32 = .ok (.if_icmp .gt 106, 3) := by decide +kernel
theorem dX2_sounding_35 : decode cX2_sounding 35 = .ok (.iload_n 3, 1) := by decide +kernel
theorem dX2_sounding_36 : decode cX2_sounding 36 = .ok (.ifCond .eq 102, 3) := by decide +kernel
theorem dX2_sounding_39 : decode cX2_sounding 39 = .ok (.aload_n 0, 1) := by decide +kernel
theorem dX2_sounding_40 : decode cX2_sounding 40 = .ok (.iload_n 1, 1) := by decide +kernel
theorem dX2_sounding_41 : decode cX2_sounding 41 = .ok (.iload 4, 2) := by decide +kernel
theorem dX2_sounding_43 : decode cX2_sounding 43 = .ok (.isub, 1) := by decide +kernel
theorem dX2_sounding_44 : decode cX2_sounding 44 = .ok (.invokevirtual 143, 3) := by decide +kernel
theorem dX2_sounding_47 : decode cX2_sounding 47 = .ok (.istore 5, 2) := by decide +kernel
theorem dX2_sounding_49 : decode cX2_sounding 49 = .ok (.aload_n 0, 1) := by decide +kernel
theorem dX2_sounding_50 : decode cX2_sounding 50 = .ok (.getfield 15, 3) := by decide +kernel
theorem dX2_sounding_53 : decode cX2_sounding 53 = .ok (.iconst 1, 1) := by decide +kernel
theorem dX2_sounding_54 : decode cX2_sounding 54 = .ok (.isub, 1) := by decide +kernel
theorem dX2_sounding_55 : decode cX2_sounding 55 = .ok (.istore 6, 2) := by decide +kernel
theorem dX2_sounding_57 : decode cX2_sounding 57 = .ok (.iload 6, 2) := by decide +kernel
theorem dX2_sounding_59 : decode cX2_sounding 59 = .ok (.ifCond .lt 73, 3) := by decide +kernel
theorem dX2_sounding_62 : decode cX2_sounding 62 = .ok (.aload_n 0, 1) := by decide +kernel
theorem dX2_sounding_63 : decode cX2_sounding 63 = .ok (.iload 6, 2) := by decide +kernel
theorem dX2_sounding_65 : decode cX2_sounding 65 = .ok (.invokevirtual 146, 3) := by decide +kernel
theorem dX2_sounding_68 : decode cX2_sounding 68 = .ok (.astore 7, 2) := by decide +kernel
theorem dX2_sounding_70 : decode cX2_sounding 70 = .ok (.aload 7, 2) := by decide +kernel
theorem dX2_sounding_72 : decode cX2_sounding 72 = .ok (.ifnull 54, 3) := by decide +kernel
theorem dX2_sounding_75 : decode cX2_sounding 75 = .ok (.iload 5, 2) := by decide +kernel
theorem dX2_sounding_77 : decode cX2_sounding 77 = .ok (.iload_n 3, 1) := by decide +kernel
theorem dX2_sounding_78 : decode cX2_sounding 78 = .ok (.iand, 1) := by decide +kernel
theorem dX2_sounding_79 : decode cX2_sounding 79 = .ok (.iload 6, 2) := by decide +kernel
theorem dX2_sounding_81 : decode cX2_sounding 81 = .ok (.invokestatic 149, 3) := by decide +kernel
theorem dX2_sounding_84 : decode cX2_sounding 84 = .ok (.ifCond .ne 6, 3) := by decide +kernel
theorem dX2_sounding_87 : decode cX2_sounding 87 = .ok (.goto 39, 3) := by decide +kernel
theorem dX2_sounding_90 : decode cX2_sounding 90 = .ok (.iload 4, 2) := by decide +kernel
theorem dX2_sounding_92 : decode cX2_sounding 92 = .ok (.aload 7, 2) := by decide +kernel
theorem dX2_sounding_94 : decode cX2_sounding 94 = .ok (.getfield 81, 3) := by decide +kernel
theorem dX2_sounding_97 : decode cX2_sounding 97 = .ok (.if_icmp .ge 10, 3) := by decide +kernel
theorem dX2_sounding_100 : decode cX2_sounding 100 = .ok (.iload_n 2, 1) := by decide +kernel
theorem dX2_sounding_101 : decode cX2_sounding 101 = .ok (.iconst 1, 1) := by decide +kernel
theorem dX2_sounding_102 : decode cX2_sounding 102 = .ok (.iload 6, 2) := by decide +kernel
theorem dX2_sounding_104 : decode cX2_sounding 104 = .ok (.ishl, 1) := by decide +kernel
theorem dX2_sounding_105 : decode cX2_sounding 105 = .ok (.ior, 1) := by decide +kernel
theorem dX2_sounding_106 : decode cX2_sounding 106 = .ok (.istore_n 2, 1) := by decide +kernel
theorem dX2_sounding_107 : decode cX2_sounding 107 = .ok (.iload_n 3, 1) := by decide +kernel
theorem dX2_sounding_108 : decode cX2_sounding 108 = .ok (.iconst 1, 1) := by decide +kernel
theorem dX2_sounding_109 : decode cX2_sounding 109 = .ok (.iload 6, 2) := by decide +kernel
theorem dX2_sounding_111 : decode cX2_sounding 111 = .ok (.ishl, 1) := by decide +kernel
theorem dX2_sounding_112 : decode cX2_sounding 112 = .ok (.aload_n 0, 1) := by decide +kernel
theorem dX2_sounding_113 : decode cX2_sounding 113 = .ok (.aload 7, 2) := by decide +kernel
theorem dX2_sounding_115 : decode cX2_sounding 115 = .ok (.getfield 84, 3) := by decide +kernel
theorem dX2_sounding_118 : decode cX2_sounding 118 = .ok (.invokevirtual 152, 3) := by decide +kernel
theorem dX2_sounding_121 : decode cX2_sounding 121 = .ok (.ior, 1) := by decide +kernel
theorem dX2_sounding_122 : decode cX2_sounding 122 = .ok (.iconst (-1), 1) := by decide +kernel
theorem dX2_sounding_123 : decode cX2_sounding 123 = .ok (.ixor, 1) := by decide +kernel
theorem dX2_sounding_124 : decode cX2_sounding 124 = .ok (.iand, 1) := by decide +kernel
theorem dX2_sounding_125 : decode cX2_sounding 125 = .ok (.istore_n 3, 1) := by decide +kernel
theorem dX2_sounding_126 : decode cX2_sounding 126 = .ok (.iinc 6 (-1), 3) := by decide +kernel
theorem dX2_sounding_129 : decode cX2_sounding 129 = .ok (.goto (-72), 3) := by decide +kernel
theorem dX2_sounding_132 : decode cX2_sounding 132 = .ok (.iinc 4 1, 3) := by decide +kernel
theorem dX2_sounding_135 : decode cX2_sounding 135 = .ok (.goto (-114), 3) := by decide +kernel
theorem dX2_sounding_138 : decode cX2_sounding 138 = .ok (.iload_n 2, 1) := by decide +kernel
theorem dX2_sounding_139 : decode cX2_sounding 139 = .ok (.ireturn, 1) := by decide +kernel
theorem dX2_next_0 : decode cX2_next 0 = .ok (.aload_n 0, 1) := by decide +kernel
theorem dX2_next_1 : decode cX2_next 1 = .ok (.iload_n 1, 1) := by decide +kernel
theorem dX2_next_2 : decode cX2_next 2 = .ok (.invokevirtual 68, 3) := by decide +kernel
theorem dX2_next_5 : decode cX2_next 5 = .ok (.pop, 1) := by decide +kernel
theorem dX2_next_6 : decode cX2_next 6 = .ok (.iload_n 2, 1) := by decide +kernel
theorem dX2_next_7 : decode cX2_next 7 = .ok (.invokestatic 108, 3) := by decide +kernel
theorem dX2_next_10 : decode cX2_next 10 = .ok (.invokestatic 35, 3) := by decide +kernel
theorem dX2_next_13 : decode cX2_next 13 = .ok (.iload_n 2, 1) := by decide +kernel
theorem dX2_next_14 : decode cX2_next 14 = .ok (.sipush 3000, 3) := by decide +kernel
theorem dX2_next_17 : decode cX2_next 17 = .ok (.iadd, 1) := by decide +kernel
theorem dX2_next_18 : decode cX2_next 18 = .ok (.ldc 155, 2) := by decide +kernel
theorem dX2_next_20 : decode cX2_next 20 = .ok (.invokestatic 138, 3) := by decide +kernel
theorem dX2_next_23 : decode cX2_next 23 = .ok (.istore_n 3, 1) := by decide +kernel
theorem dX2_next_24 : decode cX2_next 24 = .ok (.iload_n 2, 1) := by decide +kernel
theorem dX2_next_25 : decode cX2_next 25 = .ok (.istore 4, 2) := by decide +kernel
theorem dX2_next_27 : decode cX2_next 27 = .ok (.iload 4, 2) := by decide +kernel
theorem dX2_next_29 : decode cX2_next 29 = .ok (.iload_n 3, 1) := by decide +kernel
theorem dX2_next_30 : decode cX2_next 30 = .ok (.if_icmp .gt 22, 3) := by decide +kernel
theorem dX2_next_33 : decode cX2_next 33 = .ok (.aload_n 0, 1) := by decide +kernel
theorem dX2_next_34 : decode cX2_next 34 = .ok (.iload_n 1, 1) := by decide +kernel
theorem dX2_next_35 : decode cX2_next 35 = .ok (.iload 4, 2) := by decide +kernel
theorem dX2_next_37 : decode cX2_next 37 = .ok (.invokevirtual 128, 3) := by decide +kernel
theorem dX2_next_40 : decode cX2_next 40 = .ok (.ifCond .eq 6, 3) := by decide +kernel
theorem dX2_next_43 : decode cX2_next 43 = .ok (.iload 4, 2) := by decide +kernel
theorem dX2_next_45 : decode cX2_next 45 = .ok (.ireturn, 1) := by decide +kernel
theorem dX2_next_46 : decode cX2_next 46 = .ok (.iinc 4 1, 3) := by decide +kernel
theorem dX2_next_49 : decode cX2_next 49 = .ok (.goto (-22), 3) := by decide +kernel
theorem dX2_next_52 : decode cX2_next 52 = .ok (.iconst (-1), 1) := by decide +kernel
theorem dX2_next_53 : decode cX2_next 53 = .ok (.ireturn, 1) := by decide +kernel
theorem dX2_count_0 : decode cX2_count 0 = .ok (.aload_n 0, 1) := by decide +kernel
theorem dX2_count_1 : decode cX2_count 1 = .ok (.iload_n 1, 1) := by decide +kernel
theorem dX2_count_2 : decode cX2_count 2 = .ok (.invokevirtual 68, 3) := by decide +kernel
theorem dX2_count_5 : decode cX2_count 5 = .ok (.pop, 1) := by decide +kernel
theorem dX2_count_6 : decode cX2_count 6 = .ok (.iload_n 2, 1) := by decide +kernel
theorem dX2_count_7 : decode cX2_count 7 = .ok (.iload_n 3, 1) := by decide +kernel
theorem dX2_count_8 : decode cX2_count 8 = .ok (.invokestatic 156, 3) := by decide +kernel
theorem dX2_count_11 : decode cX2_count 11 = .ok (.invokestatic 35, 3) := by decide +kernel
theorem dX2_count_14 : decode cX2_count 14 = .ok (.aload_n 0, 1) := by decide +kernel
theorem dX2_count_15 : decode cX2_count 15 = .ok (.iload_n 1, 1) := by decide +kernel
theorem dX2_count_16 : decode cX2_count 16 = .ok (.iload_n 1, 1) := by decide +kernel
theorem dX2_count_17 : decode cX2_count 17 = .ok (.iload_n 2, 1) := by decide +kernel
theorem dX2_count_18 : decode cX2_count 18 = .ok (.iload_n 3, 1) := by decide +kernel
theorem dX2_count_19 : decode cX2_count 19 = .ok (.invokevirtual 159, 3) := by decide +kernel
theorem dX2_count_22 : decode cX2_count 22 = .ok (.ireturn, 1) := by decide +kernel
theorem dX2_together_0 : decode cX2_together 0 = .ok (.aload_n 0, 1) := by decide +kernel
theorem dX2_together_1 : decode cX2_together 1 = .ok (.iload_n 1, 1) := by decide +kernel
theorem dX2_together_2 : decode cX2_together 2 = .ok (.invokevirtual 68, 3) := by decide +kernel
theorem dX2_together_5 : decode cX2_together 5 = .ok (.pop, 1) := by decide +kernel
theorem dX2_together_6 : decode cX2_together 6 = .ok (.aload_n 0, 1) := by decide +kernel
theorem dX2_together_7 : decode cX2_together 7 = .ok (.iload_n 2, 1) := by decide +kernel
theorem dX2_together_8 : decode cX2_together 8 = .ok (.invokevirtual 68, 3) := by decide +kernel
theorem dX2_together_11 : decode cX2_together 11 = .ok (.pop, 1) := by decide +kernel
theorem dX2_together_12 : decode cX2_together 12 = .ok (.iload_n 3, 1) := by decide +kernel
theorem dX2_together_13 : decode cX2_together 13 = .ok (.iload 4, 2) := by decide +kernel
theorem dX2_together_15 : decode cX2_together 15 = .ok (.invokestatic 156, 3) := by decide +kernel
theorem dX2_together_18 : decode cX2_together 18 = .ok (.invokestatic 35, 3) := by decide +kernel
theorem dX2_together_21 : decode cX2_together 21 = .ok (.aload_n 0, 1) := by decide +kernel
theorem dX2_together_22 : decode cX2_together 22 = .ok (.iload_n 1, 1) := by decide +kernel
theorem dX2_together_23 : decode cX2_together 23 = .ok (.iload_n 2, 1) := by decide +kernel
theorem dX2_together_24 : decode cX2_together 24 = .ok (.iload_n 3, 1) := by decide +kernel
theorem dX2_together_25 : decode cX2_together 25 = .ok (.iload 4, 2) := by decide +kernel
theorem dX2_together_27 : decode cX2_together 27 = .ok (.invokevirtual 159, 3) := by decide +kernel
theorem dX2_together_30 : decode cX2_together 30 = .ok (.ireturn, 1) := by decide +kernel
theorem dX2_rounds_0 : decode cX2_rounds 0 = .ok (.aload_n 0, 1) := by decide +kernel
theorem dX2_rounds_1 : decode cX2_rounds 1 = .ok (.iload_n 1, 1) := by decide +kernel
theorem dX2_rounds_2 : decode cX2_rounds 2 = .ok (.invokevirtual 68, 3) := by decide +kernel
theorem dX2_rounds_5 : decode cX2_rounds 5 = .ok (.invokevirtual 163, 3) := by decide +kernel
theorem dX2_rounds_8 : decode cX2_rounds 8 = .ok (.ireturn, 1) := by decide +kernel
theorem dX2_period_0 : decode cX2_period 0 = .ok (.lconst 1, 1) := by decide +kernel
theorem dX2_period_1 : decode cX2_period 1 = .ok (.lstore_n 1, 1) := by decide +kernel
theorem dX2_period_2 : decode cX2_period 2 = .ok (.iconst 0, 1) := by decide +kernel
end
section
theorem dX2_period_3 : decode cX2_period 3 = .ok (.istore_n 3, 1) := by decide +kernel
theorem dX2_period_4 : decode cX2_period 4 = .ok (.iload_n 3, 1) := by decide +kernel
theorem dX2_period_5 : decode cX2_period 5 = .ok (.aload_n 0, 1) := by decide +kernel
theorem dX2_period_6 : decode cX2_period 6 = .ok (.getfield 15, 3) := by decide +kernel
theorem dX2_period_9 : decode cX2_period 9 = .ok (.if_icmp .ge 51, 3) := by decide +kernel
theorem dX2_period_12 : decode cX2_period 12 = .ok (.aload_n 0, 1) := by decide +kernel
theorem dX2_period_13 : decode cX2_period 13 = .ok (.iload_n 3, 1) := by decide +kernel
theorem dX2_period_14 : decode cX2_period 14 = .ok (.invokevirtual 146, 3) := by decide +kernel
theorem dX2_period_17 : decode cX2_period 17 = .ok (.astore 4, 2) := by decide +kernel
theorem dX2_period_19 : decode cX2_period 19 = .ok (.aload 4, 2) := by decide +kernel
theorem dX2_period_21 : decode cX2_period 21 = .ok (.ifnull 21, 3) := by decide +kernel
theorem dX2_period_24 : decode cX2_period 24 = .ok (.lload_n 1, 1) := by decide +kernel
theorem dX2_period_25 : decode cX2_period 25 = .ok (.aload 4, 2) := by decide +kernel
theorem dX2_period_27 : decode cX2_period 27 = .ok (.invokevirtual 166, 3) := by decide +kernel
theorem dX2_period_30 : decode cX2_period 30 = .ok (.i2l, 1) := by decide +kernel
theorem dX2_period_31 : decode cX2_period 31 = .ok (.aload 4, 2) := by decide +kernel
theorem dX2_period_33 : decode cX2_period 33 = .ok (.invokevirtual 163, 3) := by decide +kernel
theorem dX2_period_36 : decode cX2_period 36 = .ok (.i2l, 1) := by decide +kernel
theorem dX2_period_37 : decode cX2_period 37 = .ok (.lmul, 1) := by decide +kernel
theorem dX2_period_38 : decode cX2_period 38 = .ok (.invokestatic 169, 3) := by decide +kernel
theorem dX2_period_41 : decode cX2_period 41 = .ok (.lstore_n 1, 1) := by decide +kernel
theorem dX2_period_42 : decode cX2_period 42 = .ok (.lload_n 1, 1) := by decide +kernel
theorem dX2_period_43 : decode cX2_period 43 = .ok (.ldc2_w 173, 3) := by decide +kernel
theorem dX2_period_46 : decode cX2_period 46 = .ok (.lcmp, 1) := by decide +kernel
theorem dX2_period_47 : decode cX2_period 47 = .ok (.ifCond .le 7, 3) := by decide +kernel
theorem dX2_period_50 : decode cX2_period 50 = .ok (.ldc2_w 175, 3) := by decide +kernel
theorem dX2_period_53 : decode cX2_period 53 = .ok (.lreturn, 1) := by decide +kernel
theorem dX2_period_54 : decode cX2_period 54 = .ok (.iinc 3 1, 3) := by decide +kernel
theorem dX2_period_57 : decode cX2_period 57 = .ok (.goto (-53), 3) := by decide +kernel
theorem dX2_period_60 : decode cX2_period 60 = .ok (.lload_n 1, 1) := by decide +kernel
theorem dX2_period_61 : decode cX2_period 61 = .ok (.lreturn, 1) := by decide +kernel
theorem dX2_density_0 : decode cX2_density 0 = .ok (.aload_n 0, 1) := by decide +kernel
theorem dX2_density_1 : decode cX2_density 1 = .ok (.iload_n 1, 1) := by decide +kernel
theorem dX2_density_2 : decode cX2_density 2 = .ok (.invokevirtual 68, 3) := by decide +kernel
theorem dX2_density_5 : decode cX2_density 5 = .ok (.invokevirtual 177, 3) := by decide +kernel
theorem dX2_density_8 : decode cX2_density 8 = .ok (.dreturn, 1) := by decide +kernel
theorem dX2_setSpeed_0 : decode cX2_setSpeed 0 = .ok (.iload_n 1, 1) := by decide +kernel
theorem dX2_setSpeed_1 : decode cX2_setSpeed 1 = .ok (.bipush 30, 2) := by decide +kernel
theorem dX2_setSpeed_3 : decode cX2_setSpeed 3 = .ok (.sipush 300, 3) := by decide +kernel
theorem dX2_setSpeed_6 : decode cX2_setSpeed 6 = .ok (.invokestatic 31, 3) := by decide +kernel
theorem dX2_setSpeed_9 : decode cX2_setSpeed 9 = .ok (.invokestatic 35, 3) := by decide +kernel
theorem dX2_setSpeed_12 : decode cX2_setSpeed 12 = .ok (.aload_n 0, 1) := by decide +kernel
theorem dX2_setSpeed_13 : decode cX2_setSpeed 13 = .ok (.getfield 28, 3) := by decide +kernel
theorem dX2_setSpeed_16 : decode cX2_setSpeed 16 = .ok (.istore_n 2, 1) := by decide +kernel
theorem dX2_setSpeed_17 : decode cX2_setSpeed 17 = .ok (.aload_n 0, 1) := by decide +kernel
theorem dX2_setSpeed_18 : decode cX2_setSpeed 18 = .ok (.iload_n 1, 1) := by decide +kernel
theorem dX2_setSpeed_19 : decode cX2_setSpeed 19 = .ok (.putfield 28, 3) := by decide +kernel
theorem dX2_setSpeed_22 : decode cX2_setSpeed 22 = .ok (.iload_n 2, 1) := by decide +kernel
theorem dX2_setSpeed_23 : decode cX2_setSpeed 23 = .ok (.ireturn, 1) := by decide +kernel
theorem dX2_seconds_0 : decode cX2_seconds 0 = .ok (.iload_n 1, 1) := by decide +kernel
theorem dX2_seconds_1 : decode cX2_seconds 1 = .ok (.invokestatic 108, 3) := by decide +kernel
theorem dX2_seconds_4 : decode cX2_seconds 4 = .ok (.invokestatic 35, 3) := by decide +kernel
theorem dX2_seconds_7 : decode cX2_seconds 7 = .ok (.iload_n 1, 1) := by decide +kernel
theorem dX2_seconds_8 : decode cX2_seconds 8 = .ok (.i2d, 1) := by decide +kernel
theorem dX2_seconds_9 : decode cX2_seconds 9 = .ok (.ldc2_w 181, 3) := by decide +kernel
theorem dX2_seconds_12 : decode cX2_seconds 12 = .ok (.dmul, 1) := by decide +kernel
theorem dX2_seconds_13 : decode cX2_seconds 13 = .ok (.aload_n 0, 1) := by decide +kernel
theorem dX2_seconds_14 : decode cX2_seconds 14 = .ok (.getfield 28, 3) := by decide +kernel
theorem dX2_seconds_17 : decode cX2_seconds 17 = .ok (.i2d, 1) := by decide +kernel
theorem dX2_seconds_18 : decode cX2_seconds 18 = .ok (.ddiv, 1) := by decide +kernel
theorem dX2_seconds_19 : decode cX2_seconds 19 = .ok (.ldc2_w 183, 3) := by decide +kernel
theorem dX2_seconds_22 : decode cX2_seconds 22 = .ok (.ddiv, 1) := by decide +kernel
theorem dX2_seconds_23 : decode cX2_seconds 23 = .ok (.dreturn, 1) := by decide +kernel
theorem dX2_digest_0 : decode cX2_digest 0 = .ok (.ldc2_w 185, 3) := by decide +kernel
theorem dX2_digest_3 : decode cX2_digest 3 = .ok (.aload_n 0, 1) := by decide +kernel
theorem dX2_digest_4 : decode cX2_digest 4 = .ok (.getfield 28, 3) := by decide +kernel
theorem dX2_digest_7 : decode cX2_digest 7 = .ok (.i2l, 1) := by decide +kernel
theorem dX2_digest_8 : decode cX2_digest 8 = .ok (.invokestatic 187, 3) := by decide +kernel
theorem dX2_digest_11 : decode cX2_digest 11 = .ok (.aload_n 0, 1) := by decide +kernel
theorem dX2_digest_12 : decode cX2_digest 12 = .ok (.getfield 15, 3) := by decide +kernel
theorem dX2_digest_15 : decode cX2_digest 15 = .ok (.i2l, 1) := by decide +kernel
theorem dX2_digest_16 : decode cX2_digest 16 = .ok (.invokestatic 187, 3) := by decide +kernel
theorem dX2_digest_19 : decode cX2_digest 19 = .ok (.lstore_n 1, 1) := by decide +kernel
theorem dX2_digest_20 : decode cX2_digest 20 = .ok (.iconst 0, 1) := by decide +kernel
theorem dX2_digest_21 : decode cX2_digest 21 = .ok (.istore_n 3, 1) := by decide +kernel
theorem dX2_digest_22 : decode cX2_digest 22 = .ok (.iload_n 3, 1) := by decide +kernel
theorem dX2_digest_23 : decode cX2_digest 23 = .ok (.aload_n 0, 1) := by decide +kernel
theorem dX2_digest_24 : decode cX2_digest 24 = .ok (.getfield 15, 3) := by decide +kernel
theorem dX2_digest_27 : decode cX2_digest 27 = .ok (.if_icmp .ge 28, 3) := by decide +kernel
theorem dX2_digest_30 : decode cX2_digest 30 = .ok (.aload_n 0, 1) := by decide +kernel
theorem dX2_digest_31 : decode cX2_digest 31 = .ok (.iload_n 3, 1) := by decide +kernel
theorem dX2_digest_32 : decode cX2_digest 32 = .ok (.invokevirtual 146, 3) := by decide +kernel
theorem dX2_digest_35 : decode cX2_digest 35 = .ok (.astore 4, 2) := by decide +kernel
theorem dX2_digest_37 : decode cX2_digest 37 = .ok (.aload 4, 2) := by decide +kernel
theorem dX2_digest_39 : decode cX2_digest 39 = .ok (.ifnull 10, 3) := by decide +kernel
theorem dX2_digest_42 : decode cX2_digest 42 = .ok (.aload 4, 2) := by decide +kernel
theorem dX2_digest_44 : decode cX2_digest 44 = .ok (.lload_n 1, 1) := by decide +kernel
theorem dX2_digest_45 : decode cX2_digest 45 = .ok (.invokevirtual 190, 3) := by decide +kernel
theorem dX2_digest_48 : decode cX2_digest 48 = .ok (.lstore_n 1, 1) := by decide +kernel
theorem dX2_digest_49 : decode cX2_digest 49 = .ok (.iinc 3 1, 3) := by decide +kernel
theorem dX2_digest_52 : decode cX2_digest 52 = .ok (.goto (-30), 3) := by decide +kernel
theorem dX2_digest_55 : decode cX2_digest 55 = .ok (.lload_n 1, 1) := by decide +kernel
theorem dX2_digest_56 : decode cX2_digest 56 = .ok (.aload_n 0, 1) := by decide +kernel
theorem dX2_digest_57 : decode cX2_digest 57 = .ok (.getfield 25, 3) := by decide +kernel
theorem dX2_digest_60 : decode cX2_digest 60 = .ok (.i2l, 1) := by decide +kernel
theorem dX2_digest_61 : decode cX2_digest 61 = .ok (.invokestatic 187, 3) := by decide +kernel
theorem dX2_digest_64 : decode cX2_digest 64 = .ok (.lstore_n 1, 1) := by decide +kernel
theorem dX2_digest_65 : decode cX2_digest 65 = .ok (.iconst 0, 1) := by decide +kernel
theorem dX2_digest_66 : decode cX2_digest 66 = .ok (.istore_n 3, 1) := by decide +kernel
theorem dX2_digest_67 : decode cX2_digest 67 = .ok (.iload_n 3, 1) := by decide +kernel
theorem dX2_digest_68 : decode cX2_digest 68 = .ok (.aload_n 0, 1) := by decide +kernel
theorem dX2_digest_69 : decode cX2_digest 69 = .ok (.getfield 25, 3) := by decide +kernel
theorem dX2_digest_72 : decode cX2_digest 72 = .ok (.if_icmp .ge 57, 3) := by decide +kernel
theorem dX2_digest_75 : decode cX2_digest 75 = .ok (.aload_n 0, 1) := by decide +kernel
theorem dX2_digest_76 : decode cX2_digest 76 = .ok (.iload_n 3, 1) := by decide +kernel
theorem dX2_digest_77 : decode cX2_digest 77 = .ok (.invokevirtual 194, 3) := by decide +kernel
theorem dX2_digest_80 : decode cX2_digest 80 = .ok (.astore 4, 2) := by decide +kernel
theorem dX2_digest_82 : decode cX2_digest 82 = .ok (.aload 4, 2) := by decide +kernel
theorem dX2_digest_84 : decode cX2_digest 84 = .ok (.ifnull 39, 3) := by decide +kernel
theorem dX2_digest_87 : decode cX2_digest 87 = .ok (.lload_n 1, 1) := by decide +kernel
theorem dX2_digest_88 : decode cX2_digest 88 = .ok (.aload 4, 2) := by decide +kernel
theorem dX2_digest_90 : decode cX2_digest 90 = .ok (.getfield 198, 3) := by decide +kernel
theorem dX2_digest_93 : decode cX2_digest 93 = .ok (.i2l, 1) := by decide +kernel
theorem dX2_digest_94 : decode cX2_digest 94 = .ok (.invokestatic 187, 3) := by decide +kernel
theorem dX2_digest_97 : decode cX2_digest 97 = .ok (.aload 4, 2) := by decide +kernel
theorem dX2_digest_99 : decode cX2_digest 99 = .ok (.getfield 201, 3) := by decide +kernel
theorem dX2_digest_102 : decode cX2_digest 102 = .ok (.i2l, 1) := by decide +kernel
theorem dX2_digest_103 : decode cX2_digest 103 = .ok (.invokestatic 187, 3) := by decide +kernel
theorem dX2_digest_106 : decode cX2_digest 106 = .ok (.aload 4, 2) := by decide +kernel
theorem dX2_digest_108 : decode cX2_digest 108 = .ok (.getfield 204, 3) := by decide +kernel
theorem dX2_digest_111 : decode cX2_digest 111 = .ok (.ifCond .eq 7, 3) := by decide +kernel
theorem dX2_digest_114 : decode cX2_digest 114 = .ok (.lconst 1, 1) := by decide +kernel
theorem dX2_digest_115 : decode cX2_digest 115 = .ok (.goto 4, 3) := by decide +kernel
theorem dX2_digest_118 : decode cX2_digest 118 = .ok (.lconst 0, 1) := by decide +kernel
theorem dX2_digest_119 : decode cX2_digest 119 = .ok (.invokestatic 187, 3) := by decide +kernel
theorem dX2_digest_122 : decode cX2_digest 122 = .ok (.lstore_n 1, 1) := by decide +kernel
theorem dX2_digest_123 : decode cX2_digest 123 = .ok (.iinc 3 1, 3) := by decide +kernel
theorem dX2_digest_126 : decode cX2_digest 126 = .ok (.goto (-59), 3) := by decide +kernel
theorem dX2_digest_129 : decode cX2_digest 129 = .ok (.lload_n 1, 1) := by decide +kernel
theorem dX2_digest_130 : decode cX2_digest 130 = .ok (.lreturn, 1) := by decide +kernel
theorem dX2_isWithin_0 : decode cX2_isWithin 0 = .ok (.iload_n 0, 1) := by decide +kernel
theorem dX2_isWithin_1 : decode cX2_isWithin 1 = .ok (.iload_n 1, 1) := by decide +kernel
theorem dX2_isWithin_2 : decode cX2_isWithin 2 = .ok (.if_icmp .lt 12, 3) := by decide +kernel
theorem dX2_isWithin_5 : decode cX2_isWithin 5 = .ok (.iload_n 0, 1) := by decide +kernel
theorem dX2_isWithin_6 : decode cX2_isWithin 6 = .ok (.iload_n 2, 1) := by decide +kernel
theorem dX2_isWithin_7 : decode cX2_isWithin 7 = .ok (.if_icmp .gt 7, 3) := by decide +kernel
theorem dX2_isWithin_10 : decode cX2_isWithin 10 = .ok (.iconst 1, 1) := by decide +kernel
theorem dX2_isWithin_11 : decode cX2_isWithin 11 = .ok (.goto 4, 3) := by decide +kernel
theorem dX2_isWithin_14 : decode cX2_isWithin 14 = .ok (.iconst 0, 1) := by decide +kernel
theorem dX2_isWithin_15 : decode cX2_isWithin 15 = .ok (.ireturn, 1) := by decide +kernel
theorem dX2_isTick_0 : decode cX2_isTick 0 = .ok (.iload_n 0, 1) := by decide +kernel
theorem dX2_isTick_1 : decode cX2_isTick 1 = .ok (.iconst 0, 1) := by decide +kernel
theorem dX2_isTick_2 : decode cX2_isTick 2 = .ok (.ldc 155, 2) := by decide +kernel
theorem dX2_isTick_4 : decode cX2_isTick 4 = .ok (.invokestatic 31, 3) := by decide +kernel
theorem dX2_isTick_7 : decode cX2_isTick 7 = .ok (.ireturn, 1) := by decide +kernel
theorem dX2_isSpan_0 : decode cX2_isSpan 0 = .ok (.iload_n 0, 1) := by decide +kernel
theorem dX2_isSpan_1 : decode cX2_isSpan 1 = .ok (.invokestatic 108, 3) := by decide +kernel
theorem dX2_isSpan_4 : decode cX2_isSpan 4 = .ok (.ifCond .eq 28, 3) := by decide +kernel
theorem dX2_isSpan_7 : decode cX2_isSpan 7 = .ok (.iload_n 1, 1) := by decide +kernel
theorem dX2_isSpan_8 : decode cX2_isSpan 8 = .ok (.invokestatic 108, 3) := by decide +kernel
theorem dX2_isSpan_11 : decode cX2_isSpan 11 = .ok (.ifCond .eq 21, 3) := by decide +kernel
theorem dX2_isSpan_14 : decode cX2_isSpan 14 = .ok (.iload_n 1, 1) := by decide +kernel
theorem dX2_isSpan_15 : decode cX2_isSpan 15 = .ok (.iload_n 0, 1) := by decide +kernel
theorem dX2_isSpan_16 : decode cX2_isSpan 16 = .ok (.if_icmp .lt 16, 3) := by decide +kernel
theorem dX2_isSpan_19 : decode cX2_isSpan 19 = .ok (.iload_n 1, 1) := by decide +kernel
theorem dX2_isSpan_20 : decode cX2_isSpan 20 = .ok (.iload_n 0, 1) := by decide +kernel
theorem dX2_isSpan_21 : decode cX2_isSpan 21 = .ok (.isub, 1) := by decide +kernel
theorem dX2_isSpan_22 : decode cX2_isSpan 22 = .ok (.sipush 3000, 3) := by decide +kernel
theorem dX2_isSpan_25 : decode cX2_isSpan 25 = .ok (.if_icmp .gt 7, 3) := by decide +kernel
theorem dX2_isSpan_28 : decode cX2_isSpan 28 = .ok (.iconst 1, 1) := by decide +kernel
theorem dX2_isSpan_29 : decode cX2_isSpan 29 = .ok (.goto 4, 3) := by decide +kernel
theorem dX2_isSpan_32 : decode cX2_isSpan 32 = .ok (.iconst 0, 1) := by decide +kernel
theorem dX2_isSpan_33 : decode cX2_isSpan 33 = .ok (.ireturn, 1) := by decide +kernel
theorem dX2_checkArgument_0 : decode cX2_checkArgument 0 = .ok (.iload_n 0, 1) := by decide +kernel
theorem dX2_checkArgument_1 : decode cX2_checkArgument 1 = .ok (.ifCond .ne 13, 3) := by decide +kernel
theorem dX2_checkArgument_4 : decode cX2_checkArgument 4 = .ok (.new 208, 3) := by decide +kernel
theorem dX2_checkArgument_7 : decode cX2_checkArgument 7 = .ok (.dup, 1) := by decide +kernel
theorem dX2_checkArgument_8 : decode cX2_checkArgument 8 = .ok (.ldc 210, 2) := by decide +kernel
theorem dX2_checkArgument_10 : decode cX2_checkArgument 10 = .ok (.invokespecial 212, 3) := by decide +kernel
theorem dX2_checkArgument_13 : decode cX2_checkArgument 13 = .ok (.athrow, 1) := by decide +kernel
theorem dX2_checkArgument_14 : decode cX2_checkArgument 14 = .ok (.return_, 1) := by decide +kernel
theorem dX2_checkIndex_0 : decode cX2_checkIndex 0 = .ok (.iload_n 0, 1) := by decide +kernel
theorem dX2_checkIndex_1 : decode cX2_checkIndex 1 = .ok (.ifCond .ne 13, 3) := by decide +kernel
theorem dX2_checkIndex_4 : decode cX2_checkIndex 4 = .ok (.new 213, 3) := by decide +kernel
theorem dX2_checkIndex_7 : decode cX2_checkIndex 7 = .ok (.dup, 1) := by decide +kernel
theorem dX2_checkIndex_8 : decode cX2_checkIndex 8 = .ok (.ldc 215, 2) := by decide +kernel
theorem dX2_checkIndex_10 : decode cX2_checkIndex 10 = .ok (.invokespecial 217, 3) := by decide +kernel
theorem dX2_checkIndex_13 : decode cX2_checkIndex 13 = .ok (.athrow, 1) := by decide +kernel
theorem dX2_checkIndex_14 : decode cX2_checkIndex 14 = .ok (.return_, 1) := by decide +kernel
theorem dX2_trackOrNull_0 : decode cX2_trackOrNull 0 = .ok (.iload_n 1, 1) := by decide +kernel
theorem dX2_trackOrNull_1 : decode cX2_trackOrNull 1 = .ok (.ifCond .lt 21, 3) := by decide +kernel
theorem dX2_trackOrNull_4 : decode cX2_trackOrNull 4 = .ok (.iload_n 1, 1) := by decide +kernel
theorem dX2_trackOrNull_5 : decode cX2_trackOrNull 5 = .ok (.aload_n 0, 1) := by decide +kernel
theorem dX2_trackOrNull_6 : decode cX2_trackOrNull 6 = .ok (.getfield 11, 3) := by decide +kernel
theorem dX2_trackOrNull_9 : decode cX2_trackOrNull 9 = .ok (.arraylength, 1) := by decide +kernel
theorem dX2_trackOrNull_10 : decode cX2_trackOrNull 10 = .ok (.if_icmp .ge 12, 3) := by decide +kernel
theorem dX2_trackOrNull_13 : decode cX2_trackOrNull 13 = .ok (.aload_n 0, 1) := by decide +kernel
theorem dX2_trackOrNull_14 : decode cX2_trackOrNull 14 = .ok (.getfield 11, 3) := by decide +kernel
theorem dX2_trackOrNull_17 : decode cX2_trackOrNull 17 = .ok (.iload_n 1, 1) := by decide +kernel
theorem dX2_trackOrNull_18 : decode cX2_trackOrNull 18 = .ok (.aaload, 1) := by decide +kernel
theorem dX2_trackOrNull_19 : decode cX2_trackOrNull 19 = .ok (.goto 4, 3) := by decide +kernel
theorem dX2_trackOrNull_22 : decode cX2_trackOrNull 22 = .ok (.aconst_null, 1) := by decide +kernel
theorem dX2_trackOrNull_23 : decode cX2_trackOrNull 23 = .ok (.areturn, 1) := by decide +kernel
theorem dX2_sectionOrNull_0 : decode cX2_sectionOrNull 0 = .ok (.iload_n 1, 1) := by decide +kernel
theorem dX2_sectionOrNull_1 : decode cX2_sectionOrNull 1 = .ok (.ifCond .lt 21, 3) := by decide +kernel
theorem dX2_sectionOrNull_4 : decode cX2_sectionOrNull 4 = .ok (.iload_n 1, 1) := by decide +kernel
theorem dX2_sectionOrNull_5 : decode cX2_sectionOrNull 5 = .ok (.aload_n 0, 1) := by decide +kernel
theorem dX2_sectionOrNull_6 : decode cX2_sectionOrNull 6 = .ok (.getfield 21, 3) := by decide +kernel
theorem dX2_sectionOrNull_9 : decode cX2_sectionOrNull 9 = .ok (.arraylength, 1) := by decide +kernel
theorem dX2_sectionOrNull_10 : decode cX2_sectionOrNull 10 = .ok (.if_icmp .ge 12, 3) := by decide +kernel
theorem dX2_sectionOrNull_13 : decode cX2_sectionOrNull 13 = .ok (.aload_n 0, 1) := by decide +kernel
theorem dX2_sectionOrNull_14 : decode cX2_sectionOrNull 14 = .ok (.getfield 21, 3) := by decide +kernel
theorem dX2_sectionOrNull_17 : decode cX2_sectionOrNull 17 = .ok (.iload_n 1, 1) := by decide +kernel
theorem dX2_sectionOrNull_18 : decode cX2_sectionOrNull 18 = .ok (.aaload, 1) := by decide +kernel
theorem dX2_sectionOrNull_19 : decode cX2_sectionOrNull 19 = .ok (.goto 4, 3) := by decide +kernel
theorem dX2_sectionOrNull_22 : decode cX2_sectionOrNull 22 = .ok (.aconst_null, 1) := by decide +kernel
theorem dX2_sectionOrNull_23 : decode cX2_sectionOrNull 23 = .ok (.areturn, 1) := by decide +kernel
theorem dX2_existingTrack_0 : decode cX2_existingTrack 0 = .ok (.aload_n 0, 1) := by decide +kernel
theorem dX2_existingTrack_1 : decode cX2_existingTrack 1 = .ok (.iload_n 1, 1) := by decide +kernel
theorem dX2_existingTrack_2 : decode cX2_existingTrack 2 = .ok (.invokevirtual 146, 3) := by decide +kernel
theorem dX2_existingTrack_5 : decode cX2_existingTrack 5 = .ok (.astore_n 2, 1) := by decide +kernel
theorem dX2_existingTrack_6 : decode cX2_existingTrack 6 = .ok (.aload_n 2, 1) := by decide +kernel
theorem dX2_existingTrack_7 : decode cX2_existingTrack 7 = .ok (.ifnonnull 13, 3) := by decide +kernel
theorem dX2_existingTrack_10 : decode cX2_existingTrack 10 = .ok (.new 213, 3) := by decide +kernel
theorem dX2_existingTrack_13 : decode cX2_existingTrack 13 = .ok (.dup, 1) := by decide +kernel
theorem dX2_existingTrack_14 : decode cX2_existingTrack 14 = .ok (.ldc 218, 2) := by decide +kernel
theorem dX2_existingTrack_16 : decode cX2_existingTrack 16 = .ok (.invokespecial 217, 3) := by decide +kernel
theorem dX2_existingTrack_19 : decode cX2_existingTrack 19 = .ok (.athrow, 1) := by decide +kernel
theorem dX2_existingTrack_20 : decode cX2_existingTrack 20 = .ok (.aload_n 2, 1) := by decide +kernel
theorem dX2_existingTrack_21 : decode cX2_existingTrack 21 = .ok (.areturn, 1) := by decide +kernel
theorem dX2_trackWithStep_0 : decode cX2_trackWithStep 0 = .ok (.aload_n 0, 1) := by decide +kernel
theorem dX2_trackWithStep_1 : decode cX2_trackWithStep 1 = .ok (.iload_n 1, 1) := by decide +kernel
theorem dX2_trackWithStep_2 : decode cX2_trackWithStep 2 = .ok (.invokevirtual 68, 3) := by decide +kernel
theorem dX2_trackWithStep_5 : decode cX2_trackWithStep 5 = .ok (.astore_n 3, 1) := by decide +kernel
theorem dX2_trackWithStep_6 : decode cX2_trackWithStep 6 = .ok (.iload_n 2, 1) := by decide +kernel
theorem dX2_trackWithStep_7 : decode cX2_trackWithStep 7 = .ok (.iconst 0, 1) := by decide +kernel
theorem dX2_trackWithStep_8 : decode cX2_trackWithStep 8 = .ok (.aload_n 3, 1) := by decide +kernel
theorem dX2_trackWithStep_9 : decode cX2_trackWithStep 9 = .ok (.getfield 91, 3) := by decide +kernel
theorem dX2_trackWithStep_12 : decode cX2_trackWithStep 12 = .ok (.iconst 1, 1) := by decide +kernel
theorem dX2_trackWithStep_13 : decode cX2_trackWithStep 13 = .ok (.isub, 1) := by decide +kernel
theorem dX2_trackWithStep_14 : decode cX2_trackWithStep 14 = .ok (.invokestatic 31, 3) := by decide +kernel
theorem dX2_trackWithStep_17 : decode cX2_trackWithStep 17 = .ok (.invokestatic 61, 3) := by decide +kernel
theorem dX2_trackWithStep_20 : decode cX2_trackWithStep 20 = .ok (.aload_n 3, 1) := by decide +kernel
theorem dX2_trackWithStep_21 : decode cX2_trackWithStep 21 = .ok (.areturn, 1) := by decide +kernel
theorem dX2_songTicks_0 : decode cX2_songTicks 0 = .ok (.aload_n 0, 1) := by decide +kernel
theorem dX2_songTicks_1 : decode cX2_songTicks 1 = .ok (.aload_n 0, 1) := by decide +kernel
theorem dX2_songTicks_2 : decode cX2_songTicks 2 = .ok (.getfield 25, 3) := by decide +kernel
theorem dX2_songTicks_5 : decode cX2_songTicks 5 = .ok (.iconst 1, 1) := by decide +kernel
theorem dX2_songTicks_6 : decode cX2_songTicks 6 = .ok (.isub, 1) := by decide +kernel
theorem dX2_songTicks_7 : decode cX2_songTicks 7 = .ok (.invokevirtual 194, 3) := by decide +kernel
theorem dX2_songTicks_10 : decode cX2_songTicks 10 = .ok (.astore_n 1, 1) := by decide +kernel
theorem dX2_songTicks_11 : decode cX2_songTicks 11 = .ok (.aload_n 1, 1) := by decide +kernel
theorem dX2_songTicks_12 : decode cX2_songTicks 12 = .ok (.ifnonnull 7, 3) := by decide +kernel
theorem dX2_songTicks_15 : decode cX2_songTicks 15 = .ok (.iconst 0, 1) := by decide +kernel
theorem dX2_songTicks_16 : decode cX2_songTicks 16 = .ok (.goto 12, 3) := by decide +kernel
theorem dX2_songTicks_19 : decode cX2_songTicks 19 = .ok (.aload_n 1, 1) := by decide +kernel
theorem dX2_songTicks_20 : decode cX2_songTicks 20 = .ok (.getfield 220, 3) := by decide +kernel
theorem dX2_songTicks_23 : decode cX2_songTicks 23 = .ok (.aload_n 1, 1) := by decide +kernel
theorem dX2_songTicks_24 : decode cX2_songTicks 24 = .ok (.getfield 198, 3) := by decide +kernel
theorem dX2_songTicks_27 : decode cX2_songTicks 27 = .ok (.iadd, 1) := by decide +kernel
theorem dX2_songTicks_28 : decode cX2_songTicks 28 = .ok (.ireturn, 1) := by decide +kernel
theorem dX2_sectionNumber_0 : decode cX2_sectionNumber 0 = .ok (.iconst 0, 1) := by decide +kernel
theorem dX2_sectionNumber_1 : decode cX2_sectionNumber 1 = .ok (.istore_n 2, 1) := by decide +kernel
theorem dX2_sectionNumber_2 : decode cX2_sectionNumber 2 = .ok (.iload_n 2, 1) := by decide +kernel
theorem dX2_sectionNumber_3 : decode cX2_sectionNumber 3 = .ok (.aload_n 0, 1) := by decide +kernel
theorem dX2_sectionNumber_4 : decode cX2_sectionNumber 4 = .ok (.getfield 25, 3) := by decide +kernel
theorem dX2_sectionNumber_7 : decode cX2_sectionNumber 7 = .ok (.if_icmp .ge 34, 3) := by decide +kernel
theorem dX2_sectionNumber_10 : decode cX2_sectionNumber 10 = .ok (.aload_n 0, 1) := by decide +kernel
theorem dX2_sectionNumber_11 : decode cX2_sectionNumber 11 = .ok (.iload_n 2, 1) := by decide +kernel
theorem dX2_sectionNumber_12 : decode cX2_sectionNumber 12 = .ok (.invokevirtual 194, 3) := by decide +kernel
theorem dX2_sectionNumber_15 : decode cX2_sectionNumber 15 = .ok (.astore_n 3, 1) := by decide +kernel
theorem dX2_sectionNumber_16 : decode cX2_sectionNumber 16 = .ok (.aload_n 3, 1) := by decide +kernel
theorem dX2_sectionNumber_17 : decode cX2_sectionNumber 17 = .ok (.ifnull 18, 3) := by decide +kernel
theorem dX2_sectionNumber_20 : decode cX2_sectionNumber 20 = .ok (.iload_n 1, 1) := by decide +kernel
theorem dX2_sectionNumber_21 : decode cX2_sectionNumber 21 = .ok (.aload_n 3, 1) := by decide +kernel
theorem dX2_sectionNumber_22 : decode cX2_sectionNumber 22 = .ok (.getfield 220, 3) := by decide +kernel
theorem dX2_sectionNumber_25 : decode cX2_sectionNumber 25 = .ok (.aload_n 3, 1) := by decide +kernel
theorem dX2_sectionNumber_26 : decode cX2_sectionNumber 26 = .ok (.getfield 198, 3) := by decide +kernel
theorem dX2_sectionNumber_29 : decode cX2_sectionNumber 29 = .ok (.iadd, 1) := by decide +kernel
theorem dX2_sectionNumber_30 : decode cX2_sectionNumber 30 = .ok (.if_icmp .ge 5, 3) := by decide +kernel
theorem dX2_sectionNumber_33 : decode cX2_sectionNumber 33 = .ok (.iload_n 2, 1) := by decide +kernel
theorem dX2_sectionNumber_34 : decode cX2_sectionNumber 34 = .ok (.ireturn, 1) := by decide +kernel
theorem dX2_sectionNumber_35 : decode cX2_sectionNumber 35 = .ok (.iinc 2 1, 3) := by decide +kernel
theorem dX2_sectionNumber_38 : decode cX2_sectionNumber 38 = .ok (.goto (-36), 3) := by decide +kernel
theorem dX2_sectionNumber_41 : decode cX2_sectionNumber 41 = .ok (.iconst (-1), 1) := by decide +kernel
theorem dX2_sectionNumber_42 : decode cX2_sectionNumber 42 = .ok (.ireturn, 1) := by decide +kernel
theorem dX2_localTime_0 : decode cX2_localTime 0 = .ok (.aload_n 0, 1) := by decide +kernel
theorem dX2_localTime_1 : decode cX2_localTime 1 = .ok (.getfield 25, 3) := by decide +kernel
theorem dX2_localTime_4 : decode cX2_localTime 4 = .ok (.ifCond .ne 5, 3) := by decide +kernel
theorem dX2_localTime_7 : decode cX2_localTime 7 = .ok (.iload_n 2, 1) := by decide +kernel
theorem dX2_localTime_8 : decode cX2_localTime 8 = .ok (.ireturn, 1) := by decide +kernel
theorem dX2_localTime_9 : decode cX2_localTime 9 = .ok (.aload_n 0, 1) := by decide +kernel
theorem dX2_localTime_10 : decode cX2_localTime 10 = .ok (.aload_n 0, 1) := by decide +kernel
theorem dX2_localTime_11 : decode cX2_localTime 11 = .ok (.iload_n 2, 1) := by decide +kernel
theorem dX2_localTime_12 : decode cX2_localTime 12 = .ok (.invokevirtual 125, 3) := by decide +kernel
theorem dX2_localTime_15 : decode cX2_localTime 15 = .ok (.invokevirtual 194, 3) := by decide +kernel
theorem dX2_localTime_18 : decode cX2_localTime 18 = .ok (.astore_n 3, 1) := by decide +kernel
theorem dX2_localTime_19 : decode cX2_localTime 19 = .ok (.aload_n 3, 1) := by decide +kernel
theorem dX2_localTime_20 : decode cX2_localTime 20 = .ok (.ifnull 14, 3) := by decide +kernel
theorem dX2_localTime_23 : decode cX2_localTime 23 = .ok (.aload_n 3, 1) := by decide +kernel
theorem dX2_localTime_24 : decode cX2_localTime 24 = .ok (.getfield 201, 3) := by decide +kernel
theorem dX2_localTime_27 : decode cX2_localTime 27 = .ok (.iload_n 1, 1) := by decide +kernel
theorem dX2_localTime_28 : decode cX2_localTime 28 = .ok (.invokestatic 149, 3) := by decide +kernel
theorem dX2_localTime_31 : decode cX2_localTime 31 = .ok (.ifCond .ne 5, 3) := by decide +kernel
theorem dX2_localTime_34 : decode cX2_localTime 34 = .ok (.iconst (-1), 1) := by decide +kernel
theorem dX2_localTime_35 : decode cX2_localTime 35 = .ok (.ireturn, 1) := by decide +kernel
theorem dX2_localTime_36 : decode cX2_localTime 36 = .ok (.aload_n 3, 1) := by decide +kernel
theorem dX2_localTime_37 : decode cX2_localTime 37 = .ok (.getfield 204, 3) := by decide +kernel
theorem dX2_localTime_40 : decode cX2_localTime 40 = .ok (.ifCond .eq 12, 3) := by decide +kernel
theorem dX2_localTime_43 : decode cX2_localTime 43 = .ok (.iload_n 2, 1) := by decide +kernel
theorem dX2_localTime_44 : decode cX2_localTime 44 = .ok (.aload_n 3, 1) := by decide +kernel
theorem dX2_localTime_45 : decode cX2_localTime 45 = .ok (.getfield 220, 3) := by decide +kernel
theorem dX2_localTime_48 : decode cX2_localTime 48 = .ok (.isub, 1) := by decide +kernel
theorem dX2_localTime_49 : decode cX2_localTime 49 = .ok (.goto 4, 3) := by decide +kernel
theorem dX2_localTime_52 : decode cX2_localTime 52 = .ok (.iload_n 2, 1) := by decide +kernel
theorem dX2_localTime_53 : decode cX2_localTime 53 = .ok (.ireturn, 1) := by decide +kernel
theorem dX2_isAnySolo_0 : decode cX2_isAnySolo 0 = .ok (.iconst 0, 1) := by decide +kernel
theorem dX2_isAnySolo_1 : decode cX2_isAnySolo 1 = .ok (.istore_n 1, 1) := by decide +kernel
theorem dX2_isAnySolo_2 : decode cX2_isAnySolo 2 = .ok (.iload_n 1, 1) := by decide +kernel
theorem dX2_isAnySolo_3 : decode cX2_isAnySolo 3 = .ok (.aload_n 0, 1) := by decide +kernel
theorem dX2_isAnySolo_4 : decode cX2_isAnySolo 4 = .ok (.getfield 15, 3) := by decide +kernel
theorem dX2_isAnySolo_7 : decode cX2_isAnySolo 7 = .ok (.if_icmp .ge 28, 3) := by decide +kernel
theorem dX2_isAnySolo_10 : decode cX2_isAnySolo 10 = .ok (.aload_n 0, 1) := by decide +kernel
theorem dX2_isAnySolo_11 : decode cX2_isAnySolo 11 = .ok (.iload_n 1, 1) := by decide +kernel
theorem dX2_isAnySolo_12 : decode cX2_isAnySolo 12 = .ok (.invokevirtual 146, 3) := by decide +kernel
theorem dX2_isAnySolo_15 : decode cX2_isAnySolo 15 = .ok (.astore_n 2, 1) := by decide +kernel
theorem dX2_isAnySolo_16 : decode cX2_isAnySolo 16 = .ok (.aload_n 2, 1) := by decide +kernel
theorem dX2_isAnySolo_17 : decode cX2_isAnySolo 17 = .ok (.ifnull 12, 3) := by decide +kernel
theorem dX2_isAnySolo_20 : decode cX2_isAnySolo 20 = .ok (.aload_n 2, 1) := by decide +kernel
theorem dX2_isAnySolo_21 : decode cX2_isAnySolo 21 = .ok (.getfield 223, 3) := by decide +kernel
theorem dX2_isAnySolo_24 : decode cX2_isAnySolo 24 = .ok (.ifCond .eq 5, 3) := by decide +kernel
theorem dX2_isAnySolo_27 : decode cX2_isAnySolo 27 = .ok (.iconst 1, 1) := by decide +kernel
theorem dX2_isAnySolo_28 : decode cX2_isAnySolo 28 = .ok (.ireturn, 1) := by decide +kernel
theorem dX2_isAnySolo_29 : decode cX2_isAnySolo 29 = .ok (.iinc 1 1, 3) := by decide +kernel
theorem dX2_isAnySolo_32 : decode cX2_isAnySolo 32 = .ok (.goto (-30), 3) := by decide +kernel
theorem dX2_isAnySolo_35 : decode cX2_isAnySolo 35 = .ok (.iconst 0, 1) := by decide +kernel
theorem dX2_isAnySolo_36 : decode cX2_isAnySolo 36 = .ok (.ireturn, 1) := by decide +kernel
theorem dX2_isSilenced_0 : decode cX2_isSilenced 0 = .ok (.aload_n 1, 1) := by decide +kernel
theorem dX2_isSilenced_1 : decode cX2_isSilenced 1 = .ok (.getfield 226, 3) := by decide +kernel
theorem dX2_isSilenced_4 : decode cX2_isSilenced 4 = .ok (.ifCond .ne 17, 3) := by decide +kernel
theorem dX2_isSilenced_7 : decode cX2_isSilenced 7 = .ok (.aload_n 1, 1) := by decide +kernel
theorem dX2_isSilenced_8 : decode cX2_isSilenced 8 = .ok (.getfield 223, 3) := by decide +kernel
theorem dX2_isSilenced_11 : decode cX2_isSilenced 11 = .ok (.ifCond .ne 14, 3) := by decide +kernel
theorem dX2_isSilenced_14 : decode cX2_isSilenced 14 = .ok (.aload_n 0, 1) := by decide +kernel
theorem dX2_isSilenced_15 : decode cX2_isSilenced 15 = .ok (.invokevirtual 229, 3) := by decide +kernel
theorem dX2_isSilenced_18 : decode cX2_isSilenced 18 = .ok (.ifCond .eq 7, 3) := by decide +kernel
theorem dX2_isSilenced_21 : decode cX2_isSilenced 21 = .ok (.iconst 1, 1) := by decide +kernel
theorem dX2_isSilenced_22 : decode cX2_isSilenced 22 = .ok (.goto 4, 3) := by decide +kernel
theorem dX2_isSilenced_25 : decode cX2_isSilenced 25 = .ok (.iconst 0, 1) := by decide +kernel
theorem dX2_isSilenced_26 : decode cX2_isSilenced 26 = .ok (.ireturn, 1) := by decide +kernel
theorem dX2_struckForce_0 : decode cX2_struckForce 0 = .ok (.aload_n 0, 1) := by decide +kernel
theorem dX2_struckForce_1 : decode cX2_struckForce 1 = .ok (.iload_n 1, 1) := by decide +kernel
theorem dX2_struckForce_2 : decode cX2_struckForce 2 = .ok (.invokevirtual 146, 3) := by decide +kernel
theorem dX2_struckForce_5 : decode cX2_struckForce 5 = .ok (.astore_n 3, 1) := by decide +kernel
theorem dX2_struckForce_6 : decode cX2_struckForce 6 = .ok (.aload_n 3, 1) := by decide +kernel
theorem dX2_struckForce_7 : decode cX2_struckForce 7 = .ok (.ifnull 11, 3) := by decide +kernel
theorem dX2_struckForce_10 : decode cX2_struckForce 10 = .ok (.aload_n 0, 1) := by decide +kernel
theorem dX2_struckForce_11 : decode cX2_struckForce 11 = .ok (.aload_n 3, 1) := by decide +kernel
theorem dX2_struckForce_12 : decode cX2_struckForce 12 = .ok (.invokevirtual 233, 3) := by decide +kernel
theorem dX2_struckForce_15 : decode cX2_struckForce 15 = .ok (.ifCond .eq 5, 3) := by decide +kernel
theorem dX2_struckForce_18 : decode cX2_struckForce 18 = .ok (.iconst 0, 1) := by decide +kernel
theorem dX2_struckForce_19 : decode cX2_struckForce 19 = .ok (.ireturn, 1) := by decide +kernel
theorem dX2_struckForce_20 : decode cX2_struckForce 20 = .ok (.aload_n 0, 1) := by decide +kernel
theorem dX2_struckForce_21 : decode cX2_struckForce 21 = .ok (.iload_n 1, 1) := by decide +kernel
theorem dX2_struckForce_22 : decode cX2_struckForce 22 = .ok (.iload_n 2, 1) := by decide +kernel
theorem dX2_struckForce_23 : decode cX2_struckForce 23 = .ok (.invokevirtual 237, 3) := by decide +kernel
theorem dX2_struckForce_26 : decode cX2_struckForce 26 = .ok (.istore 4, 2) := by decide +kernel
theorem dX2_struckForce_28 : decode cX2_struckForce 28 = .ok (.iload 4, 2) := by decide +kernel
theorem dX2_struckForce_30 : decode cX2_struckForce 30 = .ok (.iconst (-1), 1) := by decide +kernel
theorem dX2_struckForce_31 : decode cX2_struckForce 31 = .ok (.if_icmp .ne 7, 3) := by decide +kernel
theorem dX2_struckForce_34 : decode cX2_struckForce 34 = .ok (.iconst 0, 1) := by decide +kernel
theorem dX2_struckForce_35 : decode cX2_struckForce 35 = .ok (.goto 9, 3) := by decide +kernel
theorem dX2_struckForce_38 : decode cX2_struckForce 38 = .ok (.aload_n 3, 1) := by decide +kernel
theorem dX2_struckForce_39 : decode cX2_struckForce 39 = .ok (.iload 4, 2) := by decide +kernel
theorem dX2_struckForce_41 : decode cX2_struckForce 41 = .ok (.invokevirtual 240, 3) := by decide +kernel
theorem dX2_struckForce_44 : decode cX2_struckForce 44 = .ok (.ireturn, 1) := by decide +kernel
theorem dX2_makesHit_0 : decode cX2_makesHit 0 = .ok (.aload_n 0, 1) := by decide +kernel
theorem dX2_makesHit_1 : decode cX2_makesHit 1 = .ok (.iload_n 1, 1) := by decide +kernel
theorem dX2_makesHit_2 : decode cX2_makesHit 2 = .ok (.invokevirtual 146, 3) := by decide +kernel
theorem dX2_makesHit_5 : decode cX2_makesHit 5 = .ok (.astore_n 3, 1) := by decide +kernel
theorem dX2_makesHit_6 : decode cX2_makesHit 6 = .ok (.aload_n 3, 1) := by decide +kernel
theorem dX2_makesHit_7 : decode cX2_makesHit 7 = .ok (.ifnull 23, 3) := by decide +kernel
theorem dX2_makesHit_10 : decode cX2_makesHit 10 = .ok (.aload_n 3, 1) := by decide +kernel
theorem dX2_makesHit_11 : decode cX2_makesHit 11 = .ok (.getfield 243, 3) := by decide +kernel
theorem dX2_makesHit_14 : decode cX2_makesHit 14 = .ok (.ifCond .ne 16, 3) := by decide +kernel
theorem dX2_makesHit_17 : decode cX2_makesHit 17 = .ok (.aload_n 0, 1) := by decide +kernel
theorem dX2_makesHit_18 : decode cX2_makesHit 18 = .ok (.iload_n 1, 1) := by decide +kernel
theorem dX2_makesHit_19 : decode cX2_makesHit 19 = .ok (.iload_n 2, 1) := by decide +kernel
theorem dX2_makesHit_20 : decode cX2_makesHit 20 = .ok (.invokevirtual 132, 3) := by decide +kernel
theorem dX2_makesHit_23 : decode cX2_makesHit 23 = .ok (.ifCond .le 7, 3) := by decide +kernel
theorem dX2_makesHit_26 : decode cX2_makesHit 26 = .ok (.iconst 1, 1) := by decide +kernel
theorem dX2_makesHit_27 : decode cX2_makesHit 27 = .ok (.goto 4, 3) := by decide +kernel
theorem dX2_makesHit_30 : decode cX2_makesHit 30 = .ok (.iconst 0, 1) := by decide +kernel
theorem dX2_makesHit_31 : decode cX2_makesHit 31 = .ok (.ireturn, 1) := by decide +kernel
theorem dX2_accentForce_0 : decode cX2_accentForce 0 = .ok (.iconst 0, 1) := by decide +kernel
theorem dX2_accentForce_1 : decode cX2_accentForce 1 = .ok (.istore_n 2, 1) := by decide +kernel
theorem dX2_accentForce_2 : decode cX2_accentForce 2 = .ok (.iconst 0, 1) := by decide +kernel
theorem dX2_accentForce_3 : decode cX2_accentForce 3 = .ok (.istore_n 3, 1) := by decide +kernel
theorem dX2_accentForce_4 : decode cX2_accentForce 4 = .ok (.iload_n 3, 1) := by decide +kernel
theorem dX2_accentForce_5 : decode cX2_accentForce 5 = .ok (.aload_n 0, 1) := by decide +kernel
theorem dX2_accentForce_6 : decode cX2_accentForce 6 = .ok (.getfield 15, 3) := by decide +kernel
theorem dX2_accentForce_9 : decode cX2_accentForce 9 = .ok (.if_icmp .ge 38, 3) := by decide +kernel
theorem dX2_accentForce_12 : decode cX2_accentForce 12 = .ok (.aload_n 0, 1) := by decide +kernel
theorem dX2_accentForce_13 : decode cX2_accentForce 13 = .ok (.iload_n 3, 1) := by decide +kernel
theorem dX2_accentForce_14 : decode cX2_accentForce 14 = .ok (.invokevirtual 146, 3) := by decide +kernel
theorem dX2_accentForce_17 : decode cX2_accentForce 17 = .ok (.astore 4, 2) := by decide +kernel
theorem dX2_accentForce_19 : decode cX2_accentForce 19 = .ok (.aload 4, 2) := by decide +kernel
theorem dX2_accentForce_21 : decode cX2_accentForce 21 = .ok (.ifnull 20, 3) := by decide +kernel
theorem dX2_accentForce_24 : decode cX2_accentForce 24 = .ok (.aload 4, 2) := by decide +kernel
theorem dX2_accentForce_26 : decode cX2_accentForce 26 = .ok (.getfield 243, 3) := by decide +kernel
theorem dX2_accentForce_29 : decode cX2_accentForce 29 = .ok (.ifCond .eq 12, 3) := by decide +kernel
theorem dX2_accentForce_32 : decode cX2_accentForce 32 = .ok (.iload_n 2, 1) := by decide +kernel
theorem dX2_accentForce_33 : decode cX2_accentForce 33 = .ok (.aload_n 0, 1) := by decide +kernel
theorem dX2_accentForce_34 : decode cX2_accentForce 34 = .ok (.iload_n 3, 1) := by decide +kernel
theorem dX2_accentForce_35 : decode cX2_accentForce 35 = .ok (.iload_n 1, 1) := by decide +kernel
theorem dX2_accentForce_36 : decode cX2_accentForce 36 = .ok (.invokevirtual 132, 3) := by decide +kernel
theorem dX2_accentForce_39 : decode cX2_accentForce 39 = .ok (.iadd, 1) := by decide +kernel
theorem dX2_accentForce_40 : decode cX2_accentForce 40 = .ok (.istore_n 2, 1) := by decide +kernel
theorem dX2_accentForce_41 : decode cX2_accentForce 41 = .ok (.iinc 3 1, 3) := by decide +kernel
theorem dX2_accentForce_44 : decode cX2_accentForce 44 = .ok (.goto (-40), 3) := by decide +kernel
theorem dX2_accentForce_47 : decode cX2_accentForce 47 = .ok (.iload_n 2, 1) := by decide +kernel
theorem dX2_accentForce_48 : decode cX2_accentForce 48 = .ok (.ireturn, 1) := by decide +kernel
theorem dX2_hitSet_0 : decode cX2_hitSet 0 = .ok (.iconst 0, 1) := by decide +kernel
theorem dX2_hitSet_1 : decode cX2_hitSet 1 = .ok (.istore_n 2, 1) := by decide +kernel
theorem dX2_hitSet_2 : decode cX2_hitSet 2 = .ok (.iconst 0, 1) := by decide +kernel
theorem dX2_hitSet_3 : decode cX2_hitSet 3 = .ok (.istore_n 3, 1) := by decide +kernel
theorem dX2_hitSet_4 : decode cX2_hitSet 4 = .ok (.iload_n 3, 1) := by decide +kernel
theorem dX2_hitSet_5 : decode cX2_hitSet 5 = .ok (.aload_n 0, 1) := by decide +kernel
theorem dX2_hitSet_6 : decode cX2_hitSet 6 = .ok (.getfield 15, 3) := by decide +kernel
theorem dX2_hitSet_9 : decode cX2_hitSet 9 = .ok (.if_icmp .ge 24, 3) := by decide +kernel
theorem dX2_hitSet_12 : decode cX2_hitSet 12 = .ok (.aload_n 0, 1) := by decide +kernel
theorem dX2_hitSet_13 : decode cX2_hitSet 13 = .ok (.iload_n 3, 1) := by decide +kernel
theorem dX2_hitSet_14 : decode cX2_hitSet 14 = .ok (.iload_n 1, 1) := by decide +kernel
theorem dX2_hitSet_15 : decode cX2_hitSet 15 = .ok (.invokevirtual 128, 3) := by decide +kernel
theorem dX2_hitSet_18 : decode cX2_hitSet 18 = .ok (.ifCond .eq 9, 3) := by decide +kernel
theorem dX2_hitSet_21 : decode cX2_hitSet 21 = .ok (.iload_n 2, 1) := by decide +kernel
theorem dX2_hitSet_22 : decode cX2_hitSet 22 = .ok (.iconst 1, 1) := by decide +kernel
theorem dX2_hitSet_23 : decode cX2_hitSet 23 = .ok (.iload_n 3, 1) := by decide +kernel
theorem dX2_hitSet_24 : decode cX2_hitSet 24 = .ok (.ishl, 1) := by decide +kernel
theorem dX2_hitSet_25 : decode cX2_hitSet 25 = .ok (.ior, 1) := by decide +kernel
theorem dX2_hitSet_26 : decode cX2_hitSet 26 = .ok (.istore_n 2, 1) := by decide +kernel
theorem dX2_hitSet_27 : decode cX2_hitSet 27 = .ok (.iinc 3 1, 3) := by decide +kernel
theorem dX2_hitSet_30 : decode cX2_hitSet 30 = .ok (.goto (-26), 3) := by decide +kernel
theorem dX2_hitSet_33 : decode cX2_hitSet 33 = .ok (.iload_n 2, 1) := by decide +kernel
theorem dX2_hitSet_34 : decode cX2_hitSet 34 = .ok (.ireturn, 1) := by decide +kernel
theorem dX2_commonHits_0 : decode cX2_commonHits 0 = .ok (.iconst 0, 1) := by decide +kernel
theorem dX2_commonHits_1 : decode cX2_commonHits 1 = .ok (.istore 5, 2) := by decide +kernel
theorem dX2_commonHits_3 : decode cX2_commonHits 3 = .ok (.iload_n 3, 1) := by decide +kernel
theorem dX2_commonHits_4 : decode cX2_commonHits 4 = .ok (.istore 6, 2) := by decide +kernel
theorem dX2_commonHits_6 : decode cX2_commonHits 6 = .ok (.iload 6, 2) := by decide +kernel
theorem dX2_commonHits_8 : decode cX2_commonHits 8 = .ok (.iload 4, 2) := by decide +kernel
theorem dX2_commonHits_10 : decode cX2_commonHits 10 = .ok (.if_icmp .ge 32, 3) := by decide +kernel
theorem dX2_commonHits_13 : decode cX2_commonHits 13 = .ok (.aload_n 0, 1) := by decide +kernel
theorem dX2_commonHits_14 : decode cX2_commonHits 14 = .ok (.iload_n 1, 1) := by decide +kernel
theorem dX2_commonHits_15 : decode cX2_commonHits 15 = .ok (.iload 6, 2) := by decide +kernel
theorem dX2_commonHits_17 : decode cX2_commonHits 17 = .ok (.invokevirtual 128, 3) := by decide +kernel
theorem dX2_commonHits_20 : decode cX2_commonHits 20 = .ok (.ifCond .eq 16, 3) := by decide +kernel
theorem dX2_commonHits_23 : decode cX2_commonHits 23 = .ok (.aload_n 0, 1) := by decide +kernel
theorem dX2_commonHits_24 : decode cX2_commonHits 24 = .ok (.iload_n 2, 1) := by decide +kernel
theorem dX2_commonHits_25 : decode cX2_commonHits 25 = .ok (.iload 6, 2) := by decide +kernel
theorem dX2_commonHits_27 : decode cX2_commonHits 27 = .ok (.invokevirtual 128, 3) := by decide +kernel
theorem dX2_commonHits_30 : decode cX2_commonHits 30 = .ok (.ifCond .eq 6, 3) := by decide +kernel
theorem dX2_commonHits_33 : decode cX2_commonHits 33 = .ok (.iinc 5 1, 3) := by decide +kernel
theorem dX2_commonHits_36 : decode cX2_commonHits 36 = .ok (.iinc 6 1, 3) := by decide +kernel
theorem dX2_commonHits_39 : decode cX2_commonHits 39 = .ok (.goto (-33), 3) := by decide +kernel
theorem dX2_commonHits_42 : decode cX2_commonHits 42 = .ok (.iload 5, 2) := by decide +kernel
theorem dX2_commonHits_44 : decode cX2_commonHits 44 = .ok (.ireturn, 1) := by decide +kernel
theorem dX2_groupSet_0 : decode cX2_groupSet 0 = .ok (.iconst 0, 1) := by decide +kernel
theorem dX2_groupSet_1 : decode cX2_groupSet 1 = .ok (.istore_n 2, 1) := by decide +kernel
theorem dX2_groupSet_2 : decode cX2_groupSet 2 = .ok (.iconst 0, 1) := by decide +kernel
theorem dX2_groupSet_3 : decode cX2_groupSet 3 = .ok (.istore_n 3, 1) := by decide +kernel
theorem dX2_groupSet_4 : decode cX2_groupSet 4 = .ok (.iload_n 3, 1) := by decide +kernel
theorem dX2_groupSet_5 : decode cX2_groupSet 5 = .ok (.aload_n 0, 1) := by decide +kernel
theorem dX2_groupSet_6 : decode cX2_groupSet 6 = .ok (.getfield 15, 3) := by decide +kernel
theorem dX2_groupSet_9 : decode cX2_groupSet 9 = .ok (.if_icmp .ge 40, 3) := by decide +kernel
theorem dX2_groupSet_12 : decode cX2_groupSet 12 = .ok (.aload_n 0, 1) := by decide +kernel
theorem dX2_groupSet_13 : decode cX2_groupSet 13 = .ok (.iload_n 3, 1) := by decide +kernel
theorem dX2_groupSet_14 : decode cX2_groupSet 14 = .ok (.invokevirtual 146, 3) := by decide +kernel
theorem dX2_groupSet_17 : decode cX2_groupSet 17 = .ok (.astore 4, 2) := by decide +kernel
theorem dX2_groupSet_19 : decode cX2_groupSet 19 = .ok (.aload 4, 2) := by decide +kernel
theorem dX2_groupSet_21 : decode cX2_groupSet 21 = .ok (.ifnull 22, 3) := by decide +kernel
theorem dX2_groupSet_24 : decode cX2_groupSet 24 = .ok (.iload_n 1, 1) := by decide +kernel
theorem dX2_groupSet_25 : decode cX2_groupSet 25 = .ok (.ifCond .eq 18, 3) := by decide +kernel
theorem dX2_groupSet_28 : decode cX2_groupSet 28 = .ok (.aload 4, 2) := by decide +kernel
theorem dX2_groupSet_30 : decode cX2_groupSet 30 = .ok (.getfield 84, 3) := by decide +kernel
theorem dX2_groupSet_33 : decode cX2_groupSet 33 = .ok (.iload_n 1, 1) := by decide +kernel
theorem dX2_groupSet_34 : decode cX2_groupSet 34 = .ok (.if_icmp .ne 9, 3) := by decide +kernel
theorem dX2_groupSet_37 : decode cX2_groupSet 37 = .ok (.iload_n 2, 1) := by decide +kernel
theorem dX2_groupSet_38 : decode cX2_groupSet 38 = .ok (.iconst 1, 1) := by decide +kernel
theorem dX2_groupSet_39 : decode cX2_groupSet 39 = .ok (.iload_n 3, 1) := by decide +kernel
theorem dX2_groupSet_40 : decode cX2_groupSet 40 = .ok (.ishl, 1) := by decide +kernel
theorem dX2_groupSet_41 : decode cX2_groupSet 41 = .ok (.ior, 1) := by decide +kernel
theorem dX2_groupSet_42 : decode cX2_groupSet 42 = .ok (.istore_n 2, 1) := by decide +kernel
theorem dX2_groupSet_43 : decode cX2_groupSet 43 = .ok (.iinc 3 1, 3) := by decide +kernel
theorem dX2_groupSet_46 : decode cX2_groupSet 46 = .ok (.goto (-42), 3) := by decide +kernel
theorem dX2_groupSet_49 : decode cX2_groupSet 49 = .ok (.iload_n 2, 1) := by decide +kernel
theorem dX2_groupSet_50 : decode cX2_groupSet 50 = .ok (.ireturn, 1) := by decide +kernel
theorem dX2_isInSet_0 : decode cX2_isInSet 0 = .ok (.iload_n 0, 1) := by decide +kernel
theorem dX2_isInSet_1 : decode cX2_isInSet 1 = .ok (.iload_n 1, 1) := by decide +kernel
theorem dX2_isInSet_2 : decode cX2_isInSet 2 = .ok (.ishr, 1) := by decide +kernel
theorem dX2_isInSet_3 : decode cX2_isInSet 3 = .ok (.iconst 1, 1) := by decide +kernel
theorem dX2_isInSet_4 : decode cX2_isInSet 4 = .ok (.iand, 1) := by decide +kernel
theorem dX2_isInSet_5 : decode cX2_isInSet 5 = .ok (.iconst 1, 1) := by decide +kernel
theorem dX2_isInSet_6 : decode cX2_isInSet 6 = .ok (.if_icmp .ne 7, 3) := by decide +kernel
theorem dX2_isInSet_9 : decode cX2_isInSet 9 = .ok (.iconst 1, 1) := by decide +kernel
theorem dX2_isInSet_10 : decode cX2_isInSet 10 = .ok (.goto 4, 3) := by decide +kernel
theorem dX2_isInSet_13 : decode cX2_isInSet 13 = .ok (.iconst 0, 1) := by decide +kernel
theorem dX2_isInSet_14 : decode cX2_isInSet 14 = .ok (.ireturn, 1) := by decide +kernel
theorem dX2_quotient_0 : decode cX2_quotient 0 = .ok (.iload_n 1, 1) := by decide +kernel
theorem dX2_quotient_1 : decode cX2_quotient 1 = .ok (.ifCond .le 9, 3) := by decide +kernel
theorem dX2_quotient_4 : decode cX2_quotient 4 = .ok (.iload_n 0, 1) := by decide +kernel
theorem dX2_quotient_5 : decode cX2_quotient 5 = .ok (.iload_n 1, 1) := by decide +kernel
theorem dX2_quotient_6 : decode cX2_quotient 6 = .ok (.idiv, 1) := by decide +kernel
theorem dX2_quotient_7 : decode cX2_quotient 7 = .ok (.goto 4, 3) := by decide +kernel
theorem dX2_quotient_10 : decode cX2_quotient 10 = .ok (.iconst 0, 1) := by decide +kernel
theorem dX2_quotient_11 : decode cX2_quotient 11 = .ok (.ireturn, 1) := by decide +kernel
theorem dX2_rest_0 : decode cX2_rest 0 = .ok (.iload_n 1, 1) := by decide +kernel
theorem dX2_rest_1 : decode cX2_rest 1 = .ok (.ifCond .le 9, 3) := by decide +kernel
theorem dX2_rest_4 : decode cX2_rest 4 = .ok (.iload_n 0, 1) := by decide +kernel
theorem dX2_rest_5 : decode cX2_rest 5 = .ok (.iload_n 1, 1) := by decide +kernel
theorem dX2_rest_6 : decode cX2_rest 6 = .ok (.irem, 1) := by decide +kernel
theorem dX2_rest_7 : decode cX2_rest 7 = .ok (.goto 4, 3) := by decide +kernel
theorem dX2_rest_10 : decode cX2_rest 10 = .ok (.iconst 0, 1) := by decide +kernel
theorem dX2_rest_11 : decode cX2_rest 11 = .ok (.ireturn, 1) := by decide +kernel
theorem dX2_read_0 : decode cX2_read 0 = .ok (.iload_n 1, 1) := by decide +kernel
theorem dX2_read_1 : decode cX2_read 1 = .ok (.ifCond .lt 15, 3) := by decide +kernel
theorem dX2_read_4 : decode cX2_read 4 = .ok (.iload_n 1, 1) := by decide +kernel
theorem dX2_read_5 : decode cX2_read 5 = .ok (.aload_n 0, 1) := by decide +kernel
theorem dX2_read_6 : decode cX2_read 6 = .ok (.arraylength, 1) := by decide +kernel
theorem dX2_read_7 : decode cX2_read 7 = .ok (.if_icmp .ge 9, 3) := by decide +kernel
theorem dX2_read_10 : decode cX2_read 10 = .ok (.aload_n 0, 1) := by decide +kernel
theorem dX2_read_11 : decode cX2_read 11 = .ok (.iload_n 1, 1) := by decide +kernel
theorem dX2_read_12 : decode cX2_read 12 = .ok (.iaload, 1) := by decide +kernel
theorem dX2_read_13 : decode cX2_read 13 = .ok (.goto 4, 3) := by decide +kernel
theorem dX2_read_16 : decode cX2_read 16 = .ok (.iconst 0, 1) := by decide +kernel
theorem dX2_read_17 : decode cX2_read 17 = .ok (.ireturn, 1) := by decide +kernel
theorem dX2_write_0 : decode cX2_write 0 = .ok (.iload_n 1, 1) := by decide +kernel
theorem dX2_write_1 : decode cX2_write 1 = .ok (.ifCond .lt 13, 3) := by decide +kernel
theorem dX2_write_4 : decode cX2_write 4 = .ok (.iload_n 1, 1) := by decide +kernel
theorem dX2_write_5 : decode cX2_write 5 = .ok (.aload_n 0, 1) := by decide +kernel
theorem dX2_write_6 : decode cX2_write 6 = .ok (.arraylength, 1) := by decide +kernel
theorem dX2_write_7 : decode cX2_write 7 = .ok (.if_icmp .ge 7, 3) := by decide +kernel
theorem dX2_write_10 : decode cX2_write 10 = .ok (.aload_n 0, 1) := by decide +kernel
theorem dX2_write_11 : decode cX2_write 11 = .ok (.iload_n 1, 1) := by decide +kernel
theorem dX2_write_12 : decode cX2_write 12 = .ok (.iload_n 2, 1) := by decide +kernel
theorem dX2_write_13 : decode cX2_write 13 = .ok (.iastore, 1) := by decide +kernel
theorem dX2_write_14 : decode cX2_write 14 = .ok (.return_, 1) := by decide +kernel
theorem dX2_greatestCommonDivisor_0 : decode cX2_greatestCommonDivisor 0 = .ok (.lload_n 0, 1) := by decide +kernel
theorem dX2_greatestCommonDivisor_1 : decode cX2_greatestCommonDivisor 1 = .ok (.lstore 4, 2) := by decide +kernel
theorem dX2_greatestCommonDivisor_3 : decode cX2_greatestCommonDivisor 3 = .ok (.lload_n 2, 1) := by decide +kernel
theorem dX2_greatestCommonDivisor_4 : decode cX2_greatestCommonDivisor 4 = .ok (.lstore 6, 2) := by decide +kernel
theorem dX2_greatestCommonDivisor_6 : decode cX2_greatestCommonDivisor 6 = .ok (.iconst 0, 1) := by decide +kernel
theorem dX2_greatestCommonDivisor_7 : decode cX2_greatestCommonDivisor 7 = .ok (.istore 8, 2) := by decide +kernel
theorem dX2_greatestCommonDivisor_9 : decode cX2_greatestCommonDivisor 9 = .ok (.iload 8, 2) := by decide +kernel
theorem dX2_greatestCommonDivisor_11 : decode cX2_greatestCommonDivisor 11 = .ok (.ldc 246, 2) := by decide +kernel
theorem dX2_greatestCommonDivisor_13 : decode cX2_greatestCommonDivisor 13 = .ok (.if_icmp .ge 31, 3) := by decide +kernel
theorem dX2_greatestCommonDivisor_16 : decode cX2_greatestCommonDivisor 16 = .ok (.lload 6, 2) := by decide +kernel
theorem dX2_greatestCommonDivisor_18 : decode cX2_greatestCommonDivisor 18 = .ok (.lconst 0, 1) := by decide +kernel
theorem dX2_greatestCommonDivisor_19 : decode cX2_greatestCommonDivisor 19 = .ok (.lcmp, 1) := by decide +kernel
theorem dX2_greatestCommonDivisor_20 : decode cX2_greatestCommonDivisor 20 = .ok (.ifCond .le 24, 3) := by decide +kernel
theorem dX2_greatestCommonDivisor_23 : decode cX2_greatestCommonDivisor 23 = .ok (.lload 4, 2) := by decide +kernel
theorem dX2_greatestCommonDivisor_25 : decode cX2_greatestCommonDivisor 25 = .ok (.lload 6, 2) := by decide +kernel
theorem dX2_greatestCommonDivisor_27 : decode cX2_greatestCommonDivisor 27 = .ok (.lrem, 1) := by decide +kernel
theorem dX2_greatestCommonDivisor_28 : decode cX2_greatestCommonDivisor 28 = .ok (.lstore 9, 2) := by decide +kernel
theorem dX2_greatestCommonDivisor_30 : decode cX2_greatestCommonDivisor 30 = .ok (.lload 6, 2) := by decide +kernel
theorem dX2_greatestCommonDivisor_32 : decode cX2_greatestCommonDivisor 32 = .ok (.lstore 4, 2) := by decide +kernel
theorem dX2_greatestCommonDivisor_34 : decode cX2_greatestCommonDivisor 34 = .ok (.lload 9, 2) := by decide +kernel
theorem dX2_greatestCommonDivisor_36 : decode cX2_greatestCommonDivisor 36 = .ok (.lstore 6, 2) := by decide +kernel
theorem dX2_greatestCommonDivisor_38 : decode cX2_greatestCommonDivisor 38 = .ok (.iinc 8 1, 3) := by decide +kernel
theorem dX2_greatestCommonDivisor_41 : decode cX2_greatestCommonDivisor 41 = .ok (.goto (-32), 3) := by decide +kernel
theorem dX2_greatestCommonDivisor_44 : decode cX2_greatestCommonDivisor 44 = .ok (.lload 4, 2) := by decide +kernel
theorem dX2_greatestCommonDivisor_46 : decode cX2_greatestCommonDivisor 46 = .ok (.lreturn, 1) := by decide +kernel
theorem dX2_leastCommonMultiple_0 : decode cX2_leastCommonMultiple 0 = .ok (.lload_n 0, 1) := by decide +kernel
theorem dX2_leastCommonMultiple_1 : decode cX2_leastCommonMultiple 1 = .ok (.lload_n 2, 1) := by decide +kernel
theorem dX2_leastCommonMultiple_2 : decode cX2_leastCommonMultiple 2 = .ok (.invokestatic 247, 3) := by decide +kernel
theorem dX2_leastCommonMultiple_5 : decode cX2_leastCommonMultiple 5 = .ok (.lstore 4, 2) := by decide +kernel
theorem dX2_leastCommonMultiple_7 : decode cX2_leastCommonMultiple 7 = .ok (.lload 4, 2) := by decide +kernel
theorem dX2_leastCommonMultiple_9 : decode cX2_leastCommonMultiple 9 = .ok (.lconst 0, 1) := by decide +kernel
theorem dX2_leastCommonMultiple_10 : decode cX2_leastCommonMultiple 10 = .ok (.lcmp, 1) := by decide +kernel
theorem dX2_leastCommonMultiple_11 : decode cX2_leastCommonMultiple 11 = .ok (.ifCond .le 12, 3) := by decide +kernel
theorem dX2_leastCommonMultiple_14 : decode cX2_leastCommonMultiple 14 = .ok (.lload_n 0, 1) := by decide +kernel
theorem dX2_leastCommonMultiple_15 : decode cX2_leastCommonMultiple 15 = .ok (.lload 4, 2) := by decide +kernel
theorem dX2_leastCommonMultiple_17 : decode cX2_leastCommonMultiple 17 = .ok (.ldiv, 1) := by decide +kernel
theorem dX2_leastCommonMultiple_18 : decode cX2_leastCommonMultiple 18 = .ok (.lload_n 2, 1) := by decide +kernel
theorem dX2_leastCommonMultiple_19 : decode cX2_leastCommonMultiple 19 = .ok (.lmul, 1) := by decide +kernel
theorem dX2_leastCommonMultiple_20 : decode cX2_leastCommonMultiple 20 = .ok (.goto 4, 3) := by decide +kernel
theorem dX2_leastCommonMultiple_23 : decode cX2_leastCommonMultiple 23 = .ok (.lconst 0, 1) := by decide +kernel
theorem dX2_leastCommonMultiple_24 : decode cX2_leastCommonMultiple 24 = .ok (.lreturn, 1) := by decide +kernel
theorem dX2_mix_0 : decode cX2_mix 0 = .ok (.lload_n 0, 1) := by decide +kernel
theorem dX2_mix_1 : decode cX2_mix 1 = .ok (.ldc2_w 250, 3) := by decide +kernel
theorem dX2_mix_4 : decode cX2_mix 4 = .ok (.lmul, 1) := by decide +kernel
theorem dX2_mix_5 : decode cX2_mix 5 = .ok (.lload_n 2, 1) := by decide +kernel
theorem dX2_mix_6 : decode cX2_mix 6 = .ok (.ladd, 1) := by decide +kernel
theorem dX2_mix_7 : decode cX2_mix 7 = .ok (.lreturn, 1) := by decide +kernel
end
section
theorem dX3_init_0 : decode cX3_init 0 = .ok (.aload_n 0, 1) := by decide +kernel
theorem dX3_init_1 : decode cX3_init 1 = .ok (.invokespecial 1, 3) := by decide +kernel
theorem dX3_init_4 : decode cX3_init 4 = .ok (.aload_n 0, 1) := by decide +kernel
theorem dX3_init_5 : decode cX3_init 5 = .ok (.bipush 8, 2) := by decide +kernel
theorem dX3_init_7 : decode cX3_init 7 = .ok (.newarray .int, 2) := by decide +kernel
theorem dX3_init_9 : decode cX3_init 9 = .ok (.putfield 9, 3) := by decide +kernel
theorem dX3_init_12 : decode cX3_init 12 = .ok (.aload_n 0, 1) := by decide +kernel
theorem dX3_init_13 : decode cX3_init 13 = .ok (.bipush 8, 2) := by decide +kernel
theorem dX3_init_15 : decode cX3_init 15 = .ok (.newarray .int, 2) := by decide +kernel
theorem dX3_init_17 : decode cX3_init 17 = .ok (.putfield 13, 3) := by decide +kernel
theorem dX3_init_20 : decode cX3_init 20 = .ok (.aload_n 0, 1) := by decide +kernel
theorem dX3_init_21 : decode cX3_init 21 = .ok (.bipush 8, 2) := by decide +kernel
theorem dX3_init_23 : decode cX3_init 23 = .ok (.newarray .int, 2) := by decide +kernel
theorem dX3_init_25 : decode cX3_init 25 = .ok (.putfield 16, 3) := by decide +kernel
theorem dX3_init_28 : decode cX3_init 28 = .ok (.aload_n 0, 1) := by decide +kernel
theorem dX3_init_29 : decode cX3_init 29 = .ok (.bipush 8, 2) := by decide +kernel
theorem dX3_init_31 : decode cX3_init 31 = .ok (.newarray .int, 2) := by decide +kernel
theorem dX3_init_33 : decode cX3_init 33 = .ok (.putfield 19, 3) := by decide +kernel
theorem dX3_init_36 : decode cX3_init 36 = .ok (.aload_n 0, 1) := by decide +kernel
theorem dX3_init_37 : decode cX3_init 37 = .ok (.bipush 8, 2) := by decide +kernel
theorem dX3_init_39 : decode cX3_init 39 = .ok (.newarray .int, 2) := by decide +kernel
theorem dX3_init_41 : decode cX3_init 41 = .ok (.putfield 22, 3) := by decide +kernel
theorem dX3_init_44 : decode cX3_init 44 = .ok (.aload_n 0, 1) := by decide +kernel
theorem dX3_init_45 : decode cX3_init 45 = .ok (.bipush 24, 2) := by decide +kernel
theorem dX3_init_47 : decode cX3_init 47 = .ok (.newarray .boolean, 2) := by decide +kernel
theorem dX3_init_49 : decode cX3_init 49 = .ok (.putfield 25, 3) := by decide +kernel
theorem dX3_init_52 : decode cX3_init 52 = .ok (.aload_n 0, 1) := by decide +kernel
theorem dX3_init_53 : decode cX3_init 53 = .ok (.sipush 1024, 3) := by decide +kernel
theorem dX3_init_56 : decode cX3_init 56 = .ok (.newarray .int, 2) := by decide +kernel
theorem dX3_init_58 : decode cX3_init 58 = .ok (.putfield 29, 3) := by decide +kernel
theorem dX3_init_61 : decode cX3_init 61 = .ok (.aload_n 0, 1) := by decide +kernel
theorem dX3_init_62 : decode cX3_init 62 = .ok (.bipush 13, 2) := by decide +kernel
theorem dX3_init_64 : decode cX3_init 64 = .ok (.newarray .int, 2) := by decide +kernel
theorem dX3_init_66 : decode cX3_init 66 = .ok (.putfield 32, 3) := by decide +kernel
theorem dX3_init_69 : decode cX3_init 69 = .ok (.aload_n 0, 1) := by decide +kernel
theorem dX3_init_70 : decode cX3_init 70 = .ok (.bipush 12, 2) := by decide +kernel
theorem dX3_init_72 : decode cX3_init 72 = .ok (.newarray .int, 2) := by decide +kernel
theorem dX3_init_74 : decode cX3_init 74 = .ok (.putfield 35, 3) := by decide +kernel
theorem dX3_init_77 : decode cX3_init 77 = .ok (.aload_n 0, 1) := by decide +kernel
theorem dX3_init_78 : decode cX3_init 78 = .ok (.bipush 12, 2) := by decide +kernel
theorem dX3_init_80 : decode cX3_init 80 = .ok (.newarray .boolean, 2) := by decide +kernel
theorem dX3_init_82 : decode cX3_init 82 = .ok (.putfield 38, 3) := by decide +kernel
theorem dX3_init_85 : decode cX3_init 85 = .ok (.aload_n 0, 1) := by decide +kernel
theorem dX3_init_86 : decode cX3_init 86 = .ok (.bipush 120, 2) := by decide +kernel
theorem dX3_init_88 : decode cX3_init 88 = .ok (.putfield 41, 3) := by decide +kernel
theorem dX3_init_91 : decode cX3_init 91 = .ok (.return_, 1) := by decide +kernel
theorem dX3_thrown_0 : decode cX3_thrown 0 = .ok (.aload_n 0, 1) := by decide +kernel
theorem dX3_thrown_1 : decode cX3_thrown 1 = .ok (.getfield 45, 3) := by decide +kernel
theorem dX3_thrown_4 : decode cX3_thrown 4 = .ok (.ireturn, 1) := by decide +kernel
theorem dX3_no_0 : decode cX3_no 0 = .ok (.aload_n 0, 1) := by decide +kernel
theorem dX3_no_1 : decode cX3_no 1 = .ok (.iload_n 1, 1) := by decide +kernel
theorem dX3_no_2 : decode cX3_no 2 = .ok (.putfield 45, 3) := by decide +kernel
theorem dX3_no_5 : decode cX3_no 5 = .ok (.iconst 0, 1) := by decide +kernel
theorem dX3_no_6 : decode cX3_no 6 = .ok (.ireturn, 1) := by decide +kernel
theorem dX3_isIn_0 : decode cX3_isIn 0 = .ok (.iload_n 0, 1) := by decide +kernel
theorem dX3_isIn_1 : decode cX3_isIn 1 = .ok (.iload_n 1, 1) := by decide +kernel
theorem dX3_isIn_2 : decode cX3_isIn 2 = .ok (.if_icmp .lt 12, 3) := by decide +kernel
theorem dX3_isIn_5 : decode cX3_isIn 5 = .ok (.iload_n 0, 1) := by decide +kernel
theorem dX3_isIn_6 : decode cX3_isIn 6 = .ok (.iload_n 2, 1) := by decide +kernel
theorem dX3_isIn_7 : decode cX3_isIn 7 = .ok (.if_icmp .gt 7, 3) := by decide +kernel
theorem dX3_isIn_10 : decode cX3_isIn 10 = .ok (.iconst 1, 1) := by decide +kernel
theorem dX3_isIn_11 : decode cX3_isIn 11 = .ok (.goto 4, 3) := by decide +kernel
theorem dX3_isIn_14 : decode cX3_isIn 14 = .ok (.iconst 0, 1) := by decide +kernel
theorem dX3_isIn_15 : decode cX3_isIn 15 = .ok (.ireturn, 1) := by decide +kernel
theorem dX3_isTrack_0 : decode cX3_isTrack 0 = .ok (.iload_n 1, 1) := by decide +kernel
theorem dX3_isTrack_1 : decode cX3_isTrack 1 = .ok (.iconst 0, 1) := by decide +kernel
theorem dX3_isTrack_2 : decode cX3_isTrack 2 = .ok (.aload_n 0, 1) := by decide +kernel
theorem dX3_isTrack_3 : decode cX3_isTrack 3 = .ok (.getfield 48, 3) := by decide +kernel
theorem dX3_isTrack_6 : decode cX3_isTrack 6 = .ok (.iconst 1, 1) := by decide +kernel
theorem dX3_isTrack_7 : decode cX3_isTrack 7 = .ok (.isub, 1) := by decide +kernel
theorem dX3_isTrack_8 : decode cX3_isTrack 8 = .ok (.invokestatic 51, 3) := by decide +kernel
theorem dX3_isTrack_11 : decode cX3_isTrack 11 = .ok (.ireturn, 1) := by decide +kernel
theorem dX3_isStep_0 : decode cX3_isStep 0 = .ok (.aload_n 0, 1) := by decide +kernel
theorem dX3_isStep_1 : decode cX3_isStep 1 = .ok (.iload_n 1, 1) := by decide +kernel
theorem dX3_isStep_2 : decode cX3_isStep 2 = .ok (.invokevirtual 55, 3) := by decide +kernel
theorem dX3_isStep_5 : decode cX3_isStep 5 = .ok (.ifCond .eq 23, 3) := by decide +kernel
theorem dX3_isStep_8 : decode cX3_isStep 8 = .ok (.iload_n 2, 1) := by decide +kernel
theorem dX3_isStep_9 : decode cX3_isStep 9 = .ok (.iconst 0, 1) := by decide +kernel
theorem dX3_isStep_10 : decode cX3_isStep 10 = .ok (.aload_n 0, 1) := by decide +kernel
theorem dX3_isStep_11 : decode cX3_isStep 11 = .ok (.getfield 9, 3) := by decide +kernel
theorem dX3_isStep_14 : decode cX3_isStep 14 = .ok (.iload_n 1, 1) := by decide +kernel
theorem dX3_isStep_15 : decode cX3_isStep 15 = .ok (.iaload, 1) := by decide +kernel
theorem dX3_isStep_16 : decode cX3_isStep 16 = .ok (.iconst 1, 1) := by decide +kernel
theorem dX3_isStep_17 : decode cX3_isStep 17 = .ok (.isub, 1) := by decide +kernel
theorem dX3_isStep_18 : decode cX3_isStep 18 = .ok (.invokestatic 51, 3) := by decide +kernel
theorem dX3_isStep_21 : decode cX3_isStep 21 = .ok (.ifCond .eq 7, 3) := by decide +kernel
theorem dX3_isStep_24 : decode cX3_isStep 24 = .ok (.iconst 1, 1) := by decide +kernel
theorem dX3_isStep_25 : decode cX3_isStep 25 = .ok (.goto 4, 3) := by decide +kernel
theorem dX3_isStep_28 : decode cX3_isStep 28 = .ok (.iconst 0, 1) := by decide +kernel
theorem dX3_isStep_29 : decode cX3_isStep 29 = .ok (.ireturn, 1) := by decide +kernel
theorem dX3_at_0 : decode cX3_at 0 = .ok (.iconst 4, 1) := by decide +kernel
theorem dX3_at_1 : decode cX3_at 1 = .ok (.bipush 32, 2) := by decide +kernel
theorem dX3_at_3 : decode cX3_at 3 = .ok (.iload_n 0, 1) := by decide +kernel
theorem dX3_at_4 : decode cX3_at 4 = .ok (.imul, 1) := by decide +kernel
theorem dX3_at_5 : decode cX3_at 5 = .ok (.iload_n 1, 1) := by decide +kernel
theorem dX3_at_6 : decode cX3_at 6 = .ok (.iadd, 1) := by decide +kernel
theorem dX3_at_7 : decode cX3_at 7 = .ok (.imul, 1) := by decide +kernel
theorem dX3_at_8 : decode cX3_at 8 = .ok (.ireturn, 1) := by decide +kernel
theorem dX3_isTick_0 : decode cX3_isTick 0 = .ok (.iload_n 0, 1) := by decide +kernel
theorem dX3_isTick_1 : decode cX3_isTick 1 = .ok (.iconst 0, 1) := by decide +kernel
theorem dX3_isTick_2 : decode cX3_isTick 2 = .ok (.ldc 59, 2) := by decide +kernel
theorem dX3_isTick_4 : decode cX3_isTick 4 = .ok (.invokestatic 51, 3) := by decide +kernel
theorem dX3_isTick_7 : decode cX3_isTick 7 = .ok (.ireturn, 1) := by decide +kernel
theorem dX3_plain_0 : decode cX3_plain 0 = .ok (.aload_n 0, 1) := by decide +kernel
theorem dX3_plain_1 : decode cX3_plain 1 = .ok (.getfield 29, 3) := by decide +kernel
theorem dX3_plain_4 : decode cX3_plain 4 = .ok (.iload_n 1, 1) := by decide +kernel
theorem dX3_plain_5 : decode cX3_plain 5 = .ok (.iload_n 2, 1) := by decide +kernel
theorem dX3_plain_6 : decode cX3_plain 6 = .ok (.invokestatic 60, 3) := by decide +kernel
theorem dX3_plain_9 : decode cX3_plain 9 = .ok (.iconst 0, 1) := by decide +kernel
theorem dX3_plain_10 : decode cX3_plain 10 = .ok (.iadd, 1) := by decide +kernel
theorem dX3_plain_11 : decode cX3_plain 11 = .ok (.iload_n 3, 1) := by decide +kernel
theorem dX3_plain_12 : decode cX3_plain 12 = .ok (.iastore, 1) := by decide +kernel
theorem dX3_plain_13 : decode cX3_plain 13 = .ok (.aload_n 0, 1) := by decide +kernel
theorem dX3_plain_14 : decode cX3_plain 14 = .ok (.getfield 29, 3) := by decide +kernel
theorem dX3_plain_17 : decode cX3_plain 17 = .ok (.iload_n 1, 1) := by decide +kernel
theorem dX3_plain_18 : decode cX3_plain 18 = .ok (.iload_n 2, 1) := by decide +kernel
theorem dX3_plain_19 : decode cX3_plain 19 = .ok (.invokestatic 60, 3) := by decide +kernel
theorem dX3_plain_22 : decode cX3_plain 22 = .ok (.iconst 1, 1) := by decide +kernel
theorem dX3_plain_23 : decode cX3_plain 23 = .ok (.iadd, 1) := by decide +kernel
theorem dX3_plain_24 : decode cX3_plain 24 = .ok (.iconst 1, 1) := by decide +kernel
theorem dX3_plain_25 : decode cX3_plain 25 = .ok (.iastore, 1) := by decide +kernel
theorem dX3_plain_26 : decode cX3_plain 26 = .ok (.aload_n 0, 1) := by decide +kernel
theorem dX3_plain_27 : decode cX3_plain 27 = .ok (.getfield 29, 3) := by decide +kernel
theorem dX3_plain_30 : decode cX3_plain 30 = .ok (.iload_n 1, 1) := by decide +kernel
theorem dX3_plain_31 : decode cX3_plain 31 = .ok (.iload_n 2, 1) := by decide +kernel
theorem dX3_plain_32 : decode cX3_plain 32 = .ok (.invokestatic 60, 3) := by decide +kernel
theorem dX3_plain_35 : decode cX3_plain 35 = .ok (.iconst 2, 1) := by decide +kernel
theorem dX3_plain_36 : decode cX3_plain 36 = .ok (.iadd, 1) := by decide +kernel
theorem dX3_plain_37 : decode cX3_plain 37 = .ok (.iconst 0, 1) := by decide +kernel
theorem dX3_plain_38 : decode cX3_plain 38 = .ok (.iastore, 1) := by decide +kernel
theorem dX3_plain_39 : decode cX3_plain 39 = .ok (.aload_n 0, 1) := by decide +kernel
theorem dX3_plain_40 : decode cX3_plain 40 = .ok (.getfield 29, 3) := by decide +kernel
theorem dX3_plain_43 : decode cX3_plain 43 = .ok (.iload_n 1, 1) := by decide +kernel
theorem dX3_plain_44 : decode cX3_plain 44 = .ok (.iload_n 2, 1) := by decide +kernel
theorem dX3_plain_45 : decode cX3_plain 45 = .ok (.invokestatic 60, 3) := by decide +kernel
theorem dX3_plain_48 : decode cX3_plain 48 = .ok (.iconst 3, 1) := by decide +kernel
theorem dX3_plain_49 : decode cX3_plain 49 = .ok (.iadd, 1) := by decide +kernel
theorem dX3_plain_50 : decode cX3_plain 50 = .ok (.iconst 1, 1) := by decide +kernel
theorem dX3_plain_51 : decode cX3_plain 51 = .ok (.iastore, 1) := by decide +kernel
theorem dX3_plain_52 : decode cX3_plain 52 = .ok (.return_, 1) := by decide +kernel
theorem dX3_addTrack_0 : decode cX3_addTrack 0 = .ok (.aload_n 0, 1) := by decide +kernel
theorem dX3_addTrack_1 : decode cX3_addTrack 1 = .ok (.iconst 0, 1) := by decide +kernel
theorem dX3_addTrack_2 : decode cX3_addTrack 2 = .ok (.putfield 45, 3) := by decide +kernel
theorem dX3_addTrack_5 : decode cX3_addTrack 5 = .ok (.iload_n 1, 1) := by decide +kernel
theorem dX3_addTrack_6 : decode cX3_addTrack 6 = .ok (.iconst 1, 1) := by decide +kernel
theorem dX3_addTrack_7 : decode cX3_addTrack 7 = .ok (.bipush 32, 2) := by decide +kernel
theorem dX3_addTrack_9 : decode cX3_addTrack 9 = .ok (.invokestatic 51, 3) := by decide +kernel
theorem dX3_addTrack_12 : decode cX3_addTrack 12 = .ok (.ifCond .eq 13, 3) := by decide +kernel
theorem dX3_addTrack_15 : decode cX3_addTrack 15 = .ok (.iload_n 2, 1) := by decide +kernel
theorem dX3_addTrack_16 : decode cX3_addTrack 16 = .ok (.iconst 1, 1) := by decide +kernel
theorem dX3_addTrack_17 : decode cX3_addTrack 17 = .ok (.bipush 48, 2) := by decide +kernel
theorem dX3_addTrack_19 : decode cX3_addTrack 19 = .ok (.invokestatic 51, 3) := by decide +kernel
theorem dX3_addTrack_22 : decode cX3_addTrack 22 = .ok (.ifCond .ne 9, 3) := by decide +kernel
theorem dX3_addTrack_25 : decode cX3_addTrack 25 = .ok (.aload_n 0, 1) := by decide +kernel
theorem dX3_addTrack_26 : decode cX3_addTrack 26 = .ok (.iconst 1, 1) := by decide +kernel
theorem dX3_addTrack_27 : decode cX3_addTrack 27 = .ok (.invokevirtual 64, 3) := by decide +kernel
theorem dX3_addTrack_30 : decode cX3_addTrack 30 = .ok (.ireturn, 1) := by decide +kernel
theorem dX3_addTrack_31 : decode cX3_addTrack 31 = .ok (.aload_n 0, 1) := by decide +kernel
theorem dX3_addTrack_32 : decode cX3_addTrack 32 = .ok (.getfield 48, 3) := by decide +kernel
theorem dX3_addTrack_35 : decode cX3_addTrack 35 = .ok (.bipush 8, 2) := by decide +kernel
theorem dX3_addTrack_37 : decode cX3_addTrack 37 = .ok (.if_icmp .ne 9, 3) := by decide +kernel
theorem dX3_addTrack_40 : decode cX3_addTrack 40 = .ok (.aload_n 0, 1) := by decide +kernel
theorem dX3_addTrack_41 : decode cX3_addTrack 41 = .ok (.iconst 2, 1) := by decide +kernel
theorem dX3_addTrack_42 : decode cX3_addTrack 42 = .ok (.invokevirtual 64, 3) := by decide +kernel
theorem dX3_addTrack_45 : decode cX3_addTrack 45 = .ok (.ireturn, 1) := by decide +kernel
theorem dX3_addTrack_46 : decode cX3_addTrack 46 = .ok (.aload_n 0, 1) := by decide +kernel
theorem dX3_addTrack_47 : decode cX3_addTrack 47 = .ok (.getfield 9, 3) := by decide +kernel
theorem dX3_addTrack_50 : decode cX3_addTrack 50 = .ok (.aload_n 0, 1) := by decide +kernel
theorem dX3_addTrack_51 : decode cX3_addTrack 51 = .ok (.getfield 48, 3) := by decide +kernel
theorem dX3_addTrack_54 : decode cX3_addTrack 54 = .ok (.iload_n 1, 1) := by decide +kernel
theorem dX3_addTrack_55 : decode cX3_addTrack 55 = .ok (.iastore, 1) := by decide +kernel
theorem dX3_addTrack_56 : decode cX3_addTrack 56 = .ok (.aload_n 0, 1) := by decide +kernel
theorem dX3_addTrack_57 : decode cX3_addTrack 57 = .ok (.getfield 13, 3) := by decide +kernel
theorem dX3_addTrack_60 : decode cX3_addTrack 60 = .ok (.aload_n 0, 1) := by decide +kernel
theorem dX3_addTrack_61 : decode cX3_addTrack 61 = .ok (.getfield 48, 3) := by decide +kernel
theorem dX3_addTrack_64 : decode cX3_addTrack 64 = .ok (.iload_n 2, 1) := by decide +kernel
theorem dX3_addTrack_65 : decode cX3_addTrack 65 = .ok (.iastore, 1) := by decide +kernel
theorem dX3_addTrack_66 : decode cX3_addTrack 66 = .ok (.aload_n 0, 1) := by decide +kernel
theorem dX3_addTrack_67 : decode cX3_addTrack 67 = .ok (.getfield 19, 3) := by decide +kernel
theorem dX3_addTrack_70 : decode cX3_addTrack 70 = .ok (.aload_n 0, 1) := by decide +kernel
theorem dX3_addTrack_71 : decode cX3_addTrack 71 = .ok (.getfield 48, 3) := by decide +kernel
theorem dX3_addTrack_74 : decode cX3_addTrack 74 = .ok (.bipush 10, 2) := by decide +kernel
theorem dX3_addTrack_76 : decode cX3_addTrack 76 = .ok (.iastore, 1) := by decide +kernel
theorem dX3_addTrack_77 : decode cX3_addTrack 77 = .ok (.iconst 0, 1) := by decide +kernel
theorem dX3_addTrack_78 : decode cX3_addTrack 78 = .ok (.istore_n 3, 1) := by decide +kernel
theorem dX3_addTrack_79 : decode cX3_addTrack 79 = .ok (.iload_n 3, 1) := by decide +kernel
theorem dX3_addTrack_80 : decode cX3_addTrack 80 = .ok (.iload_n 1, 1) := by decide +kernel
theorem dX3_addTrack_81 : decode cX3_addTrack 81 = .ok (.if_icmp .ge 19, 3) := by decide +kernel
theorem dX3_addTrack_84 : decode cX3_addTrack 84 = .ok (.aload_n 0, 1) := by decide +kernel
theorem dX3_addTrack_85 : decode cX3_addTrack 85 = .ok (.aload_n 0, 1) := by decide +kernel
theorem dX3_addTrack_86 : decode cX3_addTrack 86 = .ok (.getfield 48, 3) := by decide +kernel
theorem dX3_addTrack_89 : decode cX3_addTrack 89 = .ok (.iload_n 3, 1) := by decide +kernel
theorem dX3_addTrack_90 : decode cX3_addTrack 90 = .ok (.iconst 0, 1) := by decide +kernel
theorem dX3_addTrack_91 : decode cX3_addTrack 91 = .ok (.invokevirtual 68, 3) := by decide +kernel
theorem dX3_addTrack_94 : decode cX3_addTrack 94 = .ok (.iinc 3 1, 3) := by decide +kernel
theorem dX3_addTrack_97 : decode cX3_addTrack 97 = .ok (.goto (-18), 3) := by decide +kernel
theorem dX3_addTrack_100 : decode cX3_addTrack 100 = .ok (.aload_n 0, 1) := by decide +kernel
theorem dX3_addTrack_101 : decode cX3_addTrack 101 = .ok (.dup, 1) := by decide +kernel
theorem dX3_addTrack_102 : decode cX3_addTrack 102 = .ok (.getfield 48, 3) := by decide +kernel
theorem dX3_addTrack_105 : decode cX3_addTrack 105 = .ok (.iconst 1, 1) := by decide +kernel
theorem dX3_addTrack_106 : decode cX3_addTrack 106 = .ok (.iadd, 1) := by decide +kernel
theorem dX3_addTrack_107 : decode cX3_addTrack 107 = .ok (.putfield 48, 3) := by decide +kernel
theorem dX3_addTrack_110 : decode cX3_addTrack 110 = .ok (.aload_n 0, 1) := by decide +kernel
theorem dX3_addTrack_111 : decode cX3_addTrack 111 = .ok (.getfield 48, 3) := by decide +kernel
theorem dX3_addTrack_114 : decode cX3_addTrack 114 = .ok (.iconst 1, 1) := by decide +kernel
theorem dX3_addTrack_115 : decode cX3_addTrack 115 = .ok (.isub, 1) := by decide +kernel
theorem dX3_addTrack_116 : decode cX3_addTrack 116 = .ok (.ireturn, 1) := by decide +kernel
theorem dX3_set_0 : decode cX3_set 0 = .ok (.aload_n 0, 1) := by decide +kernel
theorem dX3_set_1 : decode cX3_set 1 = .ok (.iconst 0, 1) := by decide +kernel
theorem dX3_set_2 : decode cX3_set 2 = .ok (.putfield 45, 3) := by decide +kernel
theorem dX3_set_5 : decode cX3_set 5 = .ok (.aload_n 0, 1) := by decide +kernel
theorem dX3_set_6 : decode cX3_set 6 = .ok (.iload_n 1, 1) := by decide +kernel
theorem dX3_set_7 : decode cX3_set 7 = .ok (.iload_n 2, 1) := by decide +kernel
theorem dX3_set_8 : decode cX3_set 8 = .ok (.invokevirtual 72, 3) := by decide +kernel
theorem dX3_set_11 : decode cX3_set 11 = .ok (.ifCond .ne 9, 3) := by decide +kernel
theorem dX3_set_14 : decode cX3_set 14 = .ok (.aload_n 0, 1) := by decide +kernel
theorem dX3_set_15 : decode cX3_set 15 = .ok (.iconst 1, 1) := by decide +kernel
theorem dX3_set_16 : decode cX3_set 16 = .ok (.invokevirtual 64, 3) := by decide +kernel
theorem dX3_set_19 : decode cX3_set 19 = .ok (.ireturn, 1) := by decide +kernel
theorem dX3_set_20 : decode cX3_set 20 = .ok (.iload_n 3, 1) := by decide +kernel
theorem dX3_set_21 : decode cX3_set 21 = .ok (.iconst 0, 1) := by decide +kernel
theorem dX3_set_22 : decode cX3_set 22 = .ok (.bipush 127, 2) := by decide +kernel
theorem dX3_set_24 : decode cX3_set 24 = .ok (.invokestatic 51, 3) := by decide +kernel
theorem dX3_set_27 : decode cX3_set 27 = .ok (.ifCond .eq 13, 3) := by decide +kernel
theorem dX3_set_30 : decode cX3_set 30 = .ok (.iload 4, 2) := by decide +kernel
theorem dX3_set_32 : decode cX3_set 32 = .ok (.iconst 1, 1) := by decide +kernel
theorem dX3_set_33 : decode cX3_set 33 = .ok (.iconst 4, 1) := by decide +kernel
theorem dX3_set_34 : decode cX3_set 34 = .ok (.invokestatic 51, 3) := by decide +kernel
theorem dX3_set_37 : decode cX3_set 37 = .ok (.ifCond .ne 9, 3) := by decide +kernel
theorem dX3_set_40 : decode cX3_set 40 = .ok (.aload_n 0, 1) := by decide +kernel
theorem dX3_set_41 : decode cX3_set 41 = .ok (.iconst 2, 1) := by decide +kernel
theorem dX3_set_42 : decode cX3_set 42 = .ok (.invokevirtual 64, 3) := by decide +kernel
theorem dX3_set_45 : decode cX3_set 45 = .ok (.ireturn, 1) := by decide +kernel
theorem dX3_set_46 : decode cX3_set 46 = .ok (.aload_n 0, 1) := by decide +kernel
theorem dX3_set_47 : decode cX3_set 47 = .ok (.getfield 29, 3) := by decide +kernel
theorem dX3_set_50 : decode cX3_set 50 = .ok (.iload_n 1, 1) := by decide +kernel
theorem dX3_set_51 : decode cX3_set 51 = .ok (.iload_n 2, 1) := by decide +kernel
theorem dX3_set_52 : decode cX3_set 52 = .ok (.invokestatic 60, 3) := by decide +kernel
theorem dX3_set_55 : decode cX3_set 55 = .ok (.iconst 0, 1) := by decide +kernel
theorem dX3_set_56 : decode cX3_set 56 = .ok (.iadd, 1) := by decide +kernel
theorem dX3_set_57 : decode cX3_set 57 = .ok (.iaload, 1) := by decide +kernel
theorem dX3_set_58 : decode cX3_set 58 = .ok (.istore 5, 2) := by decide +kernel
theorem dX3_set_60 : decode cX3_set 60 = .ok (.aload_n 0, 1) := by decide +kernel
theorem dX3_set_61 : decode cX3_set 61 = .ok (.getfield 29, 3) := by decide +kernel
theorem dX3_set_64 : decode cX3_set 64 = .ok (.iload_n 1, 1) := by decide +kernel
theorem dX3_set_65 : decode cX3_set 65 = .ok (.iload_n 2, 1) := by decide +kernel
theorem dX3_set_66 : decode cX3_set 66 = .ok (.invokestatic 60, 3) := by decide +kernel
theorem dX3_set_69 : decode cX3_set 69 = .ok (.iconst 0, 1) := by decide +kernel
theorem dX3_set_70 : decode cX3_set 70 = .ok (.iadd, 1) := by decide +kernel
theorem dX3_set_71 : decode cX3_set 71 = .ok (.iload_n 3, 1) := by decide +kernel
theorem dX3_set_72 : decode cX3_set 72 = .ok (.iastore, 1) := by decide +kernel
theorem dX3_set_73 : decode cX3_set 73 = .ok (.aload_n 0, 1) := by decide +kernel
theorem dX3_set_74 : decode cX3_set 74 = .ok (.getfield 29, 3) := by decide +kernel
theorem dX3_set_77 : decode cX3_set 77 = .ok (.iload_n 1, 1) := by decide +kernel
theorem dX3_set_78 : decode cX3_set 78 = .ok (.iload_n 2, 1) := by decide +kernel
theorem dX3_set_79 : decode cX3_set 79 = .ok (.invokestatic 60, 3) := by decide +kernel
theorem dX3_set_82 : decode cX3_set 82 = .ok (.iconst 1, 1) := by decide +kernel
theorem dX3_set_83 : decode cX3_set 83 = .ok (.iadd, 1) := by decide +kernel
theorem dX3_set_84 : decode cX3_set 84 = .ok (.iload 4, 2) := by decide +kernel
theorem dX3_set_86 : decode cX3_set 86 = .ok (.iastore, 1) := by decide +kernel
theorem dX3_set_87 : decode cX3_set 87 = .ok (.iload 5, 2) := by decide +kernel
theorem dX3_set_89 : decode cX3_set 89 = .ok (.ireturn, 1) := by decide +kernel
theorem dX3_setTurn_0 : decode cX3_setTurn 0 = .ok (.aload_n 0, 1) := by decide +kernel
theorem dX3_setTurn_1 : decode cX3_setTurn 1 = .ok (.iconst 0, 1) := by decide +kernel
theorem dX3_setTurn_2 : decode cX3_setTurn 2 = .ok (.putfield 45, 3) := by decide +kernel
theorem dX3_setTurn_5 : decode cX3_setTurn 5 = .ok (.aload_n 0, 1) := by decide +kernel
theorem dX3_setTurn_6 : decode cX3_setTurn 6 = .ok (.iload_n 1, 1) := by decide +kernel
theorem dX3_setTurn_7 : decode cX3_setTurn 7 = .ok (.iload_n 2, 1) := by decide +kernel
theorem dX3_setTurn_8 : decode cX3_setTurn 8 = .ok (.invokevirtual 72, 3) := by decide +kernel
theorem dX3_setTurn_11 : decode cX3_setTurn 11 = .ok (.ifCond .ne 9, 3) := by decide +kernel
theorem dX3_setTurn_14 : decode cX3_setTurn 14 = .ok (.aload_n 0, 1) := by decide +kernel
theorem dX3_setTurn_15 : decode cX3_setTurn 15 = .ok (.iconst 1, 1) := by decide +kernel
theorem dX3_setTurn_16 : decode cX3_setTurn 16 = .ok (.invokevirtual 64, 3) := by decide +kernel
theorem dX3_setTurn_19 : decode cX3_setTurn 19 = .ok (.ireturn, 1) := by decide +kernel
theorem dX3_setTurn_20 : decode cX3_setTurn 20 = .ok (.iload 4, 2) := by decide +kernel
theorem dX3_setTurn_22 : decode cX3_setTurn 22 = .ok (.iconst 1, 1) := by decide +kernel
theorem dX3_setTurn_23 : decode cX3_setTurn 23 = .ok (.bipush 8, 2) := by decide +kernel
theorem dX3_setTurn_25 : decode cX3_setTurn 25 = .ok (.invokestatic 51, 3) := by decide +kernel
theorem dX3_setTurn_28 : decode cX3_setTurn 28 = .ok (.ifCond .eq 15, 3) := by decide +kernel
theorem dX3_setTurn_31 : decode cX3_setTurn 31 = .ok (.iload_n 3, 1) := by decide +kernel
theorem dX3_setTurn_32 : decode cX3_setTurn 32 = .ok (.iconst 0, 1) := by decide +kernel
theorem dX3_setTurn_33 : decode cX3_setTurn 33 = .ok (.iload 4, 2) := by decide +kernel
theorem dX3_setTurn_35 : decode cX3_setTurn 35 = .ok (.iconst 1, 1) := by decide +kernel
theorem dX3_setTurn_36 : decode cX3_setTurn 36 = .ok (.isub, 1) := by decide +kernel
theorem dX3_setTurn_37 : decode cX3_setTurn 37 = .ok (.invokestatic 51, 3) := by decide +kernel
theorem dX3_setTurn_40 : decode cX3_setTurn 40 = .ok (.ifCond .ne 9, 3) := by decide +kernel
theorem dX3_setTurn_43 : decode cX3_setTurn 43 = .ok (.aload_n 0, 1) := by decide +kernel
theorem dX3_setTurn_44 : decode cX3_setTurn 44 = .ok (.iconst 2, 1) := by decide +kernel
theorem dX3_setTurn_45 : decode cX3_setTurn 45 = .ok (.invokevirtual 64, 3) := by decide +kernel
theorem dX3_setTurn_48 : decode cX3_setTurn 48 = .ok (.ireturn, 1) := by decide +kernel
theorem dX3_setTurn_49 : decode cX3_setTurn 49 = .ok (.aload_n 0, 1) := by decide +kernel
theorem dX3_setTurn_50 : decode cX3_setTurn 50 = .ok (.getfield 29, 3) := by decide +kernel
theorem dX3_setTurn_53 : decode cX3_setTurn 53 = .ok (.iload_n 1, 1) := by decide +kernel
theorem dX3_setTurn_54 : decode cX3_setTurn 54 = .ok (.iload_n 2, 1) := by decide +kernel
theorem dX3_setTurn_55 : decode cX3_setTurn 55 = .ok (.invokestatic 60, 3) := by decide +kernel
theorem dX3_setTurn_58 : decode cX3_setTurn 58 = .ok (.iconst 3, 1) := by decide +kernel
theorem dX3_setTurn_59 : decode cX3_setTurn 59 = .ok (.iadd, 1) := by decide +kernel
theorem dX3_setTurn_60 : decode cX3_setTurn 60 = .ok (.iaload, 1) := by decide +kernel
theorem dX3_setTurn_61 : decode cX3_setTurn 61 = .ok (.istore 5, 2) := by decide +kernel
theorem dX3_setTurn_63 : decode cX3_setTurn 63 = .ok (.aload_n 0, 1) := by decide +kernel
theorem dX3_setTurn_64 : decode cX3_setTurn 64 = .ok (.getfield 29, 3) := by decide +kernel
theorem dX3_setTurn_67 : decode cX3_setTurn 67 = .ok (.iload_n 1, 1) := by decide +kernel
theorem dX3_setTurn_68 : decode cX3_setTurn 68 = .ok (.iload_n 2, 1) := by decide +kernel
theorem dX3_setTurn_69 : decode cX3_setTurn 69 = .ok (.invokestatic 60, 3) := by decide +kernel
theorem dX3_setTurn_72 : decode cX3_setTurn 72 = .ok (.iconst 2, 1) := by decide +kernel
theorem dX3_setTurn_73 : decode cX3_setTurn 73 = .ok (.iadd, 1) := by decide +kernel
theorem dX3_setTurn_74 : decode cX3_setTurn 74 = .ok (.iload_n 3, 1) := by decide +kernel
theorem dX3_setTurn_75 : decode cX3_setTurn 75 = .ok (.iastore, 1) := by decide +kernel
theorem dX3_setTurn_76 : decode cX3_setTurn 76 = .ok (.aload_n 0, 1) := by decide +kernel
theorem dX3_setTurn_77 : decode cX3_setTurn 77 = .ok (.getfield 29, 3) := by decide +kernel
theorem dX3_setTurn_80 : decode cX3_setTurn 80 = .ok (.iload_n 1, 1) := by decide +kernel
theorem dX3_setTurn_81 : decode cX3_setTurn 81 = .ok (.iload_n 2, 1) := by decide +kernel
theorem dX3_setTurn_82 : decode cX3_setTurn 82 = .ok (.invokestatic 60, 3) := by decide +kernel
theorem dX3_setTurn_85 : decode cX3_setTurn 85 = .ok (.iconst 3, 1) := by decide +kernel
theorem dX3_setTurn_86 : decode cX3_setTurn 86 = .ok (.iadd, 1) := by decide +kernel
theorem dX3_setTurn_87 : decode cX3_setTurn 87 = .ok (.iload 4, 2) := by decide +kernel
theorem dX3_setTurn_89 : decode cX3_setTurn 89 = .ok (.iastore, 1) := by decide +kernel
theorem dX3_setTurn_90 : decode cX3_setTurn 90 = .ok (.iload 5, 2) := by decide +kernel
theorem dX3_setTurn_92 : decode cX3_setTurn 92 = .ok (.ireturn, 1) := by decide +kernel
theorem dX3_delay_0 : decode cX3_delay 0 = .ok (.iload_n 2, 1) := by decide +kernel
theorem dX3_delay_1 : decode cX3_delay 1 = .ok (.iconst 2, 1) := by decide +kernel
theorem dX3_delay_2 : decode cX3_delay 2 = .ok (.irem, 1) := by decide +kernel
theorem dX3_delay_3 : decode cX3_delay 3 = .ok (.iconst 1, 1) := by decide +kernel
theorem dX3_delay_4 : decode cX3_delay 4 = .ok (.if_icmp .ne 12, 3) := by decide +kernel
theorem dX3_delay_7 : decode cX3_delay 7 = .ok (.aload_n 0, 1) := by decide +kernel
theorem dX3_delay_8 : decode cX3_delay 8 = .ok (.getfield 16, 3) := by decide +kernel
theorem dX3_delay_11 : decode cX3_delay 11 = .ok (.iload_n 1, 1) := by decide +kernel
theorem dX3_delay_12 : decode cX3_delay 12 = .ok (.iaload, 1) := by decide +kernel
theorem dX3_delay_13 : decode cX3_delay 13 = .ok (.goto 4, 3) := by decide +kernel
theorem dX3_delay_16 : decode cX3_delay 16 = .ok (.iconst 0, 1) := by decide +kernel
theorem dX3_delay_17 : decode cX3_delay 17 = .ok (.ireturn, 1) := by decide +kernel
theorem dX3_step_0 : decode cX3_step 0 = .ok (.aload_n 0, 1) := by decide +kernel
theorem dX3_step_1 : decode cX3_step 1 = .ok (.iconst 0, 1) := by decide +kernel
theorem dX3_step_2 : decode cX3_step 2 = .ok (.putfield 45, 3) := by decide +kernel
theorem dX3_step_5 : decode cX3_step 5 = .ok (.aload_n 0, 1) := by decide +kernel
theorem dX3_step_6 : decode cX3_step 6 = .ok (.iload_n 1, 1) := by decide +kernel
theorem dX3_step_7 : decode cX3_step 7 = .ok (.iload_n 2, 1) := by decide +kernel
theorem dX3_step_8 : decode cX3_step 8 = .ok (.invokevirtual 72, 3) := by decide +kernel
theorem dX3_step_11 : decode cX3_step 11 = .ok (.ifCond .eq 12, 3) := by decide +kernel
theorem dX3_step_14 : decode cX3_step 14 = .ok (.iload_n 3, 1) := by decide +kernel
theorem dX3_step_15 : decode cX3_step 15 = .ok (.iconst 0, 1) := by decide +kernel
theorem dX3_step_16 : decode cX3_step 16 = .ok (.iconst 4, 1) := by decide +kernel
theorem dX3_step_17 : decode cX3_step 17 = .ok (.invokestatic 51, 3) := by decide +kernel
theorem dX3_step_20 : decode cX3_step 20 = .ok (.ifCond .ne 9, 3) := by decide +kernel
theorem dX3_step_23 : decode cX3_step 23 = .ok (.aload_n 0, 1) := by decide +kernel
theorem dX3_step_24 : decode cX3_step 24 = .ok (.iconst 1, 1) := by decide +kernel
theorem dX3_step_25 : decode cX3_step 25 = .ok (.invokevirtual 64, 3) := by decide +kernel
theorem dX3_step_28 : decode cX3_step 28 = .ok (.ireturn, 1) := by decide +kernel
theorem dX3_step_29 : decode cX3_step 29 = .ok (.iload_n 3, 1) := by decide +kernel
theorem dX3_step_30 : decode cX3_step 30 = .ok (.iconst 4, 1) := by decide +kernel
theorem dX3_step_31 : decode cX3_step 31 = .ok (.if_icmp .ne 12, 3) := by decide +kernel
theorem dX3_step_34 : decode cX3_step 34 = .ok (.aload_n 0, 1) := by decide +kernel
theorem dX3_step_35 : decode cX3_step 35 = .ok (.iload_n 1, 1) := by decide +kernel
theorem dX3_step_36 : decode cX3_step 36 = .ok (.iload_n 2, 1) := by decide +kernel
theorem dX3_step_37 : decode cX3_step 37 = .ok (.invokevirtual 76, 3) := by decide +kernel
theorem dX3_step_40 : decode cX3_step 40 = .ok (.goto 15, 3) := by decide +kernel
theorem dX3_step_43 : decode cX3_step 43 = .ok (.aload_n 0, 1) := by decide +kernel
theorem dX3_step_44 : decode cX3_step 44 = .ok (.getfield 29, 3) := by decide +kernel
theorem dX3_step_47 : decode cX3_step 47 = .ok (.iload_n 1, 1) := by decide +kernel
theorem dX3_step_48 : decode cX3_step 48 = .ok (.iload_n 2, 1) := by decide +kernel
theorem dX3_step_49 : decode cX3_step 49 = .ok (.invokestatic 60, 3) := by decide +kernel
theorem dX3_step_52 : decode cX3_step 52 = .ok (.iload_n 3, 1) := by decide +kernel
theorem dX3_step_53 : decode cX3_step 53 = .ok (.iadd, 1) := by decide +kernel
theorem dX3_step_54 : decode cX3_step 54 = .ok (.iaload, 1) := by decide +kernel
theorem dX3_step_55 : decode cX3_step 55 = .ok (.ireturn, 1) := by decide +kernel
theorem dX3_told_0 : decode cX3_told 0 = .ok (.iload_n 2, 1) := by decide +kernel
theorem dX3_told_1 : decode cX3_told 1 = .ok (.tableswitch 70 0 4 #[35, 42, 49, 56, 63], 35) := by decide +kernel
theorem dX3_told_36 : decode cX3_told 36 = .ok (.aload_n 0, 1) := by decide +kernel
theorem dX3_told_37 : decode cX3_told 37 = .ok (.getfield 9, 3) := by decide +kernel
theorem dX3_told_40 : decode cX3_told 40 = .ok (.iload_n 1, 1) := by decide +kernel
theorem dX3_told_41 : decode cX3_told 41 = .ok (.iaload, 1) := by decide +kernel
theorem dX3_told_42 : decode cX3_told 42 = .ok (.ireturn, 1) := by decide +kernel
theorem dX3_told_43 : decode cX3_told 43 = .ok (.aload_n 0, 1) := by decide +kernel
theorem dX3_told_44 : decode cX3_told 44 = .ok (.getfield 13, 3) := by decide +kernel
theorem dX3_told_47 : decode cX3_told 47 = .ok (.iload_n 1, 1) := by decide +kernel
theorem dX3_told_48 : decode cX3_told 48 = .ok (.iaload, 1) := by decide +kernel
theorem dX3_told_49 : decode cX3_told 49 = .ok (.ireturn, 1) := by decide +kernel
theorem dX3_told_50 : decode cX3_told 50 = .ok (.aload_n 0, 1) := by decide +kernel
theorem dX3_told_51 : decode cX3_told 51 = .ok (.getfield 16, 3) := by decide +kernel
theorem dX3_told_54 : decode cX3_told 54 = .ok (.iload_n 1, 1) := by decide +kernel
theorem dX3_told_55 : decode cX3_told 55 = .ok (.iaload, 1) := by decide +kernel
theorem dX3_told_56 : decode cX3_told 56 = .ok (.ireturn, 1) := by decide +kernel
theorem dX3_told_57 : decode cX3_told 57 = .ok (.aload_n 0, 1) := by decide +kernel
theorem dX3_told_58 : decode cX3_told 58 = .ok (.getfield 19, 3) := by decide +kernel
theorem dX3_told_61 : decode cX3_told 61 = .ok (.iload_n 1, 1) := by decide +kernel
theorem dX3_told_62 : decode cX3_told 62 = .ok (.iaload, 1) := by decide +kernel
theorem dX3_told_63 : decode cX3_told 63 = .ok (.ireturn, 1) := by decide +kernel
theorem dX3_told_64 : decode cX3_told 64 = .ok (.aload_n 0, 1) := by decide +kernel
theorem dX3_told_65 : decode cX3_told 65 = .ok (.getfield 22, 3) := by decide +kernel
theorem dX3_told_68 : decode cX3_told 68 = .ok (.iload_n 1, 1) := by decide +kernel
theorem dX3_told_69 : decode cX3_told 69 = .ok (.iaload, 1) := by decide +kernel
theorem dX3_told_70 : decode cX3_told 70 = .ok (.ireturn, 1) := by decide +kernel
theorem dX3_told_71 : decode cX3_told 71 = .ok (.aload_n 0, 1) := by decide +kernel
theorem dX3_told_72 : decode cX3_told 72 = .ok (.getfield 25, 3) := by decide +kernel
theorem dX3_told_75 : decode cX3_told 75 = .ok (.iconst 3, 1) := by decide +kernel
theorem dX3_told_76 : decode cX3_told 76 = .ok (.iload_n 1, 1) := by decide +kernel
theorem dX3_told_77 : decode cX3_told 77 = .ok (.imul, 1) := by decide +kernel
theorem dX3_told_78 : decode cX3_told 78 = .ok (.iload_n 2, 1) := by decide +kernel
theorem dX3_told_79 : decode cX3_told 79 = .ok (.iadd, 1) := by decide +kernel
theorem dX3_told_80 : decode cX3_told 80 = .ok (.iconst 5, 1) := by decide +kernel
theorem dX3_told_81 : decode cX3_told 81 = .ok (.isub, 1) := by decide +kernel
theorem dX3_told_82 : decode cX3_told 82 = .ok (.baload, 1) := by decide +kernel
theorem dX3_told_83 : decode cX3_told 83 = .ok (.ifCond .eq 7, 3) := by decide +kernel
theorem dX3_told_86 : decode cX3_told 86 = .ok (.iconst 1, 1) := by decide +kernel
theorem dX3_told_87 : decode cX3_told 87 = .ok (.goto 4, 3) := by decide +kernel
theorem dX3_told_90 : decode cX3_told 90 = .ok (.iconst 0, 1) := by decide +kernel
theorem dX3_told_91 : decode cX3_told 91 = .ok (.ireturn, 1) := by decide +kernel
theorem dX3_track_0 : decode cX3_track 0 = .ok (.aload_n 0, 1) := by decide +kernel
theorem dX3_track_1 : decode cX3_track 1 = .ok (.iconst 0, 1) := by decide +kernel
theorem dX3_track_2 : decode cX3_track 2 = .ok (.putfield 45, 3) := by decide +kernel
theorem dX3_track_5 : decode cX3_track 5 = .ok (.aload_n 0, 1) := by decide +kernel
theorem dX3_track_6 : decode cX3_track 6 = .ok (.iload_n 1, 1) := by decide +kernel
theorem dX3_track_7 : decode cX3_track 7 = .ok (.invokevirtual 55, 3) := by decide +kernel
theorem dX3_track_10 : decode cX3_track 10 = .ok (.ifCond .eq 22, 3) := by decide +kernel
theorem dX3_track_13 : decode cX3_track 13 = .ok (.iload_n 2, 1) := by decide +kernel
theorem dX3_track_14 : decode cX3_track 14 = .ok (.iconst 0, 1) := by decide +kernel
theorem dX3_track_15 : decode cX3_track 15 = .ok (.bipush 7, 2) := by decide +kernel
theorem dX3_track_17 : decode cX3_track 17 = .ok (.invokestatic 51, 3) := by decide +kernel
theorem dX3_track_20 : decode cX3_track 20 = .ok (.ifCond .eq 12, 3) := by decide +kernel
theorem dX3_track_23 : decode cX3_track 23 = .ok (.aload_n 0, 1) := by decide +kernel
theorem dX3_track_24 : decode cX3_track 24 = .ok (.iload_n 1, 1) := by decide +kernel
theorem dX3_track_25 : decode cX3_track 25 = .ok (.iload_n 2, 1) := by decide +kernel
theorem dX3_track_26 : decode cX3_track 26 = .ok (.invokevirtual 79, 3) := by decide +kernel
theorem dX3_track_29 : decode cX3_track 29 = .ok (.goto 8, 3) := by decide +kernel
theorem dX3_track_32 : decode cX3_track 32 = .ok (.aload_n 0, 1) := by decide +kernel
theorem dX3_track_33 : decode cX3_track 33 = .ok (.iconst 1, 1) := by decide +kernel
theorem dX3_track_34 : decode cX3_track 34 = .ok (.invokevirtual 64, 3) := by decide +kernel
theorem dX3_track_37 : decode cX3_track 37 = .ok (.ireturn, 1) := by decide +kernel
theorem dX3_tune_0 : decode cX3_tune 0 = .ok (.aload_n 0, 1) := by decide +kernel
theorem dX3_tune_1 : decode cX3_tune 1 = .ok (.iconst 0, 1) := by decide +kernel
theorem dX3_tune_2 : decode cX3_tune 2 = .ok (.putfield 45, 3) := by decide +kernel
theorem dX3_tune_5 : decode cX3_tune 5 = .ok (.aload_n 0, 1) := by decide +kernel
theorem dX3_tune_6 : decode cX3_tune 6 = .ok (.iload_n 1, 1) := by decide +kernel
theorem dX3_tune_7 : decode cX3_tune 7 = .ok (.invokevirtual 55, 3) := by decide +kernel
theorem dX3_tune_10 : decode cX3_tune 10 = .ok (.ifCond .ne 9, 3) := by decide +kernel
theorem dX3_tune_13 : decode cX3_tune 13 = .ok (.aload_n 0, 1) := by decide +kernel
theorem dX3_tune_14 : decode cX3_tune 14 = .ok (.iconst 1, 1) := by decide +kernel
theorem dX3_tune_15 : decode cX3_tune 15 = .ok (.invokevirtual 64, 3) := by decide +kernel
theorem dX3_tune_18 : decode cX3_tune 18 = .ok (.ireturn, 1) := by decide +kernel
theorem dX3_tune_19 : decode cX3_tune 19 = .ok (.iload_n 2, 1) := by decide +kernel
theorem dX3_tune_20 : decode cX3_tune 20 = .ok (.iconst 0, 1) := by decide +kernel
theorem dX3_tune_21 : decode cX3_tune 21 = .ok (.aload_n 0, 1) := by decide +kernel
theorem dX3_tune_22 : decode cX3_tune 22 = .ok (.getfield 13, 3) := by decide +kernel
theorem dX3_tune_25 : decode cX3_tune 25 = .ok (.iload_n 1, 1) := by decide +kernel
theorem dX3_tune_26 : decode cX3_tune 26 = .ok (.iaload, 1) := by decide +kernel
theorem dX3_tune_27 : decode cX3_tune 27 = .ok (.iconst 1, 1) := by decide +kernel
theorem dX3_tune_28 : decode cX3_tune 28 = .ok (.isub, 1) := by decide +kernel
theorem dX3_tune_29 : decode cX3_tune 29 = .ok (.invokestatic 51, 3) := by decide +kernel
theorem dX3_tune_32 : decode cX3_tune 32 = .ok (.ifCond .eq 24, 3) := by decide +kernel
theorem dX3_tune_35 : decode cX3_tune 35 = .ok (.iload_n 3, 1) := by decide +kernel
theorem dX3_tune_36 : decode cX3_tune 36 = .ok (.iconst 1, 1) := by decide +kernel
theorem dX3_tune_37 : decode cX3_tune 37 = .ok (.sipush 200, 3) := by decide +kernel
theorem dX3_tune_40 : decode cX3_tune 40 = .ok (.invokestatic 51, 3) := by decide +kernel
theorem dX3_tune_43 : decode cX3_tune 43 = .ok (.ifCond .eq 13, 3) := by decide +kernel
theorem dX3_tune_46 : decode cX3_tune 46 = .ok (.iload 4, 2) := by decide +kernel
theorem dX3_tune_48 : decode cX3_tune 48 = .ok (.iconst 0, 1) := by decide +kernel
theorem dX3_tune_49 : decode cX3_tune 49 = .ok (.iconst 3, 1) := by decide +kernel
theorem dX3_tune_50 : decode cX3_tune 50 = .ok (.invokestatic 51, 3) := by decide +kernel
theorem dX3_tune_53 : decode cX3_tune 53 = .ok (.ifCond .ne 9, 3) := by decide +kernel
theorem dX3_tune_56 : decode cX3_tune 56 = .ok (.aload_n 0, 1) := by decide +kernel
theorem dX3_tune_57 : decode cX3_tune 57 = .ok (.iconst 2, 1) := by decide +kernel
theorem dX3_tune_58 : decode cX3_tune 58 = .ok (.invokevirtual 64, 3) := by decide +kernel
theorem dX3_tune_61 : decode cX3_tune 61 = .ok (.ireturn, 1) := by decide +kernel
theorem dX3_tune_62 : decode cX3_tune 62 = .ok (.aload_n 0, 1) := by decide +kernel
theorem dX3_tune_63 : decode cX3_tune 63 = .ok (.getfield 16, 3) := by decide +kernel
theorem dX3_tune_66 : decode cX3_tune 66 = .ok (.iload_n 1, 1) := by decide +kernel
theorem dX3_tune_67 : decode cX3_tune 67 = .ok (.iaload, 1) := by decide +kernel
theorem dX3_tune_68 : decode cX3_tune 68 = .ok (.istore 5, 2) := by decide +kernel
theorem dX3_tune_70 : decode cX3_tune 70 = .ok (.aload_n 0, 1) := by decide +kernel
theorem dX3_tune_71 : decode cX3_tune 71 = .ok (.getfield 16, 3) := by decide +kernel
theorem dX3_tune_74 : decode cX3_tune 74 = .ok (.iload_n 1, 1) := by decide +kernel
theorem dX3_tune_75 : decode cX3_tune 75 = .ok (.iload_n 2, 1) := by decide +kernel
theorem dX3_tune_76 : decode cX3_tune 76 = .ok (.iastore, 1) := by decide +kernel
theorem dX3_tune_77 : decode cX3_tune 77 = .ok (.aload_n 0, 1) := by decide +kernel
theorem dX3_tune_78 : decode cX3_tune 78 = .ok (.getfield 19, 3) := by decide +kernel
theorem dX3_tune_81 : decode cX3_tune 81 = .ok (.iload_n 1, 1) := by decide +kernel
theorem dX3_tune_82 : decode cX3_tune 82 = .ok (.iload_n 3, 1) := by decide +kernel
theorem dX3_tune_83 : decode cX3_tune 83 = .ok (.iastore, 1) := by decide +kernel
theorem dX3_tune_84 : decode cX3_tune 84 = .ok (.aload_n 0, 1) := by decide +kernel
theorem dX3_tune_85 : decode cX3_tune 85 = .ok (.getfield 22, 3) := by decide +kernel
theorem dX3_tune_88 : decode cX3_tune 88 = .ok (.iload_n 1, 1) := by decide +kernel
theorem dX3_tune_89 : decode cX3_tune 89 = .ok (.iload 4, 2) := by decide +kernel
theorem dX3_tune_91 : decode cX3_tune 91 = .ok (.iastore, 1) := by decide +kernel
theorem dX3_tune_92 : decode cX3_tune 92 = .ok (.iload 5, 2) := by decide +kernel
theorem dX3_tune_94 : decode cX3_tune 94 = .ok (.ireturn, 1) := by decide +kernel
theorem dX3_turn_0 : decode cX3_turn 0 = .ok (.aload_n 0, 1) := by decide +kernel
theorem dX3_turn_1 : decode cX3_turn 1 = .ok (.aload_n 0, 1) := by decide +kernel
theorem dX3_turn_2 : decode cX3_turn 2 = .ok (.iload_n 1, 1) := by decide +kernel
theorem dX3_turn_3 : decode cX3_turn 3 = .ok (.invokevirtual 55, 3) := by decide +kernel
theorem dX3_turn_6 : decode cX3_turn 6 = .ok (.ifCond .eq 16, 3) := by decide +kernel
theorem dX3_turn_9 : decode cX3_turn 9 = .ok (.iload_n 2, 1) := by decide +kernel
theorem dX3_turn_10 : decode cX3_turn 10 = .ok (.iconst 0, 1) := by decide +kernel
theorem dX3_turn_11 : decode cX3_turn 11 = .ok (.iconst 2, 1) := by decide +kernel
theorem dX3_turn_12 : decode cX3_turn 12 = .ok (.invokestatic 51, 3) := by decide +kernel
theorem dX3_turn_15 : decode cX3_turn 15 = .ok (.ifCond .eq 7, 3) := by decide +kernel
theorem dX3_turn_18 : decode cX3_turn 18 = .ok (.iconst 0, 1) := by decide +kernel
theorem dX3_turn_19 : decode cX3_turn 19 = .ok (.goto 4, 3) := by decide +kernel
theorem dX3_turn_22 : decode cX3_turn 22 = .ok (.iconst 1, 1) := by decide +kernel
theorem dX3_turn_23 : decode cX3_turn 23 = .ok (.putfield 45, 3) := by decide +kernel
theorem dX3_turn_26 : decode cX3_turn 26 = .ok (.aload_n 0, 1) := by decide +kernel
theorem dX3_turn_27 : decode cX3_turn 27 = .ok (.getfield 45, 3) := by decide +kernel
theorem dX3_turn_30 : decode cX3_turn 30 = .ok (.ifCond .eq 5, 3) := by decide +kernel
theorem dX3_turn_33 : decode cX3_turn 33 = .ok (.iconst 0, 1) := by decide +kernel
theorem dX3_turn_34 : decode cX3_turn 34 = .ok (.ireturn, 1) := by decide +kernel
theorem dX3_turn_35 : decode cX3_turn 35 = .ok (.aload_n 0, 1) := by decide +kernel
theorem dX3_turn_36 : decode cX3_turn 36 = .ok (.getfield 25, 3) := by decide +kernel
theorem dX3_turn_39 : decode cX3_turn 39 = .ok (.iconst 3, 1) := by decide +kernel
theorem dX3_turn_40 : decode cX3_turn 40 = .ok (.iload_n 1, 1) := by decide +kernel
theorem dX3_turn_41 : decode cX3_turn 41 = .ok (.imul, 1) := by decide +kernel
theorem dX3_turn_42 : decode cX3_turn 42 = .ok (.iload_n 2, 1) := by decide +kernel
theorem dX3_turn_43 : decode cX3_turn 43 = .ok (.iadd, 1) := by decide +kernel
theorem dX3_turn_44 : decode cX3_turn 44 = .ok (.baload, 1) := by decide +kernel
theorem dX3_turn_45 : decode cX3_turn 45 = .ok (.istore 4, 2) := by decide +kernel
theorem dX3_turn_47 : decode cX3_turn 47 = .ok (.aload_n 0, 1) := by decide +kernel
theorem dX3_turn_48 : decode cX3_turn 48 = .ok (.getfield 25, 3) := by decide +kernel
theorem dX3_turn_51 : decode cX3_turn 51 = .ok (.iconst 3, 1) := by decide +kernel
theorem dX3_turn_52 : decode cX3_turn 52 = .ok (.iload_n 1, 1) := by decide +kernel
theorem dX3_turn_53 : decode cX3_turn 53 = .ok (.imul, 1) := by decide +kernel
theorem dX3_turn_54 : decode cX3_turn 54 = .ok (.iload_n 2, 1) := by decide +kernel
theorem dX3_turn_55 : decode cX3_turn 55 = .ok (.iadd, 1) := by decide +kernel
theorem dX3_turn_56 : decode cX3_turn 56 = .ok (.iload_n 3, 1) := by decide +kernel
theorem dX3_turn_57 : decode cX3_turn 57 = .ok (.bastore, 1) := by decide +kernel
theorem dX3_turn_58 : decode cX3_turn 58 = .ok (.iload 4, 2) := by decide +kernel
theorem dX3_turn_60 : decode cX3_turn 60 = .ok (.ireturn, 1) := by decide +kernel
theorem dX3_spread_0 : decode cX3_spread 0 = .ok (.aload_n 0, 1) := by decide +kernel
theorem dX3_spread_1 : decode cX3_spread 1 = .ok (.iconst 0, 1) := by decide +kernel
theorem dX3_spread_2 : decode cX3_spread 2 = .ok (.putfield 45, 3) := by decide +kernel
theorem dX3_spread_5 : decode cX3_spread 5 = .ok (.aload_n 0, 1) := by decide +kernel
theorem dX3_spread_6 : decode cX3_spread 6 = .ok (.iload_n 1, 1) := by decide +kernel
theorem dX3_spread_7 : decode cX3_spread 7 = .ok (.invokevirtual 55, 3) := by decide +kernel
theorem dX3_spread_10 : decode cX3_spread 10 = .ok (.ifCond .ne 9, 3) := by decide +kernel
theorem dX3_spread_13 : decode cX3_spread 13 = .ok (.aload_n 0, 1) := by decide +kernel
theorem dX3_spread_14 : decode cX3_spread 14 = .ok (.iconst 1, 1) := by decide +kernel
theorem dX3_spread_15 : decode cX3_spread 15 = .ok (.invokevirtual 64, 3) := by decide +kernel
theorem dX3_spread_18 : decode cX3_spread 18 = .ok (.ireturn, 1) := by decide +kernel
theorem dX3_spread_19 : decode cX3_spread 19 = .ok (.iload_n 2, 1) := by decide +kernel
theorem dX3_spread_20 : decode cX3_spread 20 = .ok (.iconst 0, 1) := by decide +kernel
theorem dX3_spread_21 : decode cX3_spread 21 = .ok (.aload_n 0, 1) := by decide +kernel
theorem dX3_spread_22 : decode cX3_spread 22 = .ok (.getfield 9, 3) := by decide +kernel
theorem dX3_spread_25 : decode cX3_spread 25 = .ok (.iload_n 1, 1) := by decide +kernel
theorem dX3_spread_26 : decode cX3_spread 26 = .ok (.iaload, 1) := by decide +kernel
theorem dX3_spread_27 : decode cX3_spread 27 = .ok (.invokestatic 51, 3) := by decide +kernel
theorem dX3_spread_30 : decode cX3_spread 30 = .ok (.ifCond .eq 13, 3) := by decide +kernel
theorem dX3_spread_33 : decode cX3_spread 33 = .ok (.iload_n 3, 1) := by decide +kernel
theorem dX3_spread_34 : decode cX3_spread 34 = .ok (.iconst 1, 1) := by decide +kernel
theorem dX3_spread_35 : decode cX3_spread 35 = .ok (.bipush 127, 2) := by decide +kernel
theorem dX3_spread_37 : decode cX3_spread 37 = .ok (.invokestatic 51, 3) := by decide +kernel
theorem dX3_spread_40 : decode cX3_spread 40 = .ok (.ifCond .ne 9, 3) := by decide +kernel
theorem dX3_spread_43 : decode cX3_spread 43 = .ok (.aload_n 0, 1) := by decide +kernel
theorem dX3_spread_44 : decode cX3_spread 44 = .ok (.iconst 2, 1) := by decide +kernel
theorem dX3_spread_45 : decode cX3_spread 45 = .ok (.invokevirtual 64, 3) := by decide +kernel
theorem dX3_spread_48 : decode cX3_spread 48 = .ok (.ireturn, 1) := by decide +kernel
theorem dX3_spread_49 : decode cX3_spread 49 = .ok (.iconst (-1), 1) := by decide +kernel
theorem dX3_spread_50 : decode cX3_spread 50 = .ok (.istore 4, 2) := by decide +kernel
theorem dX3_spread_52 : decode cX3_spread 52 = .ok (.iconst 0, 1) := by decide +kernel
theorem dX3_spread_53 : decode cX3_spread 53 = .ok (.istore 5, 2) := by decide +kernel
theorem dX3_spread_55 : decode cX3_spread 55 = .ok (.iload 5, 2) := by decide +kernel
theorem dX3_spread_57 : decode cX3_spread 57 = .ok (.aload_n 0, 1) := by decide +kernel
theorem dX3_spread_58 : decode cX3_spread 58 = .ok (.getfield 9, 3) := by decide +kernel
theorem dX3_spread_61 : decode cX3_spread 61 = .ok (.iload_n 1, 1) := by decide +kernel
theorem dX3_spread_62 : decode cX3_spread 62 = .ok (.iaload, 1) := by decide +kernel
theorem dX3_spread_63 : decode cX3_spread 63 = .ok (.if_icmp .ge 62, 3) := by decide +kernel
theorem dX3_spread_66 : decode cX3_spread 66 = .ok (.iload 5, 2) := by decide +kernel
theorem dX3_spread_68 : decode cX3_spread 68 = .ok (.iload_n 2, 1) := by decide +kernel
theorem dX3_spread_69 : decode cX3_spread 69 = .ok (.imul, 1) := by decide +kernel
theorem dX3_spread_70 : decode cX3_spread 70 = .ok (.aload_n 0, 1) := by decide +kernel
theorem dX3_spread_71 : decode cX3_spread 71 = .ok (.getfield 9, 3) := by decide +kernel
theorem dX3_spread_74 : decode cX3_spread 74 = .ok (.iload_n 1, 1) := by decide +kernel
theorem dX3_spread_75 : decode cX3_spread 75 = .ok (.iaload, 1) := by decide +kernel
theorem dX3_spread_76 : decode cX3_spread 76 = .ok (.irem, 1) := by decide +kernel
theorem dX3_spread_77 : decode cX3_spread 77 = .ok (.iload_n 2, 1) := by decide +kernel
theorem dX3_spread_78 : decode cX3_spread 78 = .ok (.if_icmp .ge 7, 3) := by decide +kernel
theorem dX3_spread_81 : decode cX3_spread 81 = .ok (.iconst 1, 1) := by decide +kernel
theorem dX3_spread_82 : decode cX3_spread 82 = .ok (.goto 4, 3) := by decide +kernel
theorem dX3_spread_85 : decode cX3_spread 85 = .ok (.iconst 0, 1) := by decide +kernel
theorem dX3_spread_86 : decode cX3_spread 86 = .ok (.istore 6, 2) := by decide +kernel
theorem dX3_spread_88 : decode cX3_spread 88 = .ok (.aload_n 0, 1) := by decide +kernel
theorem dX3_spread_89 : decode cX3_spread 89 = .ok (.iload_n 1, 1) := by decide +kernel
theorem dX3_spread_90 : decode cX3_spread 90 = .ok (.iload 5, 2) := by decide +kernel
theorem dX3_spread_92 : decode cX3_spread 92 = .ok (.iload 6, 2) := by decide +kernel
theorem dX3_spread_94 : decode cX3_spread 94 = .ok (.ifCond .eq 7, 3) := by decide +kernel
theorem dX3_spread_97 : decode cX3_spread 97 = .ok (.iload_n 3, 1) := by decide +kernel
theorem dX3_spread_98 : decode cX3_spread 98 = .ok (.goto 4, 3) := by decide +kernel
theorem dX3_spread_101 : decode cX3_spread 101 = .ok (.iconst 0, 1) := by decide +kernel
theorem dX3_spread_102 : decode cX3_spread 102 = .ok (.invokevirtual 68, 3) := by decide +kernel
theorem dX3_spread_105 : decode cX3_spread 105 = .ok (.iload 6, 2) := by decide +kernel
theorem dX3_spread_107 : decode cX3_spread 107 = .ok (.ifCond .eq 8, 3) := by decide +kernel
theorem dX3_spread_110 : decode cX3_spread 110 = .ok (.iload 5, 2) := by decide +kernel
theorem dX3_spread_112 : decode cX3_spread 112 = .ok (.goto 5, 3) := by decide +kernel
theorem dX3_spread_115 : decode cX3_spread 115 = .ok (.iload 4, 2) := by decide +kernel
theorem dX3_spread_117 : decode cX3_spread 117 = .ok (.istore 4, 2) := by decide +kernel
theorem dX3_spread_119 : decode cX3_spread 119 = .ok (.iinc 5 1, 3) := by decide +kernel
theorem dX3_spread_122 : decode cX3_spread 122 = .ok (.goto (-67), 3) := by decide +kernel
theorem dX3_spread_125 : decode cX3_spread 125 = .ok (.iload 4, 2) := by decide +kernel
theorem dX3_spread_127 : decode cX3_spread 127 = .ok (.ireturn, 1) := by decide +kernel
theorem dX3_take_0 : decode cX3_take 0 = .ok (.iconst 0, 1) := by decide +kernel
theorem dX3_take_1 : decode cX3_take 1 = .ok (.istore 5, 2) := by decide +kernel
theorem dX3_take_3 : decode cX3_take 3 = .ok (.iload 5, 2) := by decide +kernel
theorem dX3_take_5 : decode cX3_take 5 = .ok (.aload_n 0, 1) := by decide +kernel
theorem dX3_take_6 : decode cX3_take 6 = .ok (.getfield 9, 3) := by decide +kernel
theorem dX3_take_9 : decode cX3_take 9 = .ok (.iload_n 1, 1) := by decide +kernel
theorem dX3_take_10 : decode cX3_take 10 = .ok (.iaload, 1) := by decide +kernel
theorem dX3_take_11 : decode cX3_take 11 = .ok (.if_icmp .ge 35, 3) := by decide +kernel
theorem dX3_take_14 : decode cX3_take 14 = .ok (.aload_n 2, 1) := by decide +kernel
theorem dX3_take_15 : decode cX3_take 15 = .ok (.iload_n 1, 1) := by decide +kernel
theorem dX3_take_16 : decode cX3_take 16 = .ok (.iload_n 3, 1) := by decide +kernel
theorem dX3_take_17 : decode cX3_take 17 = .ok (.iload 5, 2) := by decide +kernel
theorem dX3_take_19 : decode cX3_take 19 = .ok (.iadd, 1) := by decide +kernel
theorem dX3_take_20 : decode cX3_take 20 = .ok (.iload 4, 2) := by decide +kernel
theorem dX3_take_22 : decode cX3_take 22 = .ok (.irem, 1) := by decide +kernel
theorem dX3_take_23 : decode cX3_take 23 = .ok (.invokestatic 60, 3) := by decide +kernel
theorem dX3_take_26 : decode cX3_take 26 = .ok (.aload_n 0, 1) := by decide +kernel
theorem dX3_take_27 : decode cX3_take 27 = .ok (.getfield 29, 3) := by decide +kernel
theorem dX3_take_30 : decode cX3_take 30 = .ok (.iload_n 1, 1) := by decide +kernel
theorem dX3_take_31 : decode cX3_take 31 = .ok (.iload 5, 2) := by decide +kernel
theorem dX3_take_33 : decode cX3_take 33 = .ok (.invokestatic 60, 3) := by decide +kernel
theorem dX3_take_36 : decode cX3_take 36 = .ok (.iconst 4, 1) := by decide +kernel
theorem dX3_take_37 : decode cX3_take 37 = .ok (.invokestatic 82, 3) := by decide +kernel
theorem dX3_take_40 : decode cX3_take 40 = .ok (.iinc 5 1, 3) := by decide +kernel
theorem dX3_take_43 : decode cX3_take 43 = .ok (.goto (-40), 3) := by decide +kernel
theorem dX3_take_46 : decode cX3_take 46 = .ok (.return_, 1) := by decide +kernel
theorem dX3_loud_0 : decode cX3_loud 0 = .ok (.iconst 0, 1) := by decide +kernel
theorem dX3_loud_1 : decode cX3_loud 1 = .ok (.istore_n 2, 1) := by decide +kernel
theorem dX3_loud_2 : decode cX3_loud 2 = .ok (.iconst 0, 1) := by decide +kernel
theorem dX3_loud_3 : decode cX3_loud 3 = .ok (.istore_n 3, 1) := by decide +kernel
theorem dX3_loud_4 : decode cX3_loud 4 = .ok (.iload_n 3, 1) := by decide +kernel
theorem dX3_loud_5 : decode cX3_loud 5 = .ok (.aload_n 0, 1) := by decide +kernel
theorem dX3_loud_6 : decode cX3_loud 6 = .ok (.getfield 9, 3) := by decide +kernel
theorem dX3_loud_9 : decode cX3_loud 9 = .ok (.iload_n 1, 1) := by decide +kernel
theorem dX3_loud_10 : decode cX3_loud 10 = .ok (.iaload, 1) := by decide +kernel
theorem dX3_loud_11 : decode cX3_loud 11 = .ok (.if_icmp .ge 32, 3) := by decide +kernel
theorem dX3_loud_14 : decode cX3_loud 14 = .ok (.iload_n 2, 1) := by decide +kernel
theorem dX3_loud_15 : decode cX3_loud 15 = .ok (.aload_n 0, 1) := by decide +kernel
theorem dX3_loud_16 : decode cX3_loud 16 = .ok (.getfield 29, 3) := by decide +kernel
theorem dX3_loud_19 : decode cX3_loud 19 = .ok (.iload_n 1, 1) := by decide +kernel
theorem dX3_loud_20 : decode cX3_loud 20 = .ok (.iload_n 3, 1) := by decide +kernel
theorem dX3_loud_21 : decode cX3_loud 21 = .ok (.invokestatic 60, 3) := by decide +kernel
theorem dX3_loud_24 : decode cX3_loud 24 = .ok (.iconst 0, 1) := by decide +kernel
theorem dX3_loud_25 : decode cX3_loud 25 = .ok (.iadd, 1) := by decide +kernel
theorem dX3_loud_26 : decode cX3_loud 26 = .ok (.iaload, 1) := by decide +kernel
end
section
theorem dX3_loud_27 : decode cX3_loud 27 = .ok (.ifCond .le 7, 3) := by decide +kernel
theorem dX3_loud_30 : decode cX3_loud 30 = .ok (.iconst 1, 1) := by decide +kernel
theorem dX3_loud_31 : decode cX3_loud 31 = .ok (.goto 4, 3) := by decide +kernel
theorem dX3_loud_34 : decode cX3_loud 34 = .ok (.iconst 0, 1) := by decide +kernel
theorem dX3_loud_35 : decode cX3_loud 35 = .ok (.iadd, 1) := by decide +kernel
theorem dX3_loud_36 : decode cX3_loud 36 = .ok (.istore_n 2, 1) := by decide +kernel
theorem dX3_loud_37 : decode cX3_loud 37 = .ok (.iinc 3 1, 3) := by decide +kernel
theorem dX3_loud_40 : decode cX3_loud 40 = .ok (.goto (-36), 3) := by decide +kernel
theorem dX3_loud_43 : decode cX3_loud 43 = .ok (.iload_n 2, 1) := by decide +kernel
theorem dX3_loud_44 : decode cX3_loud 44 = .ok (.ireturn, 1) := by decide +kernel
theorem dX3_rotate_0 : decode cX3_rotate 0 = .ok (.aload_n 0, 1) := by decide +kernel
theorem dX3_rotate_1 : decode cX3_rotate 1 = .ok (.iconst 0, 1) := by decide +kernel
theorem dX3_rotate_2 : decode cX3_rotate 2 = .ok (.putfield 45, 3) := by decide +kernel
theorem dX3_rotate_5 : decode cX3_rotate 5 = .ok (.aload_n 0, 1) := by decide +kernel
theorem dX3_rotate_6 : decode cX3_rotate 6 = .ok (.iload_n 1, 1) := by decide +kernel
theorem dX3_rotate_7 : decode cX3_rotate 7 = .ok (.invokevirtual 55, 3) := by decide +kernel
theorem dX3_rotate_10 : decode cX3_rotate 10 = .ok (.ifCond .ne 9, 3) := by decide +kernel
theorem dX3_rotate_13 : decode cX3_rotate 13 = .ok (.aload_n 0, 1) := by decide +kernel
theorem dX3_rotate_14 : decode cX3_rotate 14 = .ok (.iconst 1, 1) := by decide +kernel
theorem dX3_rotate_15 : decode cX3_rotate 15 = .ok (.invokevirtual 64, 3) := by decide +kernel
theorem dX3_rotate_18 : decode cX3_rotate 18 = .ok (.ireturn, 1) := by decide +kernel
theorem dX3_rotate_19 : decode cX3_rotate 19 = .ok (.iload_n 2, 1) := by decide +kernel
theorem dX3_rotate_20 : decode cX3_rotate 20 = .ok (.iconst 0, 1) := by decide +kernel
theorem dX3_rotate_21 : decode cX3_rotate 21 = .ok (.bipush 31, 2) := by decide +kernel
theorem dX3_rotate_23 : decode cX3_rotate 23 = .ok (.invokestatic 51, 3) := by decide +kernel
theorem dX3_rotate_26 : decode cX3_rotate 26 = .ok (.ifCond .ne 9, 3) := by decide +kernel
theorem dX3_rotate_29 : decode cX3_rotate 29 = .ok (.aload_n 0, 1) := by decide +kernel
theorem dX3_rotate_30 : decode cX3_rotate 30 = .ok (.iconst 2, 1) := by decide +kernel
theorem dX3_rotate_31 : decode cX3_rotate 31 = .ok (.invokevirtual 64, 3) := by decide +kernel
theorem dX3_rotate_34 : decode cX3_rotate 34 = .ok (.ireturn, 1) := by decide +kernel
theorem dX3_rotate_35 : decode cX3_rotate 35 = .ok (.aload_n 0, 1) := by decide +kernel
theorem dX3_rotate_36 : decode cX3_rotate 36 = .ok (.getfield 9, 3) := by decide +kernel
theorem dX3_rotate_39 : decode cX3_rotate 39 = .ok (.iload_n 1, 1) := by decide +kernel
theorem dX3_rotate_40 : decode cX3_rotate 40 = .ok (.iaload, 1) := by decide +kernel
theorem dX3_rotate_41 : decode cX3_rotate 41 = .ok (.istore_n 3, 1) := by decide +kernel
theorem dX3_rotate_42 : decode cX3_rotate 42 = .ok (.aload_n 0, 1) := by decide +kernel
theorem dX3_rotate_43 : decode cX3_rotate 43 = .ok (.iload_n 1, 1) := by decide +kernel
theorem dX3_rotate_44 : decode cX3_rotate 44 = .ok (.aload_n 0, 1) := by decide +kernel
theorem dX3_rotate_45 : decode cX3_rotate 45 = .ok (.getfield 29, 3) := by decide +kernel
theorem dX3_rotate_48 : decode cX3_rotate 48 = .ok (.invokevirtual 88, 3) := by decide +kernel
theorem dX3_rotate_51 : decode cX3_rotate 51 = .ok (.checkcast 89, 3) := by decide +kernel
theorem dX3_rotate_54 : decode cX3_rotate 54 = .ok (.iload_n 3, 1) := by decide +kernel
theorem dX3_rotate_55 : decode cX3_rotate 55 = .ok (.iload_n 2, 1) := by decide +kernel
theorem dX3_rotate_56 : decode cX3_rotate 56 = .ok (.iload_n 3, 1) := by decide +kernel
theorem dX3_rotate_57 : decode cX3_rotate 57 = .ok (.irem, 1) := by decide +kernel
theorem dX3_rotate_58 : decode cX3_rotate 58 = .ok (.isub, 1) := by decide +kernel
theorem dX3_rotate_59 : decode cX3_rotate 59 = .ok (.iload_n 3, 1) := by decide +kernel
theorem dX3_rotate_60 : decode cX3_rotate 60 = .ok (.invokevirtual 93, 3) := by decide +kernel
theorem dX3_rotate_63 : decode cX3_rotate 63 = .ok (.aload_n 0, 1) := by decide +kernel
theorem dX3_rotate_64 : decode cX3_rotate 64 = .ok (.iload_n 1, 1) := by decide +kernel
theorem dX3_rotate_65 : decode cX3_rotate 65 = .ok (.invokevirtual 97, 3) := by decide +kernel
theorem dX3_rotate_68 : decode cX3_rotate 68 = .ok (.ireturn, 1) := by decide +kernel
theorem dX3_stretch_0 : decode cX3_stretch 0 = .ok (.aload_n 0, 1) := by decide +kernel
theorem dX3_stretch_1 : decode cX3_stretch 1 = .ok (.iconst 0, 1) := by decide +kernel
theorem dX3_stretch_2 : decode cX3_stretch 2 = .ok (.putfield 45, 3) := by decide +kernel
theorem dX3_stretch_5 : decode cX3_stretch 5 = .ok (.aload_n 0, 1) := by decide +kernel
theorem dX3_stretch_6 : decode cX3_stretch 6 = .ok (.iload_n 1, 1) := by decide +kernel
theorem dX3_stretch_7 : decode cX3_stretch 7 = .ok (.invokevirtual 55, 3) := by decide +kernel
theorem dX3_stretch_10 : decode cX3_stretch 10 = .ok (.ifCond .ne 9, 3) := by decide +kernel
theorem dX3_stretch_13 : decode cX3_stretch 13 = .ok (.aload_n 0, 1) := by decide +kernel
theorem dX3_stretch_14 : decode cX3_stretch 14 = .ok (.iconst 1, 1) := by decide +kernel
theorem dX3_stretch_15 : decode cX3_stretch 15 = .ok (.invokevirtual 64, 3) := by decide +kernel
theorem dX3_stretch_18 : decode cX3_stretch 18 = .ok (.ireturn, 1) := by decide +kernel
theorem dX3_stretch_19 : decode cX3_stretch 19 = .ok (.iload_n 2, 1) := by decide +kernel
theorem dX3_stretch_20 : decode cX3_stretch 20 = .ok (.iconst 1, 1) := by decide +kernel
theorem dX3_stretch_21 : decode cX3_stretch 21 = .ok (.bipush 32, 2) := by decide +kernel
theorem dX3_stretch_23 : decode cX3_stretch 23 = .ok (.invokestatic 51, 3) := by decide +kernel
theorem dX3_stretch_26 : decode cX3_stretch 26 = .ok (.ifCond .ne 9, 3) := by decide +kernel
theorem dX3_stretch_29 : decode cX3_stretch 29 = .ok (.aload_n 0, 1) := by decide +kernel
theorem dX3_stretch_30 : decode cX3_stretch 30 = .ok (.iconst 2, 1) := by decide +kernel
theorem dX3_stretch_31 : decode cX3_stretch 31 = .ok (.invokevirtual 64, 3) := by decide +kernel
theorem dX3_stretch_34 : decode cX3_stretch 34 = .ok (.ireturn, 1) := by decide +kernel
theorem dX3_stretch_35 : decode cX3_stretch 35 = .ok (.aload_n 0, 1) := by decide +kernel
theorem dX3_stretch_36 : decode cX3_stretch 36 = .ok (.getfield 9, 3) := by decide +kernel
theorem dX3_stretch_39 : decode cX3_stretch 39 = .ok (.iload_n 1, 1) := by decide +kernel
theorem dX3_stretch_40 : decode cX3_stretch 40 = .ok (.iaload, 1) := by decide +kernel
theorem dX3_stretch_41 : decode cX3_stretch 41 = .ok (.istore_n 3, 1) := by decide +kernel
theorem dX3_stretch_42 : decode cX3_stretch 42 = .ok (.aload_n 0, 1) := by decide +kernel
theorem dX3_stretch_43 : decode cX3_stretch 43 = .ok (.getfield 9, 3) := by decide +kernel
theorem dX3_stretch_46 : decode cX3_stretch 46 = .ok (.iload_n 1, 1) := by decide +kernel
theorem dX3_stretch_47 : decode cX3_stretch 47 = .ok (.iload_n 2, 1) := by decide +kernel
theorem dX3_stretch_48 : decode cX3_stretch 48 = .ok (.iastore, 1) := by decide +kernel
theorem dX3_stretch_49 : decode cX3_stretch 49 = .ok (.aload_n 0, 1) := by decide +kernel
theorem dX3_stretch_50 : decode cX3_stretch 50 = .ok (.iload_n 1, 1) := by decide +kernel
theorem dX3_stretch_51 : decode cX3_stretch 51 = .ok (.aload_n 0, 1) := by decide +kernel
theorem dX3_stretch_52 : decode cX3_stretch 52 = .ok (.getfield 29, 3) := by decide +kernel
theorem dX3_stretch_55 : decode cX3_stretch 55 = .ok (.invokevirtual 88, 3) := by decide +kernel
theorem dX3_stretch_58 : decode cX3_stretch 58 = .ok (.checkcast 89, 3) := by decide +kernel
theorem dX3_stretch_61 : decode cX3_stretch 61 = .ok (.iconst 0, 1) := by decide +kernel
theorem dX3_stretch_62 : decode cX3_stretch 62 = .ok (.iload_n 3, 1) := by decide +kernel
theorem dX3_stretch_63 : decode cX3_stretch 63 = .ok (.invokevirtual 93, 3) := by decide +kernel
theorem dX3_stretch_66 : decode cX3_stretch 66 = .ok (.iload_n 3, 1) := by decide +kernel
theorem dX3_stretch_67 : decode cX3_stretch 67 = .ok (.ireturn, 1) := by decide +kernel
theorem dX3_tap_0 : decode cX3_tap 0 = .ok (.aload_n 0, 1) := by decide +kernel
theorem dX3_tap_1 : decode cX3_tap 1 = .ok (.iconst 0, 1) := by decide +kernel
theorem dX3_tap_2 : decode cX3_tap 2 = .ok (.putfield 45, 3) := by decide +kernel
theorem dX3_tap_5 : decode cX3_tap 5 = .ok (.aload_n 0, 1) := by decide +kernel
theorem dX3_tap_6 : decode cX3_tap 6 = .ok (.iload_n 1, 1) := by decide +kernel
theorem dX3_tap_7 : decode cX3_tap 7 = .ok (.invokevirtual 55, 3) := by decide +kernel
theorem dX3_tap_10 : decode cX3_tap 10 = .ok (.ifCond .ne 9, 3) := by decide +kernel
theorem dX3_tap_13 : decode cX3_tap 13 = .ok (.aload_n 0, 1) := by decide +kernel
theorem dX3_tap_14 : decode cX3_tap 14 = .ok (.iconst 1, 1) := by decide +kernel
theorem dX3_tap_15 : decode cX3_tap 15 = .ok (.invokevirtual 64, 3) := by decide +kernel
theorem dX3_tap_18 : decode cX3_tap 18 = .ok (.ireturn, 1) := by decide +kernel
theorem dX3_tap_19 : decode cX3_tap 19 = .ok (.iload_n 2, 1) := by decide +kernel
theorem dX3_tap_20 : decode cX3_tap 20 = .ok (.invokestatic 100, 3) := by decide +kernel
theorem dX3_tap_23 : decode cX3_tap 23 = .ok (.ifCond .eq 13, 3) := by decide +kernel
theorem dX3_tap_26 : decode cX3_tap 26 = .ok (.iload_n 3, 1) := by decide +kernel
theorem dX3_tap_27 : decode cX3_tap 27 = .ok (.iconst 1, 1) := by decide +kernel
theorem dX3_tap_28 : decode cX3_tap 28 = .ok (.bipush 127, 2) := by decide +kernel
theorem dX3_tap_30 : decode cX3_tap 30 = .ok (.invokestatic 51, 3) := by decide +kernel
theorem dX3_tap_33 : decode cX3_tap 33 = .ok (.ifCond .ne 9, 3) := by decide +kernel
theorem dX3_tap_36 : decode cX3_tap 36 = .ok (.aload_n 0, 1) := by decide +kernel
theorem dX3_tap_37 : decode cX3_tap 37 = .ok (.iconst 2, 1) := by decide +kernel
theorem dX3_tap_38 : decode cX3_tap 38 = .ok (.invokevirtual 64, 3) := by decide +kernel
theorem dX3_tap_41 : decode cX3_tap 41 = .ok (.ireturn, 1) := by decide +kernel
theorem dX3_tap_42 : decode cX3_tap 42 = .ok (.aload_n 0, 1) := by decide +kernel
theorem dX3_tap_43 : decode cX3_tap 43 = .ok (.getfield 9, 3) := by decide +kernel
theorem dX3_tap_46 : decode cX3_tap 46 = .ok (.iload_n 1, 1) := by decide +kernel
theorem dX3_tap_47 : decode cX3_tap 47 = .ok (.iaload, 1) := by decide +kernel
theorem dX3_tap_48 : decode cX3_tap 48 = .ok (.aload_n 0, 1) := by decide +kernel
theorem dX3_tap_49 : decode cX3_tap 49 = .ok (.getfield 13, 3) := by decide +kernel
theorem dX3_tap_52 : decode cX3_tap 52 = .ok (.iload_n 1, 1) := by decide +kernel
theorem dX3_tap_53 : decode cX3_tap 53 = .ok (.iaload, 1) := by decide +kernel
theorem dX3_tap_54 : decode cX3_tap 54 = .ok (.imul, 1) := by decide +kernel
theorem dX3_tap_55 : decode cX3_tap 55 = .ok (.istore 4, 2) := by decide +kernel
theorem dX3_tap_57 : decode cX3_tap 57 = .ok (.iload_n 2, 1) := by decide +kernel
theorem dX3_tap_58 : decode cX3_tap 58 = .ok (.iload 4, 2) := by decide +kernel
theorem dX3_tap_60 : decode cX3_tap 60 = .ok (.irem, 1) := by decide +kernel
theorem dX3_tap_61 : decode cX3_tap 61 = .ok (.istore 5, 2) := by decide +kernel
theorem dX3_tap_63 : decode cX3_tap 63 = .ok (.iconst 0, 1) := by decide +kernel
theorem dX3_tap_64 : decode cX3_tap 64 = .ok (.istore 6, 2) := by decide +kernel
theorem dX3_tap_66 : decode cX3_tap 66 = .ok (.iload 5, 2) := by decide +kernel
theorem dX3_tap_68 : decode cX3_tap 68 = .ok (.iload 4, 2) := by decide +kernel
theorem dX3_tap_70 : decode cX3_tap 70 = .ok (.iload 5, 2) := by decide +kernel
theorem dX3_tap_72 : decode cX3_tap 72 = .ok (.isub, 1) := by decide +kernel
theorem dX3_tap_73 : decode cX3_tap 73 = .ok (.invokestatic 103, 3) := by decide +kernel
theorem dX3_tap_76 : decode cX3_tap 76 = .ok (.istore 7, 2) := by decide +kernel
theorem dX3_tap_78 : decode cX3_tap 78 = .ok (.iconst 1, 1) := by decide +kernel
theorem dX3_tap_79 : decode cX3_tap 79 = .ok (.istore 8, 2) := by decide +kernel
theorem dX3_tap_81 : decode cX3_tap 81 = .ok (.iload 8, 2) := by decide +kernel
theorem dX3_tap_83 : decode cX3_tap 83 = .ok (.aload_n 0, 1) := by decide +kernel
theorem dX3_tap_84 : decode cX3_tap 84 = .ok (.getfield 9, 3) := by decide +kernel
theorem dX3_tap_87 : decode cX3_tap 87 = .ok (.iload_n 1, 1) := by decide +kernel
theorem dX3_tap_88 : decode cX3_tap 88 = .ok (.iaload, 1) := by decide +kernel
theorem dX3_tap_89 : decode cX3_tap 89 = .ok (.if_icmp .ge 52, 3) := by decide +kernel
theorem dX3_tap_92 : decode cX3_tap 92 = .ok (.iload 5, 2) := by decide +kernel
theorem dX3_tap_94 : decode cX3_tap 94 = .ok (.iload 8, 2) := by decide +kernel
theorem dX3_tap_96 : decode cX3_tap 96 = .ok (.aload_n 0, 1) := by decide +kernel
theorem dX3_tap_97 : decode cX3_tap 97 = .ok (.getfield 13, 3) := by decide +kernel
theorem dX3_tap_100 : decode cX3_tap 100 = .ok (.iload_n 1, 1) := by decide +kernel
theorem dX3_tap_101 : decode cX3_tap 101 = .ok (.iaload, 1) := by decide +kernel
theorem dX3_tap_102 : decode cX3_tap 102 = .ok (.imul, 1) := by decide +kernel
theorem dX3_tap_103 : decode cX3_tap 103 = .ok (.isub, 1) := by decide +kernel
theorem dX3_tap_104 : decode cX3_tap 104 = .ok (.aload_n 0, 1) := by decide +kernel
theorem dX3_tap_105 : decode cX3_tap 105 = .ok (.iload_n 1, 1) := by decide +kernel
theorem dX3_tap_106 : decode cX3_tap 106 = .ok (.iload 8, 2) := by decide +kernel
theorem dX3_tap_108 : decode cX3_tap 108 = .ok (.invokevirtual 76, 3) := by decide +kernel
theorem dX3_tap_111 : decode cX3_tap 111 = .ok (.isub, 1) := by decide +kernel
theorem dX3_tap_112 : decode cX3_tap 112 = .ok (.invokestatic 108, 3) := by decide +kernel
theorem dX3_tap_115 : decode cX3_tap 115 = .ok (.istore 9, 2) := by decide +kernel
theorem dX3_tap_117 : decode cX3_tap 117 = .ok (.iload 9, 2) := by decide +kernel
theorem dX3_tap_119 : decode cX3_tap 119 = .ok (.iload 7, 2) := by decide +kernel
theorem dX3_tap_121 : decode cX3_tap 121 = .ok (.if_icmp .lt 6, 3) := by decide +kernel
theorem dX3_tap_124 : decode cX3_tap 124 = .ok (.goto 11, 3) := by decide +kernel
theorem dX3_tap_127 : decode cX3_tap 127 = .ok (.iload 8, 2) := by decide +kernel
theorem dX3_tap_129 : decode cX3_tap 129 = .ok (.istore 6, 2) := by decide +kernel
theorem dX3_tap_131 : decode cX3_tap 131 = .ok (.iload 9, 2) := by decide +kernel
theorem dX3_tap_133 : decode cX3_tap 133 = .ok (.istore 7, 2) := by decide +kernel
theorem dX3_tap_135 : decode cX3_tap 135 = .ok (.iinc 8 1, 3) := by decide +kernel
theorem dX3_tap_138 : decode cX3_tap 138 = .ok (.goto (-57), 3) := by decide +kernel
theorem dX3_tap_141 : decode cX3_tap 141 = .ok (.aload_n 0, 1) := by decide +kernel
theorem dX3_tap_142 : decode cX3_tap 142 = .ok (.getfield 29, 3) := by decide +kernel
theorem dX3_tap_145 : decode cX3_tap 145 = .ok (.iload_n 1, 1) := by decide +kernel
theorem dX3_tap_146 : decode cX3_tap 146 = .ok (.iload 6, 2) := by decide +kernel
theorem dX3_tap_148 : decode cX3_tap 148 = .ok (.invokestatic 60, 3) := by decide +kernel
theorem dX3_tap_151 : decode cX3_tap 151 = .ok (.iconst 0, 1) := by decide +kernel
theorem dX3_tap_152 : decode cX3_tap 152 = .ok (.iadd, 1) := by decide +kernel
theorem dX3_tap_153 : decode cX3_tap 153 = .ok (.iload_n 3, 1) := by decide +kernel
theorem dX3_tap_154 : decode cX3_tap 154 = .ok (.iastore, 1) := by decide +kernel
theorem dX3_tap_155 : decode cX3_tap 155 = .ok (.iload 6, 2) := by decide +kernel
theorem dX3_tap_157 : decode cX3_tap 157 = .ok (.ireturn, 1) := by decide +kernel
theorem dX3_tracks_0 : decode cX3_tracks 0 = .ok (.aload_n 0, 1) := by decide +kernel
theorem dX3_tracks_1 : decode cX3_tracks 1 = .ok (.iconst 0, 1) := by decide +kernel
theorem dX3_tracks_2 : decode cX3_tracks 2 = .ok (.putfield 45, 3) := by decide +kernel
theorem dX3_tracks_5 : decode cX3_tracks 5 = .ok (.aload_n 0, 1) := by decide +kernel
theorem dX3_tracks_6 : decode cX3_tracks 6 = .ok (.getfield 48, 3) := by decide +kernel
theorem dX3_tracks_9 : decode cX3_tracks 9 = .ok (.ireturn, 1) := by decide +kernel
theorem dX3_addSection_0 : decode cX3_addSection 0 = .ok (.aload_n 0, 1) := by decide +kernel
theorem dX3_addSection_1 : decode cX3_addSection 1 = .ok (.iconst 0, 1) := by decide +kernel
theorem dX3_addSection_2 : decode cX3_addSection 2 = .ok (.putfield 45, 3) := by decide +kernel
theorem dX3_addSection_5 : decode cX3_addSection 5 = .ok (.iload_n 1, 1) := by decide +kernel
theorem dX3_addSection_6 : decode cX3_addSection 6 = .ok (.iconst 1, 1) := by decide +kernel
theorem dX3_addSection_7 : decode cX3_addSection 7 = .ok (.sipush 5000, 3) := by decide +kernel
theorem dX3_addSection_10 : decode cX3_addSection 10 = .ok (.invokestatic 51, 3) := by decide +kernel
theorem dX3_addSection_13 : decode cX3_addSection 13 = .ok (.ifCond .eq 14, 3) := by decide +kernel
theorem dX3_addSection_16 : decode cX3_addSection 16 = .ok (.iload_n 2, 1) := by decide +kernel
theorem dX3_addSection_17 : decode cX3_addSection 17 = .ok (.iconst 0, 1) := by decide +kernel
theorem dX3_addSection_18 : decode cX3_addSection 18 = .ok (.sipush 255, 3) := by decide +kernel
theorem dX3_addSection_21 : decode cX3_addSection 21 = .ok (.invokestatic 51, 3) := by decide +kernel
theorem dX3_addSection_24 : decode cX3_addSection 24 = .ok (.ifCond .ne 9, 3) := by decide +kernel
theorem dX3_addSection_27 : decode cX3_addSection 27 = .ok (.aload_n 0, 1) := by decide +kernel
theorem dX3_addSection_28 : decode cX3_addSection 28 = .ok (.iconst 1, 1) := by decide +kernel
theorem dX3_addSection_29 : decode cX3_addSection 29 = .ok (.invokevirtual 64, 3) := by decide +kernel
theorem dX3_addSection_32 : decode cX3_addSection 32 = .ok (.ireturn, 1) := by decide +kernel
theorem dX3_addSection_33 : decode cX3_addSection 33 = .ok (.aload_n 0, 1) := by decide +kernel
theorem dX3_addSection_34 : decode cX3_addSection 34 = .ok (.getfield 111, 3) := by decide +kernel
theorem dX3_addSection_37 : decode cX3_addSection 37 = .ok (.bipush 12, 2) := by decide +kernel
theorem dX3_addSection_39 : decode cX3_addSection 39 = .ok (.if_icmp .ne 9, 3) := by decide +kernel
theorem dX3_addSection_42 : decode cX3_addSection 42 = .ok (.aload_n 0, 1) := by decide +kernel
theorem dX3_addSection_43 : decode cX3_addSection 43 = .ok (.iconst 2, 1) := by decide +kernel
theorem dX3_addSection_44 : decode cX3_addSection 44 = .ok (.invokevirtual 64, 3) := by decide +kernel
theorem dX3_addSection_47 : decode cX3_addSection 47 = .ok (.ireturn, 1) := by decide +kernel
theorem dX3_addSection_48 : decode cX3_addSection 48 = .ok (.aload_n 0, 1) := by decide +kernel
theorem dX3_addSection_49 : decode cX3_addSection 49 = .ok (.getfield 35, 3) := by decide +kernel
theorem dX3_addSection_52 : decode cX3_addSection 52 = .ok (.aload_n 0, 1) := by decide +kernel
theorem dX3_addSection_53 : decode cX3_addSection 53 = .ok (.getfield 111, 3) := by decide +kernel
theorem dX3_addSection_56 : decode cX3_addSection 56 = .ok (.iload_n 2, 1) := by decide +kernel
theorem dX3_addSection_57 : decode cX3_addSection 57 = .ok (.iastore, 1) := by decide +kernel
theorem dX3_addSection_58 : decode cX3_addSection 58 = .ok (.aload_n 0, 1) := by decide +kernel
theorem dX3_addSection_59 : decode cX3_addSection 59 = .ok (.getfield 38, 3) := by decide +kernel
theorem dX3_addSection_62 : decode cX3_addSection 62 = .ok (.aload_n 0, 1) := by decide +kernel
theorem dX3_addSection_63 : decode cX3_addSection 63 = .ok (.getfield 111, 3) := by decide +kernel
theorem dX3_addSection_66 : decode cX3_addSection 66 = .ok (.iload_n 3, 1) := by decide +kernel
theorem dX3_addSection_67 : decode cX3_addSection 67 = .ok (.bastore, 1) := by decide +kernel
theorem dX3_addSection_68 : decode cX3_addSection 68 = .ok (.aload_n 0, 1) := by decide +kernel
theorem dX3_addSection_69 : decode cX3_addSection 69 = .ok (.getfield 32, 3) := by decide +kernel
theorem dX3_addSection_72 : decode cX3_addSection 72 = .ok (.aload_n 0, 1) := by decide +kernel
theorem dX3_addSection_73 : decode cX3_addSection 73 = .ok (.getfield 111, 3) := by decide +kernel
theorem dX3_addSection_76 : decode cX3_addSection 76 = .ok (.iconst 1, 1) := by decide +kernel
theorem dX3_addSection_77 : decode cX3_addSection 77 = .ok (.iadd, 1) := by decide +kernel
theorem dX3_addSection_78 : decode cX3_addSection 78 = .ok (.aload_n 0, 1) := by decide +kernel
theorem dX3_addSection_79 : decode cX3_addSection 79 = .ok (.getfield 32, 3) := by decide +kernel
theorem dX3_addSection_82 : decode cX3_addSection 82 = .ok (.aload_n 0, 1) := by decide +kernel
theorem dX3_addSection_83 : decode cX3_addSection 83 = .ok (.getfield 111, 3) := by decide +kernel
theorem dX3_addSection_86 : decode cX3_addSection 86 = .ok (.iaload, 1) := by decide +kernel
theorem dX3_addSection_87 : decode cX3_addSection 87 = .ok (.iload_n 1, 1) := by decide +kernel
theorem dX3_addSection_88 : decode cX3_addSection 88 = .ok (.iadd, 1) := by decide +kernel
theorem dX3_addSection_89 : decode cX3_addSection 89 = .ok (.iastore, 1) := by decide +kernel
theorem dX3_addSection_90 : decode cX3_addSection 90 = .ok (.aload_n 0, 1) := by decide +kernel
theorem dX3_addSection_91 : decode cX3_addSection 91 = .ok (.dup, 1) := by decide +kernel
theorem dX3_addSection_92 : decode cX3_addSection 92 = .ok (.getfield 111, 3) := by decide +kernel
theorem dX3_addSection_95 : decode cX3_addSection 95 = .ok (.iconst 1, 1) := by decide +kernel
theorem dX3_addSection_96 : decode cX3_addSection 96 = .ok (.iadd, 1) := by decide +kernel
theorem dX3_addSection_97 : decode cX3_addSection 97 = .ok (.putfield 111, 3) := by decide +kernel
theorem dX3_addSection_100 : decode cX3_addSection 100 = .ok (.aload_n 0, 1) := by decide +kernel
theorem dX3_addSection_101 : decode cX3_addSection 101 = .ok (.getfield 32, 3) := by decide +kernel
theorem dX3_addSection_104 : decode cX3_addSection 104 = .ok (.aload_n 0, 1) := by decide +kernel
theorem dX3_addSection_105 : decode cX3_addSection 105 = .ok (.getfield 111, 3) := by decide +kernel
theorem dX3_addSection_108 : decode cX3_addSection 108 = .ok (.iconst 1, 1) := by decide +kernel
theorem dX3_addSection_109 : decode cX3_addSection 109 = .ok (.isub, 1) := by decide +kernel
theorem dX3_addSection_110 : decode cX3_addSection 110 = .ok (.iaload, 1) := by decide +kernel
theorem dX3_addSection_111 : decode cX3_addSection 111 = .ok (.ireturn, 1) := by decide +kernel
theorem dX3_dropSection_0 : decode cX3_dropSection 0 = .ok (.aload_n 0, 1) := by decide +kernel
theorem dX3_dropSection_1 : decode cX3_dropSection 1 = .ok (.iconst 0, 1) := by decide +kernel
theorem dX3_dropSection_2 : decode cX3_dropSection 2 = .ok (.putfield 45, 3) := by decide +kernel
theorem dX3_dropSection_5 : decode cX3_dropSection 5 = .ok (.aload_n 0, 1) := by decide +kernel
theorem dX3_dropSection_6 : decode cX3_dropSection 6 = .ok (.getfield 111, 3) := by decide +kernel
theorem dX3_dropSection_9 : decode cX3_dropSection 9 = .ok (.ifCond .ne 9, 3) := by decide +kernel
theorem dX3_dropSection_12 : decode cX3_dropSection 12 = .ok (.aload_n 0, 1) := by decide +kernel
theorem dX3_dropSection_13 : decode cX3_dropSection 13 = .ok (.iconst 1, 1) := by decide +kernel
theorem dX3_dropSection_14 : decode cX3_dropSection 14 = .ok (.invokevirtual 64, 3) := by decide +kernel
theorem dX3_dropSection_17 : decode cX3_dropSection 17 = .ok (.ireturn, 1) := by decide +kernel
theorem dX3_dropSection_18 : decode cX3_dropSection 18 = .ok (.aload_n 0, 1) := by decide +kernel
theorem dX3_dropSection_19 : decode cX3_dropSection 19 = .ok (.dup, 1) := by decide +kernel
theorem dX3_dropSection_20 : decode cX3_dropSection 20 = .ok (.getfield 111, 3) := by decide +kernel
theorem dX3_dropSection_23 : decode cX3_dropSection 23 = .ok (.iconst 1, 1) := by decide +kernel
theorem dX3_dropSection_24 : decode cX3_dropSection 24 = .ok (.isub, 1) := by decide +kernel
theorem dX3_dropSection_25 : decode cX3_dropSection 25 = .ok (.putfield 111, 3) := by decide +kernel
theorem dX3_dropSection_28 : decode cX3_dropSection 28 = .ok (.aload_n 0, 1) := by decide +kernel
theorem dX3_dropSection_29 : decode cX3_dropSection 29 = .ok (.getfield 111, 3) := by decide +kernel
theorem dX3_dropSection_32 : decode cX3_dropSection 32 = .ok (.ireturn, 1) := by decide +kernel
theorem dX3_section_0 : decode cX3_section 0 = .ok (.iconst 0, 1) := by decide +kernel
theorem dX3_section_1 : decode cX3_section 1 = .ok (.istore_n 2, 1) := by decide +kernel
theorem dX3_section_2 : decode cX3_section 2 = .ok (.iload_n 2, 1) := by decide +kernel
theorem dX3_section_3 : decode cX3_section 3 = .ok (.aload_n 0, 1) := by decide +kernel
theorem dX3_section_4 : decode cX3_section 4 = .ok (.getfield 111, 3) := by decide +kernel
theorem dX3_section_7 : decode cX3_section 7 = .ok (.if_icmp .ge 23, 3) := by decide +kernel
theorem dX3_section_10 : decode cX3_section 10 = .ok (.iload_n 1, 1) := by decide +kernel
theorem dX3_section_11 : decode cX3_section 11 = .ok (.aload_n 0, 1) := by decide +kernel
theorem dX3_section_12 : decode cX3_section 12 = .ok (.getfield 32, 3) := by decide +kernel
theorem dX3_section_15 : decode cX3_section 15 = .ok (.iload_n 2, 1) := by decide +kernel
theorem dX3_section_16 : decode cX3_section 16 = .ok (.iconst 1, 1) := by decide +kernel
theorem dX3_section_17 : decode cX3_section 17 = .ok (.iadd, 1) := by decide +kernel
theorem dX3_section_18 : decode cX3_section 18 = .ok (.iaload, 1) := by decide +kernel
theorem dX3_section_19 : decode cX3_section 19 = .ok (.if_icmp .ge 5, 3) := by decide +kernel
theorem dX3_section_22 : decode cX3_section 22 = .ok (.iload_n 2, 1) := by decide +kernel
theorem dX3_section_23 : decode cX3_section 23 = .ok (.ireturn, 1) := by decide +kernel
theorem dX3_section_24 : decode cX3_section 24 = .ok (.iinc 2 1, 3) := by decide +kernel
theorem dX3_section_27 : decode cX3_section 27 = .ok (.goto (-25), 3) := by decide +kernel
theorem dX3_section_30 : decode cX3_section 30 = .ok (.iconst (-1), 1) := by decide +kernel
theorem dX3_section_31 : decode cX3_section 31 = .ok (.ireturn, 1) := by decide +kernel
theorem dX3_sectionAt_0 : decode cX3_sectionAt 0 = .ok (.aload_n 0, 1) := by decide +kernel
theorem dX3_sectionAt_1 : decode cX3_sectionAt 1 = .ok (.iconst 0, 1) := by decide +kernel
theorem dX3_sectionAt_2 : decode cX3_sectionAt 2 = .ok (.putfield 45, 3) := by decide +kernel
theorem dX3_sectionAt_5 : decode cX3_sectionAt 5 = .ok (.iload_n 1, 1) := by decide +kernel
theorem dX3_sectionAt_6 : decode cX3_sectionAt 6 = .ok (.invokestatic 100, 3) := by decide +kernel
theorem dX3_sectionAt_9 : decode cX3_sectionAt 9 = .ok (.ifCond .eq 11, 3) := by decide +kernel
theorem dX3_sectionAt_12 : decode cX3_sectionAt 12 = .ok (.aload_n 0, 1) := by decide +kernel
theorem dX3_sectionAt_13 : decode cX3_sectionAt 13 = .ok (.iload_n 1, 1) := by decide +kernel
theorem dX3_sectionAt_14 : decode cX3_sectionAt 14 = .ok (.invokevirtual 114, 3) := by decide +kernel
theorem dX3_sectionAt_17 : decode cX3_sectionAt 17 = .ok (.goto 8, 3) := by decide +kernel
theorem dX3_sectionAt_20 : decode cX3_sectionAt 20 = .ok (.aload_n 0, 1) := by decide +kernel
theorem dX3_sectionAt_21 : decode cX3_sectionAt 21 = .ok (.iconst 1, 1) := by decide +kernel
theorem dX3_sectionAt_22 : decode cX3_sectionAt 22 = .ok (.invokevirtual 64, 3) := by decide +kernel
theorem dX3_sectionAt_25 : decode cX3_sectionAt 25 = .ok (.ireturn, 1) := by decide +kernel
theorem dX3_length_0 : decode cX3_length 0 = .ok (.aload_n 0, 1) := by decide +kernel
theorem dX3_length_1 : decode cX3_length 1 = .ok (.iconst 0, 1) := by decide +kernel
theorem dX3_length_2 : decode cX3_length 2 = .ok (.putfield 45, 3) := by decide +kernel
theorem dX3_length_5 : decode cX3_length 5 = .ok (.aload_n 0, 1) := by decide +kernel
theorem dX3_length_6 : decode cX3_length 6 = .ok (.getfield 32, 3) := by decide +kernel
theorem dX3_length_9 : decode cX3_length 9 = .ok (.aload_n 0, 1) := by decide +kernel
theorem dX3_length_10 : decode cX3_length 10 = .ok (.getfield 111, 3) := by decide +kernel
theorem dX3_length_13 : decode cX3_length 13 = .ok (.iaload, 1) := by decide +kernel
theorem dX3_length_14 : decode cX3_length 14 = .ok (.ireturn, 1) := by decide +kernel
theorem dX3_isSilent_0 : decode cX3_isSilent 0 = .ok (.iconst 0, 1) := by decide +kernel
theorem dX3_isSilent_1 : decode cX3_isSilent 1 = .ok (.istore_n 2, 1) := by decide +kernel
theorem dX3_isSilent_2 : decode cX3_isSilent 2 = .ok (.iconst 0, 1) := by decide +kernel
theorem dX3_isSilent_3 : decode cX3_isSilent 3 = .ok (.istore_n 3, 1) := by decide +kernel
theorem dX3_isSilent_4 : decode cX3_isSilent 4 = .ok (.iload_n 3, 1) := by decide +kernel
theorem dX3_isSilent_5 : decode cX3_isSilent 5 = .ok (.aload_n 0, 1) := by decide +kernel
theorem dX3_isSilent_6 : decode cX3_isSilent 6 = .ok (.getfield 48, 3) := by decide +kernel
theorem dX3_isSilent_9 : decode cX3_isSilent 9 = .ok (.if_icmp .ge 37, 3) := by decide +kernel
theorem dX3_isSilent_12 : decode cX3_isSilent 12 = .ok (.iload_n 2, 1) := by decide +kernel
theorem dX3_isSilent_13 : decode cX3_isSilent 13 = .ok (.ifCond .ne 21, 3) := by decide +kernel
theorem dX3_isSilent_16 : decode cX3_isSilent 16 = .ok (.iload_n 3, 1) := by decide +kernel
theorem dX3_isSilent_17 : decode cX3_isSilent 17 = .ok (.iload_n 1, 1) := by decide +kernel
theorem dX3_isSilent_18 : decode cX3_isSilent 18 = .ok (.if_icmp .eq 20, 3) := by decide +kernel
theorem dX3_isSilent_21 : decode cX3_isSilent 21 = .ok (.aload_n 0, 1) := by decide +kernel
theorem dX3_isSilent_22 : decode cX3_isSilent 22 = .ok (.getfield 25, 3) := by decide +kernel
theorem dX3_isSilent_25 : decode cX3_isSilent 25 = .ok (.iconst 3, 1) := by decide +kernel
theorem dX3_isSilent_26 : decode cX3_isSilent 26 = .ok (.iload_n 3, 1) := by decide +kernel
theorem dX3_isSilent_27 : decode cX3_isSilent 27 = .ok (.imul, 1) := by decide +kernel
theorem dX3_isSilent_28 : decode cX3_isSilent 28 = .ok (.iconst 1, 1) := by decide +kernel
theorem dX3_isSilent_29 : decode cX3_isSilent 29 = .ok (.iadd, 1) := by decide +kernel
theorem dX3_isSilent_30 : decode cX3_isSilent 30 = .ok (.baload, 1) := by decide +kernel
theorem dX3_isSilent_31 : decode cX3_isSilent 31 = .ok (.ifCond .eq 7, 3) := by decide +kernel
theorem dX3_isSilent_34 : decode cX3_isSilent 34 = .ok (.iconst 1, 1) := by decide +kernel
theorem dX3_isSilent_35 : decode cX3_isSilent 35 = .ok (.goto 4, 3) := by decide +kernel
theorem dX3_isSilent_38 : decode cX3_isSilent 38 = .ok (.iconst 0, 1) := by decide +kernel
theorem dX3_isSilent_39 : decode cX3_isSilent 39 = .ok (.istore_n 2, 1) := by decide +kernel
theorem dX3_isSilent_40 : decode cX3_isSilent 40 = .ok (.iinc 3 1, 3) := by decide +kernel
theorem dX3_isSilent_43 : decode cX3_isSilent 43 = .ok (.goto (-39), 3) := by decide +kernel
theorem dX3_isSilent_46 : decode cX3_isSilent 46 = .ok (.aload_n 0, 1) := by decide +kernel
theorem dX3_isSilent_47 : decode cX3_isSilent 47 = .ok (.getfield 25, 3) := by decide +kernel
theorem dX3_isSilent_50 : decode cX3_isSilent 50 = .ok (.iconst 3, 1) := by decide +kernel
theorem dX3_isSilent_51 : decode cX3_isSilent 51 = .ok (.iload_n 1, 1) := by decide +kernel
theorem dX3_isSilent_52 : decode cX3_isSilent 52 = .ok (.imul, 1) := by decide +kernel
theorem dX3_isSilent_53 : decode cX3_isSilent 53 = .ok (.baload, 1) := by decide +kernel
theorem dX3_isSilent_54 : decode cX3_isSilent 54 = .ok (.ifCond .ne 20, 3) := by decide +kernel
theorem dX3_isSilent_57 : decode cX3_isSilent 57 = .ok (.iload_n 2, 1) := by decide +kernel
theorem dX3_isSilent_58 : decode cX3_isSilent 58 = .ok (.ifCond .eq 20, 3) := by decide +kernel
theorem dX3_isSilent_61 : decode cX3_isSilent 61 = .ok (.aload_n 0, 1) := by decide +kernel
theorem dX3_isSilent_62 : decode cX3_isSilent 62 = .ok (.getfield 25, 3) := by decide +kernel
theorem dX3_isSilent_65 : decode cX3_isSilent 65 = .ok (.iconst 3, 1) := by decide +kernel
theorem dX3_isSilent_66 : decode cX3_isSilent 66 = .ok (.iload_n 1, 1) := by decide +kernel
theorem dX3_isSilent_67 : decode cX3_isSilent 67 = .ok (.imul, 1) := by decide +kernel
theorem dX3_isSilent_68 : decode cX3_isSilent 68 = .ok (.iconst 1, 1) := by decide +kernel
theorem dX3_isSilent_69 : decode cX3_isSilent 69 = .ok (.iadd, 1) := by decide +kernel
theorem dX3_isSilent_70 : decode cX3_isSilent 70 = .ok (.baload, 1) := by decide +kernel
theorem dX3_isSilent_71 : decode cX3_isSilent 71 = .ok (.ifCond .ne 7, 3) := by decide +kernel
theorem dX3_isSilent_74 : decode cX3_isSilent 74 = .ok (.iconst 1, 1) := by decide +kernel
theorem dX3_isSilent_75 : decode cX3_isSilent 75 = .ok (.goto 4, 3) := by decide +kernel
theorem dX3_isSilent_78 : decode cX3_isSilent 78 = .ok (.iconst 0, 1) := by decide +kernel
theorem dX3_isSilent_79 : decode cX3_isSilent 79 = .ok (.ireturn, 1) := by decide +kernel
theorem dX3_strike_0 : decode cX3_strike 0 = .ok (.aload_n 0, 1) := by decide +kernel
theorem dX3_strike_1 : decode cX3_strike 1 = .ok (.iload_n 1, 1) := by decide +kernel
theorem dX3_strike_2 : decode cX3_strike 2 = .ok (.invokevirtual 117, 3) := by decide +kernel
theorem dX3_strike_5 : decode cX3_strike 5 = .ok (.ifCond .eq 5, 3) := by decide +kernel
theorem dX3_strike_8 : decode cX3_strike 8 = .ok (.iconst 0, 1) := by decide +kernel
theorem dX3_strike_9 : decode cX3_strike 9 = .ok (.ireturn, 1) := by decide +kernel
theorem dX3_strike_10 : decode cX3_strike 10 = .ok (.iload_n 2, 1) := by decide +kernel
theorem dX3_strike_11 : decode cX3_strike 11 = .ok (.istore_n 3, 1) := by decide +kernel
theorem dX3_strike_12 : decode cX3_strike 12 = .ok (.aload_n 0, 1) := by decide +kernel
theorem dX3_strike_13 : decode cX3_strike 13 = .ok (.getfield 111, 3) := by decide +kernel
theorem dX3_strike_16 : decode cX3_strike 16 = .ok (.ifCond .le 56, 3) := by decide +kernel
theorem dX3_strike_19 : decode cX3_strike 19 = .ok (.aload_n 0, 1) := by decide +kernel
theorem dX3_strike_20 : decode cX3_strike 20 = .ok (.iload_n 2, 1) := by decide +kernel
theorem dX3_strike_21 : decode cX3_strike 21 = .ok (.invokevirtual 114, 3) := by decide +kernel
theorem dX3_strike_24 : decode cX3_strike 24 = .ok (.istore 4, 2) := by decide +kernel
theorem dX3_strike_26 : decode cX3_strike 26 = .ok (.iload 4, 2) := by decide +kernel
theorem dX3_strike_28 : decode cX3_strike 28 = .ok (.iconst (-1), 1) := by decide +kernel
theorem dX3_strike_29 : decode cX3_strike 29 = .ok (.if_icmp .eq 17, 3) := by decide +kernel
theorem dX3_strike_32 : decode cX3_strike 32 = .ok (.aload_n 0, 1) := by decide +kernel
theorem dX3_strike_33 : decode cX3_strike 33 = .ok (.getfield 35, 3) := by decide +kernel
theorem dX3_strike_36 : decode cX3_strike 36 = .ok (.iload 4, 2) := by decide +kernel
theorem dX3_strike_38 : decode cX3_strike 38 = .ok (.iaload, 1) := by decide +kernel
theorem dX3_strike_39 : decode cX3_strike 39 = .ok (.iload_n 1, 1) := by decide +kernel
theorem dX3_strike_40 : decode cX3_strike 40 = .ok (.ishr, 1) := by decide +kernel
theorem dX3_strike_41 : decode cX3_strike 41 = .ok (.iconst 1, 1) := by decide +kernel
theorem dX3_strike_42 : decode cX3_strike 42 = .ok (.iand, 1) := by decide +kernel
theorem dX3_strike_43 : decode cX3_strike 43 = .ok (.ifCond .ne 5, 3) := by decide +kernel
theorem dX3_strike_46 : decode cX3_strike 46 = .ok (.iconst 0, 1) := by decide +kernel
theorem dX3_strike_47 : decode cX3_strike 47 = .ok (.ireturn, 1) := by decide +kernel
theorem dX3_strike_48 : decode cX3_strike 48 = .ok (.aload_n 0, 1) := by decide +kernel
theorem dX3_strike_49 : decode cX3_strike 49 = .ok (.getfield 38, 3) := by decide +kernel
theorem dX3_strike_52 : decode cX3_strike 52 = .ok (.iload 4, 2) := by decide +kernel
theorem dX3_strike_54 : decode cX3_strike 54 = .ok (.baload, 1) := by decide +kernel
theorem dX3_strike_55 : decode cX3_strike 55 = .ok (.ifCond .eq 15, 3) := by decide +kernel
theorem dX3_strike_58 : decode cX3_strike 58 = .ok (.iload_n 2, 1) := by decide +kernel
theorem dX3_strike_59 : decode cX3_strike 59 = .ok (.aload_n 0, 1) := by decide +kernel
theorem dX3_strike_60 : decode cX3_strike 60 = .ok (.getfield 32, 3) := by decide +kernel
theorem dX3_strike_63 : decode cX3_strike 63 = .ok (.iload 4, 2) := by decide +kernel
theorem dX3_strike_65 : decode cX3_strike 65 = .ok (.iaload, 1) := by decide +kernel
theorem dX3_strike_66 : decode cX3_strike 66 = .ok (.isub, 1) := by decide +kernel
theorem dX3_strike_67 : decode cX3_strike 67 = .ok (.goto 4, 3) := by decide +kernel
theorem dX3_strike_70 : decode cX3_strike 70 = .ok (.iload_n 2, 1) := by decide +kernel
theorem dX3_strike_71 : decode cX3_strike 71 = .ok (.istore_n 3, 1) := by decide +kernel
theorem dX3_strike_72 : decode cX3_strike 72 = .ok (.aload_n 0, 1) := by decide +kernel
theorem dX3_strike_73 : decode cX3_strike 73 = .ok (.getfield 13, 3) := by decide +kernel
theorem dX3_strike_76 : decode cX3_strike 76 = .ok (.iload_n 1, 1) := by decide +kernel
theorem dX3_strike_77 : decode cX3_strike 77 = .ok (.iaload, 1) := by decide +kernel
theorem dX3_strike_78 : decode cX3_strike 78 = .ok (.istore 4, 2) := by decide +kernel
theorem dX3_strike_80 : decode cX3_strike 80 = .ok (.aload_n 0, 1) := by decide +kernel
theorem dX3_strike_81 : decode cX3_strike 81 = .ok (.getfield 9, 3) := by decide +kernel
theorem dX3_strike_84 : decode cX3_strike 84 = .ok (.iload_n 1, 1) := by decide +kernel
theorem dX3_strike_85 : decode cX3_strike 85 = .ok (.iaload, 1) := by decide +kernel
theorem dX3_strike_86 : decode cX3_strike 86 = .ok (.iload 4, 2) := by decide +kernel
theorem dX3_strike_88 : decode cX3_strike 88 = .ok (.imul, 1) := by decide +kernel
theorem dX3_strike_89 : decode cX3_strike 89 = .ok (.istore 5, 2) := by decide +kernel
theorem dX3_strike_91 : decode cX3_strike 91 = .ok (.iload_n 3, 1) := by decide +kernel
theorem dX3_strike_92 : decode cX3_strike 92 = .ok (.iload 5, 2) := by decide +kernel
theorem dX3_strike_94 : decode cX3_strike 94 = .ok (.irem, 1) := by decide +kernel
theorem dX3_strike_95 : decode cX3_strike 95 = .ok (.iload 4, 2) := by decide +kernel
theorem dX3_strike_97 : decode cX3_strike 97 = .ok (.idiv, 1) := by decide +kernel
theorem dX3_strike_98 : decode cX3_strike 98 = .ok (.istore 6, 2) := by decide +kernel
theorem dX3_strike_100 : decode cX3_strike 100 = .ok (.iload_n 1, 1) := by decide +kernel
theorem dX3_strike_101 : decode cX3_strike 101 = .ok (.iload 6, 2) := by decide +kernel
theorem dX3_strike_103 : decode cX3_strike 103 = .ok (.invokestatic 60, 3) := by decide +kernel
theorem dX3_strike_106 : decode cX3_strike 106 = .ok (.istore 7, 2) := by decide +kernel
theorem dX3_strike_108 : decode cX3_strike 108 = .ok (.aload_n 0, 1) := by decide +kernel
theorem dX3_strike_109 : decode cX3_strike 109 = .ok (.iload_n 1, 1) := by decide +kernel
theorem dX3_strike_110 : decode cX3_strike 110 = .ok (.iload 6, 2) := by decide +kernel
theorem dX3_strike_112 : decode cX3_strike 112 = .ok (.invokevirtual 76, 3) := by decide +kernel
theorem dX3_strike_115 : decode cX3_strike 115 = .ok (.istore 8, 2) := by decide +kernel
theorem dX3_strike_117 : decode cX3_strike 117 = .ok (.iload_n 3, 1) := by decide +kernel
theorem dX3_strike_118 : decode cX3_strike 118 = .ok (.iload 5, 2) := by decide +kernel
theorem dX3_strike_120 : decode cX3_strike 120 = .ok (.irem, 1) := by decide +kernel
theorem dX3_strike_121 : decode cX3_strike 121 = .ok (.iload 6, 2) := by decide +kernel
theorem dX3_strike_123 : decode cX3_strike 123 = .ok (.iload 4, 2) := by decide +kernel
theorem dX3_strike_125 : decode cX3_strike 125 = .ok (.imul, 1) := by decide +kernel
theorem dX3_strike_126 : decode cX3_strike 126 = .ok (.isub, 1) := by decide +kernel
theorem dX3_strike_127 : decode cX3_strike 127 = .ok (.istore 9, 2) := by decide +kernel
theorem dX3_strike_129 : decode cX3_strike 129 = .ok (.iload_n 3, 1) := by decide +kernel
theorem dX3_strike_130 : decode cX3_strike 130 = .ok (.iload 5, 2) := by decide +kernel
theorem dX3_strike_132 : decode cX3_strike 132 = .ok (.idiv, 1) := by decide +kernel
theorem dX3_strike_133 : decode cX3_strike 133 = .ok (.aload_n 0, 1) := by decide +kernel
theorem dX3_strike_134 : decode cX3_strike 134 = .ok (.getfield 29, 3) := by decide +kernel
theorem dX3_strike_137 : decode cX3_strike 137 = .ok (.iload 7, 2) := by decide +kernel
theorem dX3_strike_139 : decode cX3_strike 139 = .ok (.iconst 3, 1) := by decide +kernel
theorem dX3_strike_140 : decode cX3_strike 140 = .ok (.iadd, 1) := by decide +kernel
theorem dX3_strike_141 : decode cX3_strike 141 = .ok (.iaload, 1) := by decide +kernel
theorem dX3_strike_142 : decode cX3_strike 142 = .ok (.irem, 1) := by decide +kernel
theorem dX3_strike_143 : decode cX3_strike 143 = .ok (.aload_n 0, 1) := by decide +kernel
theorem dX3_strike_144 : decode cX3_strike 144 = .ok (.getfield 29, 3) := by decide +kernel
theorem dX3_strike_147 : decode cX3_strike 147 = .ok (.iload 7, 2) := by decide +kernel
theorem dX3_strike_149 : decode cX3_strike 149 = .ok (.iconst 2, 1) := by decide +kernel
theorem dX3_strike_150 : decode cX3_strike 150 = .ok (.iadd, 1) := by decide +kernel
theorem dX3_strike_151 : decode cX3_strike 151 = .ok (.iaload, 1) := by decide +kernel
theorem dX3_strike_152 : decode cX3_strike 152 = .ok (.if_icmp .eq 5, 3) := by decide +kernel
theorem dX3_strike_155 : decode cX3_strike 155 = .ok (.iconst 0, 1) := by decide +kernel
theorem dX3_strike_156 : decode cX3_strike 156 = .ok (.ireturn, 1) := by decide +kernel
theorem dX3_strike_157 : decode cX3_strike 157 = .ok (.iconst 0, 1) := by decide +kernel
theorem dX3_strike_158 : decode cX3_strike 158 = .ok (.istore 10, 2) := by decide +kernel
theorem dX3_strike_160 : decode cX3_strike 160 = .ok (.iconst 0, 1) := by decide +kernel
theorem dX3_strike_161 : decode cX3_strike 161 = .ok (.istore 11, 2) := by decide +kernel
theorem dX3_strike_163 : decode cX3_strike 163 = .ok (.iload 11, 2) := by decide +kernel
theorem dX3_strike_165 : decode cX3_strike 165 = .ok (.aload_n 0, 1) := by decide +kernel
theorem dX3_strike_166 : decode cX3_strike 166 = .ok (.getfield 29, 3) := by decide +kernel
theorem dX3_strike_169 : decode cX3_strike 169 = .ok (.iload 7, 2) := by decide +kernel
theorem dX3_strike_171 : decode cX3_strike 171 = .ok (.iconst 1, 1) := by decide +kernel
theorem dX3_strike_172 : decode cX3_strike 172 = .ok (.iadd, 1) := by decide +kernel
theorem dX3_strike_173 : decode cX3_strike 173 = .ok (.iaload, 1) := by decide +kernel
theorem dX3_strike_174 : decode cX3_strike 174 = .ok (.if_icmp .ge 47, 3) := by decide +kernel
theorem dX3_strike_177 : decode cX3_strike 177 = .ok (.iload 10, 2) := by decide +kernel
theorem dX3_strike_179 : decode cX3_strike 179 = .ok (.ifCond .ne 29, 3) := by decide +kernel
theorem dX3_strike_182 : decode cX3_strike 182 = .ok (.iload 9, 2) := by decide +kernel
theorem dX3_strike_184 : decode cX3_strike 184 = .ok (.iload 8, 2) := by decide +kernel
theorem dX3_strike_186 : decode cX3_strike 186 = .ok (.iload 11, 2) := by decide +kernel
theorem dX3_strike_188 : decode cX3_strike 188 = .ok (.iload 4, 2) := by decide +kernel
theorem dX3_strike_190 : decode cX3_strike 190 = .ok (.iload 8, 2) := by decide +kernel
theorem dX3_strike_192 : decode cX3_strike 192 = .ok (.isub, 1) := by decide +kernel
theorem dX3_strike_193 : decode cX3_strike 193 = .ok (.imul, 1) := by decide +kernel
theorem dX3_strike_194 : decode cX3_strike 194 = .ok (.aload_n 0, 1) := by decide +kernel
theorem dX3_strike_195 : decode cX3_strike 195 = .ok (.getfield 29, 3) := by decide +kernel
theorem dX3_strike_198 : decode cX3_strike 198 = .ok (.iload 7, 2) := by decide +kernel
theorem dX3_strike_200 : decode cX3_strike 200 = .ok (.iconst 1, 1) := by decide +kernel
theorem dX3_strike_201 : decode cX3_strike 201 = .ok (.iadd, 1) := by decide +kernel
theorem dX3_strike_202 : decode cX3_strike 202 = .ok (.iaload, 1) := by decide +kernel
theorem dX3_strike_203 : decode cX3_strike 203 = .ok (.idiv, 1) := by decide +kernel
theorem dX3_strike_204 : decode cX3_strike 204 = .ok (.iadd, 1) := by decide +kernel
theorem dX3_strike_205 : decode cX3_strike 205 = .ok (.if_icmp .ne 7, 3) := by decide +kernel
theorem dX3_strike_208 : decode cX3_strike 208 = .ok (.iconst 1, 1) := by decide +kernel
theorem dX3_strike_209 : decode cX3_strike 209 = .ok (.goto 4, 3) := by decide +kernel
theorem dX3_strike_212 : decode cX3_strike 212 = .ok (.iconst 0, 1) := by decide +kernel
theorem dX3_strike_213 : decode cX3_strike 213 = .ok (.istore 10, 2) := by decide +kernel
theorem dX3_strike_215 : decode cX3_strike 215 = .ok (.iinc 11 1, 3) := by decide +kernel
theorem dX3_strike_218 : decode cX3_strike 218 = .ok (.goto (-55), 3) := by decide +kernel
theorem dX3_strike_221 : decode cX3_strike 221 = .ok (.iload 10, 2) := by decide +kernel
theorem dX3_strike_223 : decode cX3_strike 223 = .ok (.ifCond .eq 15, 3) := by decide +kernel
theorem dX3_strike_226 : decode cX3_strike 226 = .ok (.aload_n 0, 1) := by decide +kernel
theorem dX3_strike_227 : decode cX3_strike 227 = .ok (.getfield 29, 3) := by decide +kernel
theorem dX3_strike_230 : decode cX3_strike 230 = .ok (.iload 7, 2) := by decide +kernel
theorem dX3_strike_232 : decode cX3_strike 232 = .ok (.iconst 0, 1) := by decide +kernel
theorem dX3_strike_233 : decode cX3_strike 233 = .ok (.iadd, 1) := by decide +kernel
theorem dX3_strike_234 : decode cX3_strike 234 = .ok (.iaload, 1) := by decide +kernel
theorem dX3_strike_235 : decode cX3_strike 235 = .ok (.goto 4, 3) := by decide +kernel
theorem dX3_strike_238 : decode cX3_strike 238 = .ok (.iconst 0, 1) := by decide +kernel
theorem dX3_strike_239 : decode cX3_strike 239 = .ok (.ireturn, 1) := by decide +kernel
theorem dX3_loud__0 : decode cX3_loud_ 0 = .ok (.aload_n 0, 1) := by decide +kernel
theorem dX3_loud__1 : decode cX3_loud_ 1 = .ok (.getfield 25, 3) := by decide +kernel
theorem dX3_loud__4 : decode cX3_loud_ 4 = .ok (.iconst 3, 1) := by decide +kernel
theorem dX3_loud__5 : decode cX3_loud_ 5 = .ok (.iload_n 1, 1) := by decide +kernel
theorem dX3_loud__6 : decode cX3_loud_ 6 = .ok (.imul, 1) := by decide +kernel
theorem dX3_loud__7 : decode cX3_loud_ 7 = .ok (.iconst 2, 1) := by decide +kernel
theorem dX3_loud__8 : decode cX3_loud_ 8 = .ok (.iadd, 1) := by decide +kernel
theorem dX3_loud__9 : decode cX3_loud_ 9 = .ok (.baload, 1) := by decide +kernel
theorem dX3_loud__10 : decode cX3_loud_ 10 = .ok (.ifCond .eq 7, 3) := by decide +kernel
theorem dX3_loud__13 : decode cX3_loud_ 13 = .ok (.iconst 0, 1) := by decide +kernel
theorem dX3_loud__14 : decode cX3_loud_ 14 = .ok (.goto 9, 3) := by decide +kernel
theorem dX3_loud__17 : decode cX3_loud_ 17 = .ok (.aload_n 0, 1) := by decide +kernel
theorem dX3_loud__18 : decode cX3_loud_ 18 = .ok (.iload_n 1, 1) := by decide +kernel
theorem dX3_loud__19 : decode cX3_loud_ 19 = .ok (.iload_n 2, 1) := by decide +kernel
theorem dX3_loud__20 : decode cX3_loud_ 20 = .ok (.invokevirtual 120, 3) := by decide +kernel
theorem dX3_loud__23 : decode cX3_loud_ 23 = .ok (.istore_n 3, 1) := by decide +kernel
theorem dX3_loud__24 : decode cX3_loud_ 24 = .ok (.iload_n 3, 1) := by decide +kernel
theorem dX3_loud__25 : decode cX3_loud_ 25 = .ok (.ifCond .ne 5, 3) := by decide +kernel
theorem dX3_loud__28 : decode cX3_loud_ 28 = .ok (.iconst 0, 1) := by decide +kernel
theorem dX3_loud__29 : decode cX3_loud_ 29 = .ok (.ireturn, 1) := by decide +kernel
theorem dX3_loud__30 : decode cX3_loud_ 30 = .ok (.iconst 0, 1) := by decide +kernel
theorem dX3_loud__31 : decode cX3_loud_ 31 = .ok (.istore 4, 2) := by decide +kernel
theorem dX3_loud__33 : decode cX3_loud_ 33 = .ok (.iconst 0, 1) := by decide +kernel
theorem dX3_loud__34 : decode cX3_loud_ 34 = .ok (.istore 5, 2) := by decide +kernel
theorem dX3_loud__36 : decode cX3_loud_ 36 = .ok (.iload 5, 2) := by decide +kernel
theorem dX3_loud__38 : decode cX3_loud_ 38 = .ok (.aload_n 0, 1) := by decide +kernel
theorem dX3_loud__39 : decode cX3_loud_ 39 = .ok (.getfield 48, 3) := by decide +kernel
theorem dX3_loud__42 : decode cX3_loud_ 42 = .ok (.if_icmp .ge 39, 3) := by decide +kernel
theorem dX3_loud__45 : decode cX3_loud_ 45 = .ok (.iload 4, 2) := by decide +kernel
theorem dX3_loud__47 : decode cX3_loud_ 47 = .ok (.aload_n 0, 1) := by decide +kernel
theorem dX3_loud__48 : decode cX3_loud_ 48 = .ok (.getfield 25, 3) := by decide +kernel
theorem dX3_loud__51 : decode cX3_loud_ 51 = .ok (.iconst 3, 1) := by decide +kernel
theorem dX3_loud__52 : decode cX3_loud_ 52 = .ok (.iload 5, 2) := by decide +kernel
theorem dX3_loud__54 : decode cX3_loud_ 54 = .ok (.imul, 1) := by decide +kernel
theorem dX3_loud__55 : decode cX3_loud_ 55 = .ok (.iconst 2, 1) := by decide +kernel
theorem dX3_loud__56 : decode cX3_loud_ 56 = .ok (.iadd, 1) := by decide +kernel
theorem dX3_loud__57 : decode cX3_loud_ 57 = .ok (.baload, 1) := by decide +kernel
theorem dX3_loud__58 : decode cX3_loud_ 58 = .ok (.ifCond .eq 13, 3) := by decide +kernel
theorem dX3_loud__61 : decode cX3_loud_ 61 = .ok (.aload_n 0, 1) := by decide +kernel
theorem dX3_loud__62 : decode cX3_loud_ 62 = .ok (.iload 5, 2) := by decide +kernel
theorem dX3_loud__64 : decode cX3_loud_ 64 = .ok (.iload_n 2, 1) := by decide +kernel
theorem dX3_loud__65 : decode cX3_loud_ 65 = .ok (.invokevirtual 120, 3) := by decide +kernel
theorem dX3_loud__68 : decode cX3_loud_ 68 = .ok (.goto 4, 3) := by decide +kernel
theorem dX3_loud__71 : decode cX3_loud_ 71 = .ok (.iconst 0, 1) := by decide +kernel
theorem dX3_loud__72 : decode cX3_loud_ 72 = .ok (.iadd, 1) := by decide +kernel
theorem dX3_loud__73 : decode cX3_loud_ 73 = .ok (.istore 4, 2) := by decide +kernel
theorem dX3_loud__75 : decode cX3_loud_ 75 = .ok (.iinc 5 1, 3) := by decide +kernel
theorem dX3_loud__78 : decode cX3_loud_ 78 = .ok (.goto (-42), 3) := by decide +kernel
theorem dX3_loud__81 : decode cX3_loud_ 81 = .ok (.bipush 127, 2) := by decide +kernel
theorem dX3_loud__83 : decode cX3_loud_ 83 = .ok (.iload_n 3, 1) := by decide +kernel
theorem dX3_loud__84 : decode cX3_loud_ 84 = .ok (.iload 4, 2) := by decide +kernel
theorem dX3_loud__86 : decode cX3_loud_ 86 = .ok (.iconst 4, 1) := by decide +kernel
theorem dX3_loud__87 : decode cX3_loud_ 87 = .ok (.idiv, 1) := by decide +kernel
theorem dX3_loud__88 : decode cX3_loud_ 88 = .ok (.iadd, 1) := by decide +kernel
theorem dX3_loud__89 : decode cX3_loud_ 89 = .ok (.invokestatic 103, 3) := by decide +kernel
theorem dX3_loud__92 : decode cX3_loud_ 92 = .ok (.ireturn, 1) := by decide +kernel
theorem dX3_hits_0 : decode cX3_hits 0 = .ok (.aload_n 0, 1) := by decide +kernel
theorem dX3_hits_1 : decode cX3_hits 1 = .ok (.getfield 25, 3) := by decide +kernel
theorem dX3_hits_4 : decode cX3_hits 4 = .ok (.iconst 3, 1) := by decide +kernel
theorem dX3_hits_5 : decode cX3_hits 5 = .ok (.iload_n 1, 1) := by decide +kernel
theorem dX3_hits_6 : decode cX3_hits 6 = .ok (.imul, 1) := by decide +kernel
theorem dX3_hits_7 : decode cX3_hits 7 = .ok (.iconst 2, 1) := by decide +kernel
theorem dX3_hits_8 : decode cX3_hits 8 = .ok (.iadd, 1) := by decide +kernel
theorem dX3_hits_9 : decode cX3_hits 9 = .ok (.baload, 1) := by decide +kernel
theorem dX3_hits_10 : decode cX3_hits 10 = .ok (.ifCond .ne 16, 3) := by decide +kernel
theorem dX3_hits_13 : decode cX3_hits 13 = .ok (.aload_n 0, 1) := by decide +kernel
theorem dX3_hits_14 : decode cX3_hits 14 = .ok (.iload_n 1, 1) := by decide +kernel
theorem dX3_hits_15 : decode cX3_hits 15 = .ok (.iload_n 2, 1) := by decide +kernel
theorem dX3_hits_16 : decode cX3_hits 16 = .ok (.invokevirtual 120, 3) := by decide +kernel
theorem dX3_hits_19 : decode cX3_hits 19 = .ok (.ifCond .le 7, 3) := by decide +kernel
theorem dX3_hits_22 : decode cX3_hits 22 = .ok (.iconst 1, 1) := by decide +kernel
theorem dX3_hits_23 : decode cX3_hits 23 = .ok (.goto 4, 3) := by decide +kernel
theorem dX3_hits_26 : decode cX3_hits 26 = .ok (.iconst 0, 1) := by decide +kernel
theorem dX3_hits_27 : decode cX3_hits 27 = .ok (.ireturn, 1) := by decide +kernel
theorem dX3_loudness_0 : decode cX3_loudness 0 = .ok (.aload_n 0, 1) := by decide +kernel
theorem dX3_loudness_1 : decode cX3_loudness 1 = .ok (.iconst 0, 1) := by decide +kernel
theorem dX3_loudness_2 : decode cX3_loudness 2 = .ok (.putfield 45, 3) := by decide +kernel
theorem dX3_loudness_5 : decode cX3_loudness 5 = .ok (.aload_n 0, 1) := by decide +kernel
theorem dX3_loudness_6 : decode cX3_loudness 6 = .ok (.iload_n 1, 1) := by decide +kernel
theorem dX3_loudness_7 : decode cX3_loudness 7 = .ok (.invokevirtual 55, 3) := by decide +kernel
theorem dX3_loudness_10 : decode cX3_loudness 10 = .ok (.ifCond .ne 9, 3) := by decide +kernel
theorem dX3_loudness_13 : decode cX3_loudness 13 = .ok (.aload_n 0, 1) := by decide +kernel
theorem dX3_loudness_14 : decode cX3_loudness 14 = .ok (.iconst 1, 1) := by decide +kernel
theorem dX3_loudness_15 : decode cX3_loudness 15 = .ok (.invokevirtual 64, 3) := by decide +kernel
theorem dX3_loudness_18 : decode cX3_loudness 18 = .ok (.ireturn, 1) := by decide +kernel
theorem dX3_loudness_19 : decode cX3_loudness 19 = .ok (.iload_n 2, 1) := by decide +kernel
theorem dX3_loudness_20 : decode cX3_loudness 20 = .ok (.invokestatic 100, 3) := by decide +kernel
theorem dX3_loudness_23 : decode cX3_loudness 23 = .ok (.ifCond .eq 12, 3) := by decide +kernel
theorem dX3_loudness_26 : decode cX3_loudness 26 = .ok (.aload_n 0, 1) := by decide +kernel
theorem dX3_loudness_27 : decode cX3_loudness 27 = .ok (.iload_n 1, 1) := by decide +kernel
theorem dX3_loudness_28 : decode cX3_loudness 28 = .ok (.iload_n 2, 1) := by decide +kernel
theorem dX3_loudness_29 : decode cX3_loudness 29 = .ok (.invokevirtual 123, 3) := by decide +kernel
theorem dX3_loudness_32 : decode cX3_loudness 32 = .ok (.goto 8, 3) := by decide +kernel
theorem dX3_loudness_35 : decode cX3_loudness 35 = .ok (.aload_n 0, 1) := by decide +kernel
theorem dX3_loudness_36 : decode cX3_loudness 36 = .ok (.iconst 2, 1) := by decide +kernel
theorem dX3_loudness_37 : decode cX3_loudness 37 = .ok (.invokevirtual 64, 3) := by decide +kernel
theorem dX3_loudness_40 : decode cX3_loudness 40 = .ok (.ireturn, 1) := by decide +kernel
theorem dX3_hits__0 : decode cX3_hits_ 0 = .ok (.aload_n 0, 1) := by decide +kernel
theorem dX3_hits__1 : decode cX3_hits_ 1 = .ok (.iconst 0, 1) := by decide +kernel
theorem dX3_hits__2 : decode cX3_hits_ 2 = .ok (.putfield 45, 3) := by decide +kernel
theorem dX3_hits__5 : decode cX3_hits_ 5 = .ok (.iload_n 1, 1) := by decide +kernel
theorem dX3_hits__6 : decode cX3_hits_ 6 = .ok (.invokestatic 100, 3) := by decide +kernel
theorem dX3_hits__9 : decode cX3_hits_ 9 = .ok (.ifCond .ne 9, 3) := by decide +kernel
theorem dX3_hits__12 : decode cX3_hits_ 12 = .ok (.aload_n 0, 1) := by decide +kernel
theorem dX3_hits__13 : decode cX3_hits_ 13 = .ok (.iconst 1, 1) := by decide +kernel
theorem dX3_hits__14 : decode cX3_hits_ 14 = .ok (.invokevirtual 64, 3) := by decide +kernel
theorem dX3_hits__17 : decode cX3_hits_ 17 = .ok (.ireturn, 1) := by decide +kernel
theorem dX3_hits__18 : decode cX3_hits_ 18 = .ok (.iconst 0, 1) := by decide +kernel
theorem dX3_hits__19 : decode cX3_hits_ 19 = .ok (.istore_n 2, 1) := by decide +kernel
theorem dX3_hits__20 : decode cX3_hits_ 20 = .ok (.iconst 0, 1) := by decide +kernel
theorem dX3_hits__21 : decode cX3_hits_ 21 = .ok (.istore_n 3, 1) := by decide +kernel
theorem dX3_hits__22 : decode cX3_hits_ 22 = .ok (.iload_n 3, 1) := by decide +kernel
theorem dX3_hits__23 : decode cX3_hits_ 23 = .ok (.aload_n 0, 1) := by decide +kernel
theorem dX3_hits__24 : decode cX3_hits_ 24 = .ok (.getfield 48, 3) := by decide +kernel
theorem dX3_hits__27 : decode cX3_hits_ 27 = .ok (.if_icmp .ge 24, 3) := by decide +kernel
theorem dX3_hits__30 : decode cX3_hits_ 30 = .ok (.aload_n 0, 1) := by decide +kernel
theorem dX3_hits__31 : decode cX3_hits_ 31 = .ok (.iload_n 3, 1) := by decide +kernel
theorem dX3_hits__32 : decode cX3_hits_ 32 = .ok (.iload_n 1, 1) := by decide +kernel
theorem dX3_hits__33 : decode cX3_hits_ 33 = .ok (.invokevirtual 125, 3) := by decide +kernel
theorem dX3_hits__36 : decode cX3_hits_ 36 = .ok (.ifCond .eq 9, 3) := by decide +kernel
theorem dX3_hits__39 : decode cX3_hits_ 39 = .ok (.iload_n 2, 1) := by decide +kernel
theorem dX3_hits__40 : decode cX3_hits_ 40 = .ok (.iconst 1, 1) := by decide +kernel
theorem dX3_hits__41 : decode cX3_hits_ 41 = .ok (.iload_n 3, 1) := by decide +kernel
theorem dX3_hits__42 : decode cX3_hits_ 42 = .ok (.ishl, 1) := by decide +kernel
theorem dX3_hits__43 : decode cX3_hits_ 43 = .ok (.ior, 1) := by decide +kernel
theorem dX3_hits__44 : decode cX3_hits_ 44 = .ok (.istore_n 2, 1) := by decide +kernel
theorem dX3_hits__45 : decode cX3_hits_ 45 = .ok (.iinc 3 1, 3) := by decide +kernel
theorem dX3_hits__48 : decode cX3_hits_ 48 = .ok (.goto (-26), 3) := by decide +kernel
theorem dX3_hits__51 : decode cX3_hits_ 51 = .ok (.iload_n 2, 1) := by decide +kernel
theorem dX3_hits__52 : decode cX3_hits_ 52 = .ok (.ireturn, 1) := by decide +kernel
theorem dX3_sounds_0 : decode cX3_sounds 0 = .ok (.iload_n 2, 1) := by decide +kernel
end
section
theorem dX3_sounds_1 : decode cX3_sounds 1 = .ok (.istore_n 3, 1) := by decide +kernel
theorem dX3_sounds_2 : decode cX3_sounds 2 = .ok (.iload_n 3, 1) := by decide +kernel
theorem dX3_sounds_3 : decode cX3_sounds 3 = .ok (.ifCond .lt 120, 3) := by decide +kernel
theorem dX3_sounds_6 : decode cX3_sounds 6 = .ok (.iload_n 3, 1) := by decide +kernel
theorem dX3_sounds_7 : decode cX3_sounds 7 = .ok (.iload_n 2, 1) := by decide +kernel
theorem dX3_sounds_8 : decode cX3_sounds 8 = .ok (.aload_n 0, 1) := by decide +kernel
theorem dX3_sounds_9 : decode cX3_sounds 9 = .ok (.getfield 19, 3) := by decide +kernel
theorem dX3_sounds_12 : decode cX3_sounds 12 = .ok (.iload_n 1, 1) := by decide +kernel
theorem dX3_sounds_13 : decode cX3_sounds 13 = .ok (.iaload, 1) := by decide +kernel
theorem dX3_sounds_14 : decode cX3_sounds 14 = .ok (.isub, 1) := by decide +kernel
theorem dX3_sounds_15 : decode cX3_sounds 15 = .ok (.if_icmp .le 108, 3) := by decide +kernel
theorem dX3_sounds_18 : decode cX3_sounds 18 = .ok (.aload_n 0, 1) := by decide +kernel
theorem dX3_sounds_19 : decode cX3_sounds 19 = .ok (.iload_n 1, 1) := by decide +kernel
theorem dX3_sounds_20 : decode cX3_sounds 20 = .ok (.iload_n 3, 1) := by decide +kernel
theorem dX3_sounds_21 : decode cX3_sounds 21 = .ok (.invokevirtual 125, 3) := by decide +kernel
theorem dX3_sounds_24 : decode cX3_sounds 24 = .ok (.istore 4, 2) := by decide +kernel
theorem dX3_sounds_26 : decode cX3_sounds 26 = .ok (.iconst 0, 1) := by decide +kernel
theorem dX3_sounds_27 : decode cX3_sounds 27 = .ok (.istore 5, 2) := by decide +kernel
theorem dX3_sounds_29 : decode cX3_sounds 29 = .ok (.iload 5, 2) := by decide +kernel
theorem dX3_sounds_31 : decode cX3_sounds 31 = .ok (.aload_n 0, 1) := by decide +kernel
theorem dX3_sounds_32 : decode cX3_sounds 32 = .ok (.getfield 48, 3) := by decide +kernel
theorem dX3_sounds_35 : decode cX3_sounds 35 = .ok (.if_icmp .ge 75, 3) := by decide +kernel
theorem dX3_sounds_38 : decode cX3_sounds 38 = .ok (.aload_n 0, 1) := by decide +kernel
theorem dX3_sounds_39 : decode cX3_sounds 39 = .ok (.getfield 22, 3) := by decide +kernel
theorem dX3_sounds_42 : decode cX3_sounds 42 = .ok (.iload_n 1, 1) := by decide +kernel
theorem dX3_sounds_43 : decode cX3_sounds 43 = .ok (.iaload, 1) := by decide +kernel
theorem dX3_sounds_44 : decode cX3_sounds 44 = .ok (.ifCond .le 66, 3) := by decide +kernel
theorem dX3_sounds_47 : decode cX3_sounds 47 = .ok (.iload 5, 2) := by decide +kernel
theorem dX3_sounds_49 : decode cX3_sounds 49 = .ok (.iload_n 1, 1) := by decide +kernel
theorem dX3_sounds_50 : decode cX3_sounds 50 = .ok (.if_icmp .eq 34, 3) := by decide +kernel
theorem dX3_sounds_53 : decode cX3_sounds 53 = .ok (.aload_n 0, 1) := by decide +kernel
theorem dX3_sounds_54 : decode cX3_sounds 54 = .ok (.getfield 22, 3) := by decide +kernel
theorem dX3_sounds_57 : decode cX3_sounds 57 = .ok (.iload 5, 2) := by decide +kernel
theorem dX3_sounds_59 : decode cX3_sounds 59 = .ok (.iaload, 1) := by decide +kernel
theorem dX3_sounds_60 : decode cX3_sounds 60 = .ok (.aload_n 0, 1) := by decide +kernel
theorem dX3_sounds_61 : decode cX3_sounds 61 = .ok (.getfield 22, 3) := by decide +kernel
theorem dX3_sounds_64 : decode cX3_sounds 64 = .ok (.iload_n 1, 1) := by decide +kernel
theorem dX3_sounds_65 : decode cX3_sounds 65 = .ok (.iaload, 1) := by decide +kernel
theorem dX3_sounds_66 : decode cX3_sounds 66 = .ok (.if_icmp .ne 18, 3) := by decide +kernel
theorem dX3_sounds_69 : decode cX3_sounds 69 = .ok (.iload 4, 2) := by decide +kernel
theorem dX3_sounds_71 : decode cX3_sounds 71 = .ok (.ifCond .eq 9, 3) := by decide +kernel
theorem dX3_sounds_74 : decode cX3_sounds 74 = .ok (.iload 5, 2) := by decide +kernel
theorem dX3_sounds_76 : decode cX3_sounds 76 = .ok (.iload_n 1, 1) := by decide +kernel
theorem dX3_sounds_77 : decode cX3_sounds 77 = .ok (.if_icmp .le 7, 3) := by decide +kernel
theorem dX3_sounds_80 : decode cX3_sounds 80 = .ok (.iconst 1, 1) := by decide +kernel
theorem dX3_sounds_81 : decode cX3_sounds 81 = .ok (.goto 4, 3) := by decide +kernel
theorem dX3_sounds_84 : decode cX3_sounds 84 = .ok (.iconst 0, 1) := by decide +kernel
theorem dX3_sounds_85 : decode cX3_sounds 85 = .ok (.istore 6, 2) := by decide +kernel
theorem dX3_sounds_87 : decode cX3_sounds 87 = .ok (.iload 6, 2) := by decide +kernel
theorem dX3_sounds_89 : decode cX3_sounds 89 = .ok (.ifCond .eq 15, 3) := by decide +kernel
theorem dX3_sounds_92 : decode cX3_sounds 92 = .ok (.aload_n 0, 1) := by decide +kernel
theorem dX3_sounds_93 : decode cX3_sounds 93 = .ok (.iload 5, 2) := by decide +kernel
theorem dX3_sounds_95 : decode cX3_sounds 95 = .ok (.iload_n 3, 1) := by decide +kernel
theorem dX3_sounds_96 : decode cX3_sounds 96 = .ok (.invokevirtual 125, 3) := by decide +kernel
theorem dX3_sounds_99 : decode cX3_sounds 99 = .ok (.ifCond .eq 5, 3) := by decide +kernel
theorem dX3_sounds_102 : decode cX3_sounds 102 = .ok (.iconst 0, 1) := by decide +kernel
theorem dX3_sounds_103 : decode cX3_sounds 103 = .ok (.ireturn, 1) := by decide +kernel
theorem dX3_sounds_104 : decode cX3_sounds 104 = .ok (.iinc 5 1, 3) := by decide +kernel
theorem dX3_sounds_107 : decode cX3_sounds 107 = .ok (.goto (-78), 3) := by decide +kernel
theorem dX3_sounds_110 : decode cX3_sounds 110 = .ok (.iload 4, 2) := by decide +kernel
theorem dX3_sounds_112 : decode cX3_sounds 112 = .ok (.ifCond .eq 5, 3) := by decide +kernel
theorem dX3_sounds_115 : decode cX3_sounds 115 = .ok (.iconst 1, 1) := by decide +kernel
theorem dX3_sounds_116 : decode cX3_sounds 116 = .ok (.ireturn, 1) := by decide +kernel
theorem dX3_sounds_117 : decode cX3_sounds 117 = .ok (.iinc 3 (-1), 3) := by decide +kernel
theorem dX3_sounds_120 : decode cX3_sounds 120 = .ok (.goto (-118), 3) := by decide +kernel
theorem dX3_sounds_123 : decode cX3_sounds 123 = .ok (.iconst 0, 1) := by decide +kernel
theorem dX3_sounds_124 : decode cX3_sounds 124 = .ok (.ireturn, 1) := by decide +kernel
theorem dX3_sounding_0 : decode cX3_sounding 0 = .ok (.aload_n 0, 1) := by decide +kernel
theorem dX3_sounding_1 : decode cX3_sounding 1 = .ok (.iconst 0, 1) := by decide +kernel
theorem dX3_sounding_2 : decode cX3_sounding 2 = .ok (.putfield 45, 3) := by decide +kernel
theorem dX3_sounding_5 : decode cX3_sounding 5 = .ok (.iload_n 1, 1) := by decide +kernel
theorem dX3_sounding_6 : decode cX3_sounding 6 = .ok (.invokestatic 100, 3) := by decide +kernel
theorem dX3_sounding_9 : decode cX3_sounding 9 = .ok (.ifCond .ne 9, 3) := by decide +kernel
theorem dX3_sounding_12 : decode cX3_sounding 12 = .ok (.aload_n 0, 1) := by decide +kernel
theorem dX3_sounding_13 : decode cX3_sounding 13 = .ok (.iconst 1, 1) := by decide +kernel
theorem dX3_sounding_14 : decode cX3_sounding 14 = .ok (.invokevirtual 64, 3) := by decide +kernel
theorem dX3_sounding_17 : decode cX3_sounding 17 = .ok (.ireturn, 1) := by decide +kernel
theorem dX3_sounding_18 : decode cX3_sounding 18 = .ok (.iconst 0, 1) := by decide +kernel
theorem dX3_sounding_19 : decode cX3_sounding 19 = .ok (.istore_n 2, 1) := by decide +kernel
theorem dX3_sounding_20 : decode cX3_sounding 20 = .ok (.iconst 0, 1) := by decide +kernel
theorem dX3_sounding_21 : decode cX3_sounding 21 = .ok (.istore_n 3, 1) := by decide +kernel
theorem dX3_sounding_22 : decode cX3_sounding 22 = .ok (.iload_n 3, 1) := by decide +kernel
theorem dX3_sounding_23 : decode cX3_sounding 23 = .ok (.aload_n 0, 1) := by decide +kernel
theorem dX3_sounding_24 : decode cX3_sounding 24 = .ok (.getfield 48, 3) := by decide +kernel
theorem dX3_sounding_27 : decode cX3_sounding 27 = .ok (.if_icmp .ge 24, 3) := by decide +kernel
theorem dX3_sounding_30 : decode cX3_sounding 30 = .ok (.aload_n 0, 1) := by decide +kernel
theorem dX3_sounding_31 : decode cX3_sounding 31 = .ok (.iload_n 3, 1) := by decide +kernel
theorem dX3_sounding_32 : decode cX3_sounding 32 = .ok (.iload_n 1, 1) := by decide +kernel
theorem dX3_sounding_33 : decode cX3_sounding 33 = .ok (.invokevirtual 128, 3) := by decide +kernel
theorem dX3_sounding_36 : decode cX3_sounding 36 = .ok (.ifCond .eq 9, 3) := by decide +kernel
theorem dX3_sounding_39 : decode cX3_sounding 39 = .ok (.iload_n 2, 1) := by decide +kernel
theorem dX3_sounding_40 : decode cX3_sounding 40 = .ok (.iconst 1, 1) := by decide +kernel
theorem dX3_sounding_41 : decode cX3_sounding 41 = .ok (.iload_n 3, 1) := by decide +kernel
theorem dX3_sounding_42 : decode cX3_sounding 42 = .ok (.ishl, 1) := by decide +kernel
theorem dX3_sounding_43 : decode cX3_sounding 43 = .ok (.ior, 1) := by decide +kernel
theorem dX3_sounding_44 : decode cX3_sounding 44 = .ok (.istore_n 2, 1) := by decide +kernel
theorem dX3_sounding_45 : decode cX3_sounding 45 = .ok (.iinc 3 1, 3) := by decide +kernel
theorem dX3_sounding_48 : decode cX3_sounding 48 = .ok (.goto (-26), 3) := by decide +kernel
theorem dX3_sounding_51 : decode cX3_sounding 51 = .ok (.iload_n 2, 1) := by decide +kernel
theorem dX3_sounding_52 : decode cX3_sounding 52 = .ok (.ireturn, 1) := by decide +kernel
theorem dX3_next_0 : decode cX3_next 0 = .ok (.aload_n 0, 1) := by decide +kernel
theorem dX3_next_1 : decode cX3_next 1 = .ok (.iconst 0, 1) := by decide +kernel
theorem dX3_next_2 : decode cX3_next 2 = .ok (.putfield 45, 3) := by decide +kernel
theorem dX3_next_5 : decode cX3_next 5 = .ok (.aload_n 0, 1) := by decide +kernel
theorem dX3_next_6 : decode cX3_next 6 = .ok (.iload_n 1, 1) := by decide +kernel
theorem dX3_next_7 : decode cX3_next 7 = .ok (.invokevirtual 55, 3) := by decide +kernel
theorem dX3_next_10 : decode cX3_next 10 = .ok (.ifCond .ne 9, 3) := by decide +kernel
theorem dX3_next_13 : decode cX3_next 13 = .ok (.aload_n 0, 1) := by decide +kernel
theorem dX3_next_14 : decode cX3_next 14 = .ok (.iconst 1, 1) := by decide +kernel
theorem dX3_next_15 : decode cX3_next 15 = .ok (.invokevirtual 64, 3) := by decide +kernel
theorem dX3_next_18 : decode cX3_next 18 = .ok (.ireturn, 1) := by decide +kernel
theorem dX3_next_19 : decode cX3_next 19 = .ok (.iload_n 2, 1) := by decide +kernel
theorem dX3_next_20 : decode cX3_next 20 = .ok (.invokestatic 100, 3) := by decide +kernel
theorem dX3_next_23 : decode cX3_next 23 = .ok (.ifCond .ne 9, 3) := by decide +kernel
theorem dX3_next_26 : decode cX3_next 26 = .ok (.aload_n 0, 1) := by decide +kernel
theorem dX3_next_27 : decode cX3_next 27 = .ok (.iconst 2, 1) := by decide +kernel
theorem dX3_next_28 : decode cX3_next 28 = .ok (.invokevirtual 64, 3) := by decide +kernel
theorem dX3_next_31 : decode cX3_next 31 = .ok (.ireturn, 1) := by decide +kernel
theorem dX3_next_32 : decode cX3_next 32 = .ok (.iload_n 2, 1) := by decide +kernel
theorem dX3_next_33 : decode cX3_next 33 = .ok (.istore_n 3, 1) := by decide +kernel
theorem dX3_next_34 : decode cX3_next 34 = .ok (.iload_n 3, 1) := by decide +kernel
theorem dX3_next_35 : decode cX3_next 35 = .ok (.iload_n 2, 1) := by decide +kernel
theorem dX3_next_36 : decode cX3_next 36 = .ok (.sipush 3000, 3) := by decide +kernel
theorem dX3_next_39 : decode cX3_next 39 = .ok (.iadd, 1) := by decide +kernel
theorem dX3_next_40 : decode cX3_next 40 = .ok (.if_icmp .gt 26, 3) := by decide +kernel
theorem dX3_next_43 : decode cX3_next 43 = .ok (.iload_n 3, 1) := by decide +kernel
theorem dX3_next_44 : decode cX3_next 44 = .ok (.ldc 59, 2) := by decide +kernel
theorem dX3_next_46 : decode cX3_next 46 = .ok (.if_icmp .gt 20, 3) := by decide +kernel
theorem dX3_next_49 : decode cX3_next 49 = .ok (.aload_n 0, 1) := by decide +kernel
theorem dX3_next_50 : decode cX3_next 50 = .ok (.iload_n 1, 1) := by decide +kernel
theorem dX3_next_51 : decode cX3_next 51 = .ok (.iload_n 3, 1) := by decide +kernel
theorem dX3_next_52 : decode cX3_next 52 = .ok (.invokevirtual 125, 3) := by decide +kernel
theorem dX3_next_55 : decode cX3_next 55 = .ok (.ifCond .eq 5, 3) := by decide +kernel
theorem dX3_next_58 : decode cX3_next 58 = .ok (.iload_n 3, 1) := by decide +kernel
theorem dX3_next_59 : decode cX3_next 59 = .ok (.ireturn, 1) := by decide +kernel
theorem dX3_next_60 : decode cX3_next 60 = .ok (.iinc 3 1, 3) := by decide +kernel
theorem dX3_next_63 : decode cX3_next 63 = .ok (.goto (-29), 3) := by decide +kernel
theorem dX3_next_66 : decode cX3_next 66 = .ok (.iconst (-1), 1) := by decide +kernel
theorem dX3_next_67 : decode cX3_next 67 = .ok (.ireturn, 1) := by decide +kernel
theorem dX3_isSpan_0 : decode cX3_isSpan 0 = .ok (.iload_n 0, 1) := by decide +kernel
theorem dX3_isSpan_1 : decode cX3_isSpan 1 = .ok (.invokestatic 100, 3) := by decide +kernel
theorem dX3_isSpan_4 : decode cX3_isSpan 4 = .ok (.ifCond .eq 27, 3) := by decide +kernel
theorem dX3_isSpan_7 : decode cX3_isSpan 7 = .ok (.iload_n 1, 1) := by decide +kernel
theorem dX3_isSpan_8 : decode cX3_isSpan 8 = .ok (.invokestatic 100, 3) := by decide +kernel
theorem dX3_isSpan_11 : decode cX3_isSpan 11 = .ok (.ifCond .eq 20, 3) := by decide +kernel
theorem dX3_isSpan_14 : decode cX3_isSpan 14 = .ok (.iload_n 1, 1) := by decide +kernel
theorem dX3_isSpan_15 : decode cX3_isSpan 15 = .ok (.iload_n 0, 1) := by decide +kernel
theorem dX3_isSpan_16 : decode cX3_isSpan 16 = .ok (.isub, 1) := by decide +kernel
theorem dX3_isSpan_17 : decode cX3_isSpan 17 = .ok (.iconst 0, 1) := by decide +kernel
theorem dX3_isSpan_18 : decode cX3_isSpan 18 = .ok (.sipush 3000, 3) := by decide +kernel
theorem dX3_isSpan_21 : decode cX3_isSpan 21 = .ok (.invokestatic 51, 3) := by decide +kernel
theorem dX3_isSpan_24 : decode cX3_isSpan 24 = .ok (.ifCond .eq 7, 3) := by decide +kernel
theorem dX3_isSpan_27 : decode cX3_isSpan 27 = .ok (.iconst 1, 1) := by decide +kernel
theorem dX3_isSpan_28 : decode cX3_isSpan 28 = .ok (.goto 4, 3) := by decide +kernel
theorem dX3_isSpan_31 : decode cX3_isSpan 31 = .ok (.iconst 0, 1) := by decide +kernel
theorem dX3_isSpan_32 : decode cX3_isSpan 32 = .ok (.ireturn, 1) := by decide +kernel
theorem dX3_count_0 : decode cX3_count 0 = .ok (.aload_n 0, 1) := by decide +kernel
theorem dX3_count_1 : decode cX3_count 1 = .ok (.iconst 0, 1) := by decide +kernel
theorem dX3_count_2 : decode cX3_count 2 = .ok (.putfield 45, 3) := by decide +kernel
theorem dX3_count_5 : decode cX3_count 5 = .ok (.aload_n 0, 1) := by decide +kernel
theorem dX3_count_6 : decode cX3_count 6 = .ok (.iload_n 1, 1) := by decide +kernel
theorem dX3_count_7 : decode cX3_count 7 = .ok (.invokevirtual 55, 3) := by decide +kernel
theorem dX3_count_10 : decode cX3_count 10 = .ok (.ifCond .ne 9, 3) := by decide +kernel
theorem dX3_count_13 : decode cX3_count 13 = .ok (.aload_n 0, 1) := by decide +kernel
theorem dX3_count_14 : decode cX3_count 14 = .ok (.iconst 1, 1) := by decide +kernel
theorem dX3_count_15 : decode cX3_count 15 = .ok (.invokevirtual 64, 3) := by decide +kernel
theorem dX3_count_18 : decode cX3_count 18 = .ok (.ireturn, 1) := by decide +kernel
theorem dX3_count_19 : decode cX3_count 19 = .ok (.iload_n 2, 1) := by decide +kernel
theorem dX3_count_20 : decode cX3_count 20 = .ok (.iload_n 3, 1) := by decide +kernel
theorem dX3_count_21 : decode cX3_count 21 = .ok (.invokestatic 131, 3) := by decide +kernel
theorem dX3_count_24 : decode cX3_count 24 = .ok (.ifCond .ne 9, 3) := by decide +kernel
theorem dX3_count_27 : decode cX3_count 27 = .ok (.aload_n 0, 1) := by decide +kernel
theorem dX3_count_28 : decode cX3_count 28 = .ok (.iconst 2, 1) := by decide +kernel
theorem dX3_count_29 : decode cX3_count 29 = .ok (.invokevirtual 64, 3) := by decide +kernel
theorem dX3_count_32 : decode cX3_count 32 = .ok (.ireturn, 1) := by decide +kernel
theorem dX3_count_33 : decode cX3_count 33 = .ok (.iconst 0, 1) := by decide +kernel
theorem dX3_count_34 : decode cX3_count 34 = .ok (.istore 4, 2) := by decide +kernel
theorem dX3_count_36 : decode cX3_count 36 = .ok (.iload_n 2, 1) := by decide +kernel
theorem dX3_count_37 : decode cX3_count 37 = .ok (.istore 5, 2) := by decide +kernel
theorem dX3_count_39 : decode cX3_count 39 = .ok (.iload 5, 2) := by decide +kernel
theorem dX3_count_41 : decode cX3_count 41 = .ok (.iload_n 3, 1) := by decide +kernel
theorem dX3_count_42 : decode cX3_count 42 = .ok (.if_icmp .ge 29, 3) := by decide +kernel
theorem dX3_count_45 : decode cX3_count 45 = .ok (.iload 4, 2) := by decide +kernel
theorem dX3_count_47 : decode cX3_count 47 = .ok (.aload_n 0, 1) := by decide +kernel
theorem dX3_count_48 : decode cX3_count 48 = .ok (.iload_n 1, 1) := by decide +kernel
theorem dX3_count_49 : decode cX3_count 49 = .ok (.iload 5, 2) := by decide +kernel
theorem dX3_count_51 : decode cX3_count 51 = .ok (.invokevirtual 125, 3) := by decide +kernel
theorem dX3_count_54 : decode cX3_count 54 = .ok (.ifCond .eq 7, 3) := by decide +kernel
theorem dX3_count_57 : decode cX3_count 57 = .ok (.iconst 1, 1) := by decide +kernel
theorem dX3_count_58 : decode cX3_count 58 = .ok (.goto 4, 3) := by decide +kernel
theorem dX3_count_61 : decode cX3_count 61 = .ok (.iconst 0, 1) := by decide +kernel
theorem dX3_count_62 : decode cX3_count 62 = .ok (.iadd, 1) := by decide +kernel
theorem dX3_count_63 : decode cX3_count 63 = .ok (.istore 4, 2) := by decide +kernel
theorem dX3_count_65 : decode cX3_count 65 = .ok (.iinc 5 1, 3) := by decide +kernel
theorem dX3_count_68 : decode cX3_count 68 = .ok (.goto (-29), 3) := by decide +kernel
theorem dX3_count_71 : decode cX3_count 71 = .ok (.iload 4, 2) := by decide +kernel
theorem dX3_count_73 : decode cX3_count 73 = .ok (.ireturn, 1) := by decide +kernel
theorem dX3_together_0 : decode cX3_together 0 = .ok (.aload_n 0, 1) := by decide +kernel
theorem dX3_together_1 : decode cX3_together 1 = .ok (.iconst 0, 1) := by decide +kernel
theorem dX3_together_2 : decode cX3_together 2 = .ok (.putfield 45, 3) := by decide +kernel
theorem dX3_together_5 : decode cX3_together 5 = .ok (.aload_n 0, 1) := by decide +kernel
theorem dX3_together_6 : decode cX3_together 6 = .ok (.iload_n 1, 1) := by decide +kernel
theorem dX3_together_7 : decode cX3_together 7 = .ok (.invokevirtual 55, 3) := by decide +kernel
theorem dX3_together_10 : decode cX3_together 10 = .ok (.ifCond .eq 11, 3) := by decide +kernel
theorem dX3_together_13 : decode cX3_together 13 = .ok (.aload_n 0, 1) := by decide +kernel
theorem dX3_together_14 : decode cX3_together 14 = .ok (.iload_n 2, 1) := by decide +kernel
theorem dX3_together_15 : decode cX3_together 15 = .ok (.invokevirtual 55, 3) := by decide +kernel
theorem dX3_together_18 : decode cX3_together 18 = .ok (.ifCond .ne 9, 3) := by decide +kernel
theorem dX3_together_21 : decode cX3_together 21 = .ok (.aload_n 0, 1) := by decide +kernel
theorem dX3_together_22 : decode cX3_together 22 = .ok (.iconst 1, 1) := by decide +kernel
theorem dX3_together_23 : decode cX3_together 23 = .ok (.invokevirtual 64, 3) := by decide +kernel
theorem dX3_together_26 : decode cX3_together 26 = .ok (.ireturn, 1) := by decide +kernel
theorem dX3_together_27 : decode cX3_together 27 = .ok (.iload_n 3, 1) := by decide +kernel
theorem dX3_together_28 : decode cX3_together 28 = .ok (.iload 4, 2) := by decide +kernel
theorem dX3_together_30 : decode cX3_together 30 = .ok (.invokestatic 131, 3) := by decide +kernel
theorem dX3_together_33 : decode cX3_together 33 = .ok (.ifCond .ne 9, 3) := by decide +kernel
theorem dX3_together_36 : decode cX3_together 36 = .ok (.aload_n 0, 1) := by decide +kernel
theorem dX3_together_37 : decode cX3_together 37 = .ok (.iconst 2, 1) := by decide +kernel
theorem dX3_together_38 : decode cX3_together 38 = .ok (.invokevirtual 64, 3) := by decide +kernel
theorem dX3_together_41 : decode cX3_together 41 = .ok (.ireturn, 1) := by decide +kernel
theorem dX3_together_42 : decode cX3_together 42 = .ok (.iconst 0, 1) := by decide +kernel
theorem dX3_together_43 : decode cX3_together 43 = .ok (.istore 5, 2) := by decide +kernel
theorem dX3_together_45 : decode cX3_together 45 = .ok (.iload_n 3, 1) := by decide +kernel
theorem dX3_together_46 : decode cX3_together 46 = .ok (.istore 6, 2) := by decide +kernel
theorem dX3_together_48 : decode cX3_together 48 = .ok (.iload 6, 2) := by decide +kernel
theorem dX3_together_50 : decode cX3_together 50 = .ok (.iload 4, 2) := by decide +kernel
theorem dX3_together_52 : decode cX3_together 52 = .ok (.if_icmp .ge 39, 3) := by decide +kernel
theorem dX3_together_55 : decode cX3_together 55 = .ok (.iload 5, 2) := by decide +kernel
theorem dX3_together_57 : decode cX3_together 57 = .ok (.aload_n 0, 1) := by decide +kernel
theorem dX3_together_58 : decode cX3_together 58 = .ok (.iload_n 1, 1) := by decide +kernel
theorem dX3_together_59 : decode cX3_together 59 = .ok (.iload 6, 2) := by decide +kernel
theorem dX3_together_61 : decode cX3_together 61 = .ok (.invokevirtual 125, 3) := by decide +kernel
theorem dX3_together_64 : decode cX3_together 64 = .ok (.ifCond .eq 17, 3) := by decide +kernel
theorem dX3_together_67 : decode cX3_together 67 = .ok (.aload_n 0, 1) := by decide +kernel
theorem dX3_together_68 : decode cX3_together 68 = .ok (.iload_n 2, 1) := by decide +kernel
theorem dX3_together_69 : decode cX3_together 69 = .ok (.iload 6, 2) := by decide +kernel
theorem dX3_together_71 : decode cX3_together 71 = .ok (.invokevirtual 125, 3) := by decide +kernel
theorem dX3_together_74 : decode cX3_together 74 = .ok (.ifCond .eq 7, 3) := by decide +kernel
theorem dX3_together_77 : decode cX3_together 77 = .ok (.iconst 1, 1) := by decide +kernel
theorem dX3_together_78 : decode cX3_together 78 = .ok (.goto 4, 3) := by decide +kernel
theorem dX3_together_81 : decode cX3_together 81 = .ok (.iconst 0, 1) := by decide +kernel
theorem dX3_together_82 : decode cX3_together 82 = .ok (.iadd, 1) := by decide +kernel
theorem dX3_together_83 : decode cX3_together 83 = .ok (.istore 5, 2) := by decide +kernel
theorem dX3_together_85 : decode cX3_together 85 = .ok (.iinc 6 1, 3) := by decide +kernel
theorem dX3_together_88 : decode cX3_together 88 = .ok (.goto (-40), 3) := by decide +kernel
theorem dX3_together_91 : decode cX3_together 91 = .ok (.iload 5, 2) := by decide +kernel
theorem dX3_together_93 : decode cX3_together 93 = .ok (.ireturn, 1) := by decide +kernel
theorem dX3_divisor_0 : decode cX3_divisor 0 = .ok (.lload_n 0, 1) := by decide +kernel
theorem dX3_divisor_1 : decode cX3_divisor 1 = .ok (.lstore 4, 2) := by decide +kernel
theorem dX3_divisor_3 : decode cX3_divisor 3 = .ok (.lload_n 2, 1) := by decide +kernel
theorem dX3_divisor_4 : decode cX3_divisor 4 = .ok (.lstore 6, 2) := by decide +kernel
theorem dX3_divisor_6 : decode cX3_divisor 6 = .ok (.lload 6, 2) := by decide +kernel
theorem dX3_divisor_8 : decode cX3_divisor 8 = .ok (.lconst 0, 1) := by decide +kernel
theorem dX3_divisor_9 : decode cX3_divisor 9 = .ok (.lcmp, 1) := by decide +kernel
theorem dX3_divisor_10 : decode cX3_divisor 10 = .ok (.ifCond .eq 21, 3) := by decide +kernel
theorem dX3_divisor_13 : decode cX3_divisor 13 = .ok (.lload 4, 2) := by decide +kernel
theorem dX3_divisor_15 : decode cX3_divisor 15 = .ok (.lload 6, 2) := by decide +kernel
theorem dX3_divisor_17 : decode cX3_divisor 17 = .ok (.lrem, 1) := by decide +kernel
theorem dX3_divisor_18 : decode cX3_divisor 18 = .ok (.lstore 8, 2) := by decide +kernel
theorem dX3_divisor_20 : decode cX3_divisor 20 = .ok (.lload 6, 2) := by decide +kernel
theorem dX3_divisor_22 : decode cX3_divisor 22 = .ok (.lstore 4, 2) := by decide +kernel
theorem dX3_divisor_24 : decode cX3_divisor 24 = .ok (.lload 8, 2) := by decide +kernel
theorem dX3_divisor_26 : decode cX3_divisor 26 = .ok (.lstore 6, 2) := by decide +kernel
theorem dX3_divisor_28 : decode cX3_divisor 28 = .ok (.goto (-22), 3) := by decide +kernel
theorem dX3_divisor_31 : decode cX3_divisor 31 = .ok (.lload 4, 2) := by decide +kernel
theorem dX3_divisor_33 : decode cX3_divisor 33 = .ok (.lreturn, 1) := by decide +kernel
theorem dX3_roundsOf_0 : decode cX3_roundsOf 0 = .ok (.lconst 1, 1) := by decide +kernel
theorem dX3_roundsOf_1 : decode cX3_roundsOf 1 = .ok (.lstore_n 2, 1) := by decide +kernel
theorem dX3_roundsOf_2 : decode cX3_roundsOf 2 = .ok (.iconst 0, 1) := by decide +kernel
theorem dX3_roundsOf_3 : decode cX3_roundsOf 3 = .ok (.istore 4, 2) := by decide +kernel
theorem dX3_roundsOf_5 : decode cX3_roundsOf 5 = .ok (.iload 4, 2) := by decide +kernel
theorem dX3_roundsOf_7 : decode cX3_roundsOf 7 = .ok (.aload_n 0, 1) := by decide +kernel
theorem dX3_roundsOf_8 : decode cX3_roundsOf 8 = .ok (.getfield 9, 3) := by decide +kernel
theorem dX3_roundsOf_11 : decode cX3_roundsOf 11 = .ok (.iload_n 1, 1) := by decide +kernel
theorem dX3_roundsOf_12 : decode cX3_roundsOf 12 = .ok (.iaload, 1) := by decide +kernel
theorem dX3_roundsOf_13 : decode cX3_roundsOf 13 = .ok (.if_icmp .ge 57, 3) := by decide +kernel
theorem dX3_roundsOf_16 : decode cX3_roundsOf 16 = .ok (.aload_n 0, 1) := by decide +kernel
theorem dX3_roundsOf_17 : decode cX3_roundsOf 17 = .ok (.getfield 29, 3) := by decide +kernel
theorem dX3_roundsOf_20 : decode cX3_roundsOf 20 = .ok (.iload_n 1, 1) := by decide +kernel
theorem dX3_roundsOf_21 : decode cX3_roundsOf 21 = .ok (.iload 4, 2) := by decide +kernel
theorem dX3_roundsOf_23 : decode cX3_roundsOf 23 = .ok (.invokestatic 60, 3) := by decide +kernel
theorem dX3_roundsOf_26 : decode cX3_roundsOf 26 = .ok (.iconst 0, 1) := by decide +kernel
theorem dX3_roundsOf_27 : decode cX3_roundsOf 27 = .ok (.iadd, 1) := by decide +kernel
theorem dX3_roundsOf_28 : decode cX3_roundsOf 28 = .ok (.iaload, 1) := by decide +kernel
theorem dX3_roundsOf_29 : decode cX3_roundsOf 29 = .ok (.ifCond .le 20, 3) := by decide +kernel
theorem dX3_roundsOf_32 : decode cX3_roundsOf 32 = .ok (.aload_n 0, 1) := by decide +kernel
theorem dX3_roundsOf_33 : decode cX3_roundsOf 33 = .ok (.getfield 29, 3) := by decide +kernel
theorem dX3_roundsOf_36 : decode cX3_roundsOf 36 = .ok (.iload_n 1, 1) := by decide +kernel
theorem dX3_roundsOf_37 : decode cX3_roundsOf 37 = .ok (.iload 4, 2) := by decide +kernel
theorem dX3_roundsOf_39 : decode cX3_roundsOf 39 = .ok (.invokestatic 60, 3) := by decide +kernel
theorem dX3_roundsOf_42 : decode cX3_roundsOf 42 = .ok (.iconst 3, 1) := by decide +kernel
theorem dX3_roundsOf_43 : decode cX3_roundsOf 43 = .ok (.iadd, 1) := by decide +kernel
theorem dX3_roundsOf_44 : decode cX3_roundsOf 44 = .ok (.iaload, 1) := by decide +kernel
theorem dX3_roundsOf_45 : decode cX3_roundsOf 45 = .ok (.i2l, 1) := by decide +kernel
theorem dX3_roundsOf_46 : decode cX3_roundsOf 46 = .ok (.goto 4, 3) := by decide +kernel
theorem dX3_roundsOf_49 : decode cX3_roundsOf 49 = .ok (.lconst 1, 1) := by decide +kernel
theorem dX3_roundsOf_50 : decode cX3_roundsOf 50 = .ok (.lstore 5, 2) := by decide +kernel
theorem dX3_roundsOf_52 : decode cX3_roundsOf 52 = .ok (.lload_n 2, 1) := by decide +kernel
theorem dX3_roundsOf_53 : decode cX3_roundsOf 53 = .ok (.lload_n 2, 1) := by decide +kernel
theorem dX3_roundsOf_54 : decode cX3_roundsOf 54 = .ok (.lload 5, 2) := by decide +kernel
theorem dX3_roundsOf_56 : decode cX3_roundsOf 56 = .ok (.invokestatic 134, 3) := by decide +kernel
theorem dX3_roundsOf_59 : decode cX3_roundsOf 59 = .ok (.ldiv, 1) := by decide +kernel
theorem dX3_roundsOf_60 : decode cX3_roundsOf 60 = .ok (.lload 5, 2) := by decide +kernel
theorem dX3_roundsOf_62 : decode cX3_roundsOf 62 = .ok (.lmul, 1) := by decide +kernel
theorem dX3_roundsOf_63 : decode cX3_roundsOf 63 = .ok (.lstore_n 2, 1) := by decide +kernel
theorem dX3_roundsOf_64 : decode cX3_roundsOf 64 = .ok (.iinc 4 1, 3) := by decide +kernel
theorem dX3_roundsOf_67 : decode cX3_roundsOf 67 = .ok (.goto (-62), 3) := by decide +kernel
theorem dX3_roundsOf_70 : decode cX3_roundsOf 70 = .ok (.lload_n 2, 1) := by decide +kernel
theorem dX3_roundsOf_71 : decode cX3_roundsOf 71 = .ok (.l2i, 1) := by decide +kernel
theorem dX3_roundsOf_72 : decode cX3_roundsOf 72 = .ok (.ireturn, 1) := by decide +kernel
theorem dX3_rounds_0 : decode cX3_rounds 0 = .ok (.aload_n 0, 1) := by decide +kernel
theorem dX3_rounds_1 : decode cX3_rounds 1 = .ok (.iconst 0, 1) := by decide +kernel
theorem dX3_rounds_2 : decode cX3_rounds 2 = .ok (.putfield 45, 3) := by decide +kernel
theorem dX3_rounds_5 : decode cX3_rounds 5 = .ok (.aload_n 0, 1) := by decide +kernel
theorem dX3_rounds_6 : decode cX3_rounds 6 = .ok (.iload_n 1, 1) := by decide +kernel
theorem dX3_rounds_7 : decode cX3_rounds 7 = .ok (.invokevirtual 55, 3) := by decide +kernel
theorem dX3_rounds_10 : decode cX3_rounds 10 = .ok (.ifCond .eq 11, 3) := by decide +kernel
theorem dX3_rounds_13 : decode cX3_rounds 13 = .ok (.aload_n 0, 1) := by decide +kernel
theorem dX3_rounds_14 : decode cX3_rounds 14 = .ok (.iload_n 1, 1) := by decide +kernel
theorem dX3_rounds_15 : decode cX3_rounds 15 = .ok (.invokevirtual 138, 3) := by decide +kernel
theorem dX3_rounds_18 : decode cX3_rounds 18 = .ok (.goto 8, 3) := by decide +kernel
theorem dX3_rounds_21 : decode cX3_rounds 21 = .ok (.aload_n 0, 1) := by decide +kernel
theorem dX3_rounds_22 : decode cX3_rounds 22 = .ok (.iconst 1, 1) := by decide +kernel
theorem dX3_rounds_23 : decode cX3_rounds 23 = .ok (.invokevirtual 64, 3) := by decide +kernel
theorem dX3_rounds_26 : decode cX3_rounds 26 = .ok (.ireturn, 1) := by decide +kernel
theorem dX3_period_0 : decode cX3_period 0 = .ok (.aload_n 0, 1) := by decide +kernel
theorem dX3_period_1 : decode cX3_period 1 = .ok (.iconst 0, 1) := by decide +kernel
theorem dX3_period_2 : decode cX3_period 2 = .ok (.putfield 45, 3) := by decide +kernel
theorem dX3_period_5 : decode cX3_period 5 = .ok (.lconst 1, 1) := by decide +kernel
theorem dX3_period_6 : decode cX3_period 6 = .ok (.lstore_n 1, 1) := by decide +kernel
theorem dX3_period_7 : decode cX3_period 7 = .ok (.iconst 0, 1) := by decide +kernel
theorem dX3_period_8 : decode cX3_period 8 = .ok (.istore_n 3, 1) := by decide +kernel
theorem dX3_period_9 : decode cX3_period 9 = .ok (.iload_n 3, 1) := by decide +kernel
theorem dX3_period_10 : decode cX3_period 10 = .ok (.aload_n 0, 1) := by decide +kernel
theorem dX3_period_11 : decode cX3_period 11 = .ok (.getfield 48, 3) := by decide +kernel
theorem dX3_period_14 : decode cX3_period 14 = .ok (.if_icmp .ge 57, 3) := by decide +kernel
theorem dX3_period_17 : decode cX3_period 17 = .ok (.aload_n 0, 1) := by decide +kernel
theorem dX3_period_18 : decode cX3_period 18 = .ok (.getfield 9, 3) := by decide +kernel
theorem dX3_period_21 : decode cX3_period 21 = .ok (.iload_n 3, 1) := by decide +kernel
theorem dX3_period_22 : decode cX3_period 22 = .ok (.iaload, 1) := by decide +kernel
theorem dX3_period_23 : decode cX3_period 23 = .ok (.i2l, 1) := by decide +kernel
theorem dX3_period_24 : decode cX3_period 24 = .ok (.aload_n 0, 1) := by decide +kernel
theorem dX3_period_25 : decode cX3_period 25 = .ok (.getfield 13, 3) := by decide +kernel
theorem dX3_period_28 : decode cX3_period 28 = .ok (.iload_n 3, 1) := by decide +kernel
theorem dX3_period_29 : decode cX3_period 29 = .ok (.iaload, 1) := by decide +kernel
theorem dX3_period_30 : decode cX3_period 30 = .ok (.i2l, 1) := by decide +kernel
theorem dX3_period_31 : decode cX3_period 31 = .ok (.lmul, 1) := by decide +kernel
theorem dX3_period_32 : decode cX3_period 32 = .ok (.aload_n 0, 1) := by decide +kernel
theorem dX3_period_33 : decode cX3_period 33 = .ok (.iload_n 3, 1) := by decide +kernel
theorem dX3_period_34 : decode cX3_period 34 = .ok (.invokevirtual 138, 3) := by decide +kernel
theorem dX3_period_37 : decode cX3_period 37 = .ok (.i2l, 1) := by decide +kernel
theorem dX3_period_38 : decode cX3_period 38 = .ok (.lmul, 1) := by decide +kernel
theorem dX3_period_39 : decode cX3_period 39 = .ok (.lstore 4, 2) := by decide +kernel
theorem dX3_period_41 : decode cX3_period 41 = .ok (.lload_n 1, 1) := by decide +kernel
theorem dX3_period_42 : decode cX3_period 42 = .ok (.lload_n 1, 1) := by decide +kernel
theorem dX3_period_43 : decode cX3_period 43 = .ok (.lload 4, 2) := by decide +kernel
theorem dX3_period_45 : decode cX3_period 45 = .ok (.invokestatic 134, 3) := by decide +kernel
theorem dX3_period_48 : decode cX3_period 48 = .ok (.ldiv, 1) := by decide +kernel
theorem dX3_period_49 : decode cX3_period 49 = .ok (.lload 4, 2) := by decide +kernel
theorem dX3_period_51 : decode cX3_period 51 = .ok (.lmul, 1) := by decide +kernel
theorem dX3_period_52 : decode cX3_period 52 = .ok (.lstore_n 1, 1) := by decide +kernel
theorem dX3_period_53 : decode cX3_period 53 = .ok (.lload_n 1, 1) := by decide +kernel
theorem dX3_period_54 : decode cX3_period 54 = .ok (.ldc2_w 141, 3) := by decide +kernel
theorem dX3_period_57 : decode cX3_period 57 = .ok (.lcmp, 1) := by decide +kernel
theorem dX3_period_58 : decode cX3_period 58 = .ok (.ifCond .le 7, 3) := by decide +kernel
theorem dX3_period_61 : decode cX3_period 61 = .ok (.ldc2_w 143, 3) := by decide +kernel
theorem dX3_period_64 : decode cX3_period 64 = .ok (.lreturn, 1) := by decide +kernel
theorem dX3_period_65 : decode cX3_period 65 = .ok (.iinc 3 1, 3) := by decide +kernel
theorem dX3_period_68 : decode cX3_period 68 = .ok (.goto (-59), 3) := by decide +kernel
theorem dX3_period_71 : decode cX3_period 71 = .ok (.lload_n 1, 1) := by decide +kernel
theorem dX3_period_72 : decode cX3_period 72 = .ok (.lreturn, 1) := by decide +kernel
theorem dX3_density_0 : decode cX3_density 0 = .ok (.aload_n 0, 1) := by decide +kernel
theorem dX3_density_1 : decode cX3_density 1 = .ok (.aload_n 0, 1) := by decide +kernel
theorem dX3_density_2 : decode cX3_density 2 = .ok (.iload_n 1, 1) := by decide +kernel
theorem dX3_density_3 : decode cX3_density 3 = .ok (.invokevirtual 55, 3) := by decide +kernel
theorem dX3_density_6 : decode cX3_density 6 = .ok (.ifCond .eq 7, 3) := by decide +kernel
theorem dX3_density_9 : decode cX3_density 9 = .ok (.iconst 0, 1) := by decide +kernel
theorem dX3_density_10 : decode cX3_density 10 = .ok (.goto 4, 3) := by decide +kernel
theorem dX3_density_13 : decode cX3_density 13 = .ok (.iconst 1, 1) := by decide +kernel
theorem dX3_density_14 : decode cX3_density 14 = .ok (.putfield 45, 3) := by decide +kernel
theorem dX3_density_17 : decode cX3_density 17 = .ok (.dconst 0, 1) := by decide +kernel
theorem dX3_density_18 : decode cX3_density 18 = .ok (.dstore_n 2, 1) := by decide +kernel
theorem dX3_density_19 : decode cX3_density 19 = .ok (.iconst 0, 1) := by decide +kernel
theorem dX3_density_20 : decode cX3_density 20 = .ok (.istore 4, 2) := by decide +kernel
theorem dX3_density_22 : decode cX3_density 22 = .ok (.aload_n 0, 1) := by decide +kernel
theorem dX3_density_23 : decode cX3_density 23 = .ok (.getfield 45, 3) := by decide +kernel
theorem dX3_density_26 : decode cX3_density 26 = .ok (.ifCond .ne 68, 3) := by decide +kernel
theorem dX3_density_29 : decode cX3_density 29 = .ok (.iload 4, 2) := by decide +kernel
theorem dX3_density_31 : decode cX3_density 31 = .ok (.aload_n 0, 1) := by decide +kernel
theorem dX3_density_32 : decode cX3_density 32 = .ok (.getfield 9, 3) := by decide +kernel
theorem dX3_density_35 : decode cX3_density 35 = .ok (.iload_n 1, 1) := by decide +kernel
theorem dX3_density_36 : decode cX3_density 36 = .ok (.iaload, 1) := by decide +kernel
theorem dX3_density_37 : decode cX3_density 37 = .ok (.if_icmp .ge 57, 3) := by decide +kernel
theorem dX3_density_40 : decode cX3_density 40 = .ok (.aload_n 0, 1) := by decide +kernel
theorem dX3_density_41 : decode cX3_density 41 = .ok (.getfield 29, 3) := by decide +kernel
theorem dX3_density_44 : decode cX3_density 44 = .ok (.iload_n 1, 1) := by decide +kernel
theorem dX3_density_45 : decode cX3_density 45 = .ok (.iload 4, 2) := by decide +kernel
theorem dX3_density_47 : decode cX3_density 47 = .ok (.invokestatic 60, 3) := by decide +kernel
theorem dX3_density_50 : decode cX3_density 50 = .ok (.iconst 0, 1) := by decide +kernel
theorem dX3_density_51 : decode cX3_density 51 = .ok (.iadd, 1) := by decide +kernel
theorem dX3_density_52 : decode cX3_density 52 = .ok (.iaload, 1) := by decide +kernel
theorem dX3_density_53 : decode cX3_density 53 = .ok (.ifCond .le 35, 3) := by decide +kernel
theorem dX3_density_56 : decode cX3_density 56 = .ok (.dload_n 2, 1) := by decide +kernel
theorem dX3_density_57 : decode cX3_density 57 = .ok (.aload_n 0, 1) := by decide +kernel
theorem dX3_density_58 : decode cX3_density 58 = .ok (.getfield 29, 3) := by decide +kernel
theorem dX3_density_61 : decode cX3_density 61 = .ok (.iload_n 1, 1) := by decide +kernel
theorem dX3_density_62 : decode cX3_density 62 = .ok (.iload 4, 2) := by decide +kernel
theorem dX3_density_64 : decode cX3_density 64 = .ok (.invokestatic 60, 3) := by decide +kernel
theorem dX3_density_67 : decode cX3_density 67 = .ok (.iconst 1, 1) := by decide +kernel
theorem dX3_density_68 : decode cX3_density 68 = .ok (.iadd, 1) := by decide +kernel
theorem dX3_density_69 : decode cX3_density 69 = .ok (.iaload, 1) := by decide +kernel
theorem dX3_density_70 : decode cX3_density 70 = .ok (.i2d, 1) := by decide +kernel
theorem dX3_density_71 : decode cX3_density 71 = .ok (.aload_n 0, 1) := by decide +kernel
theorem dX3_density_72 : decode cX3_density 72 = .ok (.getfield 29, 3) := by decide +kernel
theorem dX3_density_75 : decode cX3_density 75 = .ok (.iload_n 1, 1) := by decide +kernel
theorem dX3_density_76 : decode cX3_density 76 = .ok (.iload 4, 2) := by decide +kernel
theorem dX3_density_78 : decode cX3_density 78 = .ok (.invokestatic 60, 3) := by decide +kernel
theorem dX3_density_81 : decode cX3_density 81 = .ok (.iconst 3, 1) := by decide +kernel
theorem dX3_density_82 : decode cX3_density 82 = .ok (.iadd, 1) := by decide +kernel
theorem dX3_density_83 : decode cX3_density 83 = .ok (.iaload, 1) := by decide +kernel
theorem dX3_density_84 : decode cX3_density 84 = .ok (.i2d, 1) := by decide +kernel
theorem dX3_density_85 : decode cX3_density 85 = .ok (.ddiv, 1) := by decide +kernel
theorem dX3_density_86 : decode cX3_density 86 = .ok (.dadd, 1) := by decide +kernel
theorem dX3_density_87 : decode cX3_density 87 = .ok (.dstore_n 2, 1) := by decide +kernel
theorem dX3_density_88 : decode cX3_density 88 = .ok (.iinc 4 1, 3) := by decide +kernel
theorem dX3_density_91 : decode cX3_density 91 = .ok (.goto (-69), 3) := by decide +kernel
theorem dX3_density_94 : decode cX3_density 94 = .ok (.dload_n 2, 1) := by decide +kernel
theorem dX3_density_95 : decode cX3_density 95 = .ok (.dreturn, 1) := by decide +kernel
theorem dX3_setSpeed_0 : decode cX3_setSpeed 0 = .ok (.aload_n 0, 1) := by decide +kernel
theorem dX3_setSpeed_1 : decode cX3_setSpeed 1 = .ok (.iconst 0, 1) := by decide +kernel
theorem dX3_setSpeed_2 : decode cX3_setSpeed 2 = .ok (.putfield 45, 3) := by decide +kernel
theorem dX3_setSpeed_5 : decode cX3_setSpeed 5 = .ok (.iload_n 1, 1) := by decide +kernel
theorem dX3_setSpeed_6 : decode cX3_setSpeed 6 = .ok (.bipush 30, 2) := by decide +kernel
theorem dX3_setSpeed_8 : decode cX3_setSpeed 8 = .ok (.sipush 300, 3) := by decide +kernel
theorem dX3_setSpeed_11 : decode cX3_setSpeed 11 = .ok (.invokestatic 51, 3) := by decide +kernel
theorem dX3_setSpeed_14 : decode cX3_setSpeed 14 = .ok (.ifCond .ne 9, 3) := by decide +kernel
theorem dX3_setSpeed_17 : decode cX3_setSpeed 17 = .ok (.aload_n 0, 1) := by decide +kernel
theorem dX3_setSpeed_18 : decode cX3_setSpeed 18 = .ok (.iconst 1, 1) := by decide +kernel
theorem dX3_setSpeed_19 : decode cX3_setSpeed 19 = .ok (.invokevirtual 64, 3) := by decide +kernel
theorem dX3_setSpeed_22 : decode cX3_setSpeed 22 = .ok (.ireturn, 1) := by decide +kernel
theorem dX3_setSpeed_23 : decode cX3_setSpeed 23 = .ok (.aload_n 0, 1) := by decide +kernel
theorem dX3_setSpeed_24 : decode cX3_setSpeed 24 = .ok (.getfield 41, 3) := by decide +kernel
theorem dX3_setSpeed_27 : decode cX3_setSpeed 27 = .ok (.istore_n 2, 1) := by decide +kernel
theorem dX3_setSpeed_28 : decode cX3_setSpeed 28 = .ok (.aload_n 0, 1) := by decide +kernel
theorem dX3_setSpeed_29 : decode cX3_setSpeed 29 = .ok (.iload_n 1, 1) := by decide +kernel
theorem dX3_setSpeed_30 : decode cX3_setSpeed 30 = .ok (.putfield 41, 3) := by decide +kernel
theorem dX3_setSpeed_33 : decode cX3_setSpeed 33 = .ok (.iload_n 2, 1) := by decide +kernel
theorem dX3_setSpeed_34 : decode cX3_setSpeed 34 = .ok (.ireturn, 1) := by decide +kernel
theorem dX3_seconds_0 : decode cX3_seconds 0 = .ok (.aload_n 0, 1) := by decide +kernel
theorem dX3_seconds_1 : decode cX3_seconds 1 = .ok (.iload_n 1, 1) := by decide +kernel
theorem dX3_seconds_2 : decode cX3_seconds 2 = .ok (.invokestatic 100, 3) := by decide +kernel
theorem dX3_seconds_5 : decode cX3_seconds 5 = .ok (.ifCond .eq 7, 3) := by decide +kernel
theorem dX3_seconds_8 : decode cX3_seconds 8 = .ok (.iconst 0, 1) := by decide +kernel
theorem dX3_seconds_9 : decode cX3_seconds 9 = .ok (.goto 4, 3) := by decide +kernel
theorem dX3_seconds_12 : decode cX3_seconds 12 = .ok (.iconst 1, 1) := by decide +kernel
theorem dX3_seconds_13 : decode cX3_seconds 13 = .ok (.putfield 45, 3) := by decide +kernel
theorem dX3_seconds_16 : decode cX3_seconds 16 = .ok (.aload_n 0, 1) := by decide +kernel
theorem dX3_seconds_17 : decode cX3_seconds 17 = .ok (.getfield 45, 3) := by decide +kernel
theorem dX3_seconds_20 : decode cX3_seconds 20 = .ok (.ifCond .ne 22, 3) := by decide +kernel
theorem dX3_seconds_23 : decode cX3_seconds 23 = .ok (.iload_n 1, 1) := by decide +kernel
theorem dX3_seconds_24 : decode cX3_seconds 24 = .ok (.i2d, 1) := by decide +kernel
theorem dX3_seconds_25 : decode cX3_seconds 25 = .ok (.ldc2_w 145, 3) := by decide +kernel
theorem dX3_seconds_28 : decode cX3_seconds 28 = .ok (.dmul, 1) := by decide +kernel
theorem dX3_seconds_29 : decode cX3_seconds 29 = .ok (.aload_n 0, 1) := by decide +kernel
theorem dX3_seconds_30 : decode cX3_seconds 30 = .ok (.getfield 41, 3) := by decide +kernel
theorem dX3_seconds_33 : decode cX3_seconds 33 = .ok (.i2d, 1) := by decide +kernel
theorem dX3_seconds_34 : decode cX3_seconds 34 = .ok (.ddiv, 1) := by decide +kernel
theorem dX3_seconds_35 : decode cX3_seconds 35 = .ok (.ldc2_w 147, 3) := by decide +kernel
theorem dX3_seconds_38 : decode cX3_seconds 38 = .ok (.ddiv, 1) := by decide +kernel
theorem dX3_seconds_39 : decode cX3_seconds 39 = .ok (.goto 4, 3) := by decide +kernel
theorem dX3_seconds_42 : decode cX3_seconds 42 = .ok (.dconst 0, 1) := by decide +kernel
theorem dX3_seconds_43 : decode cX3_seconds 43 = .ok (.dreturn, 1) := by decide +kernel
theorem dX3_digest_0 : decode cX3_digest 0 = .ok (.aload_n 0, 1) := by decide +kernel
theorem dX3_digest_1 : decode cX3_digest 1 = .ok (.iconst 0, 1) := by decide +kernel
theorem dX3_digest_2 : decode cX3_digest 2 = .ok (.putfield 45, 3) := by decide +kernel
theorem dX3_digest_5 : decode cX3_digest 5 = .ok (.ldc2_w 149, 3) := by decide +kernel
theorem dX3_digest_8 : decode cX3_digest 8 = .ok (.aload_n 0, 1) := by decide +kernel
theorem dX3_digest_9 : decode cX3_digest 9 = .ok (.getfield 41, 3) := by decide +kernel
theorem dX3_digest_12 : decode cX3_digest 12 = .ok (.i2l, 1) := by decide +kernel
theorem dX3_digest_13 : decode cX3_digest 13 = .ok (.ladd, 1) := by decide +kernel
theorem dX3_digest_14 : decode cX3_digest 14 = .ok (.ldc2_w 151, 3) := by decide +kernel
theorem dX3_digest_17 : decode cX3_digest 17 = .ok (.lmul, 1) := by decide +kernel
theorem dX3_digest_18 : decode cX3_digest 18 = .ok (.aload_n 0, 1) := by decide +kernel
theorem dX3_digest_19 : decode cX3_digest 19 = .ok (.getfield 48, 3) := by decide +kernel
theorem dX3_digest_22 : decode cX3_digest 22 = .ok (.i2l, 1) := by decide +kernel
theorem dX3_digest_23 : decode cX3_digest 23 = .ok (.ladd, 1) := by decide +kernel
theorem dX3_digest_24 : decode cX3_digest 24 = .ok (.lstore_n 1, 1) := by decide +kernel
theorem dX3_digest_25 : decode cX3_digest 25 = .ok (.iconst 0, 1) := by decide +kernel
theorem dX3_digest_26 : decode cX3_digest 26 = .ok (.istore_n 3, 1) := by decide +kernel
theorem dX3_digest_27 : decode cX3_digest 27 = .ok (.iload_n 3, 1) := by decide +kernel
theorem dX3_digest_28 : decode cX3_digest 28 = .ok (.aload_n 0, 1) := by decide +kernel
theorem dX3_digest_29 : decode cX3_digest 29 = .ok (.getfield 48, 3) := by decide +kernel
theorem dX3_digest_32 : decode cX3_digest 32 = .ok (.if_icmp .ge 83, 3) := by decide +kernel
theorem dX3_digest_35 : decode cX3_digest 35 = .ok (.iconst 0, 1) := by decide +kernel
theorem dX3_digest_36 : decode cX3_digest 36 = .ok (.istore 4, 2) := by decide +kernel
theorem dX3_digest_38 : decode cX3_digest 38 = .ok (.iload 4, 2) := by decide +kernel
theorem dX3_digest_40 : decode cX3_digest 40 = .ok (.bipush 8, 2) := by decide +kernel
theorem dX3_digest_42 : decode cX3_digest 42 = .ok (.if_icmp .ge 24, 3) := by decide +kernel
theorem dX3_digest_45 : decode cX3_digest 45 = .ok (.lload_n 1, 1) := by decide +kernel
theorem dX3_digest_46 : decode cX3_digest 46 = .ok (.ldc2_w 151, 3) := by decide +kernel
theorem dX3_digest_49 : decode cX3_digest 49 = .ok (.lmul, 1) := by decide +kernel
theorem dX3_digest_50 : decode cX3_digest 50 = .ok (.aload_n 0, 1) := by decide +kernel
theorem dX3_digest_51 : decode cX3_digest 51 = .ok (.iload_n 3, 1) := by decide +kernel
theorem dX3_digest_52 : decode cX3_digest 52 = .ok (.iload 4, 2) := by decide +kernel
theorem dX3_digest_54 : decode cX3_digest 54 = .ok (.invokevirtual 79, 3) := by decide +kernel
theorem dX3_digest_57 : decode cX3_digest 57 = .ok (.i2l, 1) := by decide +kernel
theorem dX3_digest_58 : decode cX3_digest 58 = .ok (.ladd, 1) := by decide +kernel
theorem dX3_digest_59 : decode cX3_digest 59 = .ok (.lstore_n 1, 1) := by decide +kernel
theorem dX3_digest_60 : decode cX3_digest 60 = .ok (.iinc 4 1, 3) := by decide +kernel
theorem dX3_digest_63 : decode cX3_digest 63 = .ok (.goto (-25), 3) := by decide +kernel
theorem dX3_digest_66 : decode cX3_digest 66 = .ok (.iconst 0, 1) := by decide +kernel
theorem dX3_digest_67 : decode cX3_digest 67 = .ok (.istore 4, 2) := by decide +kernel
theorem dX3_digest_69 : decode cX3_digest 69 = .ok (.iload 4, 2) := by decide +kernel
theorem dX3_digest_71 : decode cX3_digest 71 = .ok (.iconst 4, 1) := by decide +kernel
theorem dX3_digest_72 : decode cX3_digest 72 = .ok (.aload_n 0, 1) := by decide +kernel
theorem dX3_digest_73 : decode cX3_digest 73 = .ok (.getfield 9, 3) := by decide +kernel
theorem dX3_digest_76 : decode cX3_digest 76 = .ok (.iload_n 3, 1) := by decide +kernel
theorem dX3_digest_77 : decode cX3_digest 77 = .ok (.iaload, 1) := by decide +kernel
theorem dX3_digest_78 : decode cX3_digest 78 = .ok (.imul, 1) := by decide +kernel
theorem dX3_digest_79 : decode cX3_digest 79 = .ok (.if_icmp .ge 30, 3) := by decide +kernel
theorem dX3_digest_82 : decode cX3_digest 82 = .ok (.lload_n 1, 1) := by decide +kernel
theorem dX3_digest_83 : decode cX3_digest 83 = .ok (.ldc2_w 151, 3) := by decide +kernel
theorem dX3_digest_86 : decode cX3_digest 86 = .ok (.lmul, 1) := by decide +kernel
theorem dX3_digest_87 : decode cX3_digest 87 = .ok (.aload_n 0, 1) := by decide +kernel
theorem dX3_digest_88 : decode cX3_digest 88 = .ok (.getfield 29, 3) := by decide +kernel
theorem dX3_digest_91 : decode cX3_digest 91 = .ok (.iload_n 3, 1) := by decide +kernel
theorem dX3_digest_92 : decode cX3_digest 92 = .ok (.iconst 0, 1) := by decide +kernel
theorem dX3_digest_93 : decode cX3_digest 93 = .ok (.invokestatic 60, 3) := by decide +kernel
theorem dX3_digest_96 : decode cX3_digest 96 = .ok (.iload 4, 2) := by decide +kernel
theorem dX3_digest_98 : decode cX3_digest 98 = .ok (.iadd, 1) := by decide +kernel
theorem dX3_digest_99 : decode cX3_digest 99 = .ok (.iaload, 1) := by decide +kernel
theorem dX3_digest_100 : decode cX3_digest 100 = .ok (.i2l, 1) := by decide +kernel
theorem dX3_digest_101 : decode cX3_digest 101 = .ok (.ladd, 1) := by decide +kernel
theorem dX3_digest_102 : decode cX3_digest 102 = .ok (.lstore_n 1, 1) := by decide +kernel
theorem dX3_digest_103 : decode cX3_digest 103 = .ok (.iinc 4 1, 3) := by decide +kernel
theorem dX3_digest_106 : decode cX3_digest 106 = .ok (.goto (-37), 3) := by decide +kernel
theorem dX3_digest_109 : decode cX3_digest 109 = .ok (.iinc 3 1, 3) := by decide +kernel
theorem dX3_digest_112 : decode cX3_digest 112 = .ok (.goto (-85), 3) := by decide +kernel
theorem dX3_digest_115 : decode cX3_digest 115 = .ok (.lload_n 1, 1) := by decide +kernel
theorem dX3_digest_116 : decode cX3_digest 116 = .ok (.ldc2_w 151, 3) := by decide +kernel
theorem dX3_digest_119 : decode cX3_digest 119 = .ok (.lmul, 1) := by decide +kernel
theorem dX3_digest_120 : decode cX3_digest 120 = .ok (.aload_n 0, 1) := by decide +kernel
theorem dX3_digest_121 : decode cX3_digest 121 = .ok (.getfield 111, 3) := by decide +kernel
theorem dX3_digest_124 : decode cX3_digest 124 = .ok (.i2l, 1) := by decide +kernel
theorem dX3_digest_125 : decode cX3_digest 125 = .ok (.ladd, 1) := by decide +kernel
theorem dX3_digest_126 : decode cX3_digest 126 = .ok (.lstore_n 1, 1) := by decide +kernel
theorem dX3_digest_127 : decode cX3_digest 127 = .ok (.iconst 0, 1) := by decide +kernel
theorem dX3_digest_128 : decode cX3_digest 128 = .ok (.istore_n 3, 1) := by decide +kernel
theorem dX3_digest_129 : decode cX3_digest 129 = .ok (.iload_n 3, 1) := by decide +kernel
theorem dX3_digest_130 : decode cX3_digest 130 = .ok (.aload_n 0, 1) := by decide +kernel
theorem dX3_digest_131 : decode cX3_digest 131 = .ok (.getfield 111, 3) := by decide +kernel
theorem dX3_digest_134 : decode cX3_digest 134 = .ok (.if_icmp .ge 64, 3) := by decide +kernel
theorem dX3_digest_137 : decode cX3_digest 137 = .ok (.lload_n 1, 1) := by decide +kernel
theorem dX3_digest_138 : decode cX3_digest 138 = .ok (.ldc2_w 151, 3) := by decide +kernel
theorem dX3_digest_141 : decode cX3_digest 141 = .ok (.lmul, 1) := by decide +kernel
theorem dX3_digest_142 : decode cX3_digest 142 = .ok (.aload_n 0, 1) := by decide +kernel
theorem dX3_digest_143 : decode cX3_digest 143 = .ok (.getfield 32, 3) := by decide +kernel
theorem dX3_digest_146 : decode cX3_digest 146 = .ok (.iload_n 3, 1) := by decide +kernel
theorem dX3_digest_147 : decode cX3_digest 147 = .ok (.iconst 1, 1) := by decide +kernel
theorem dX3_digest_148 : decode cX3_digest 148 = .ok (.iadd, 1) := by decide +kernel
theorem dX3_digest_149 : decode cX3_digest 149 = .ok (.iaload, 1) := by decide +kernel
theorem dX3_digest_150 : decode cX3_digest 150 = .ok (.i2l, 1) := by decide +kernel
theorem dX3_digest_151 : decode cX3_digest 151 = .ok (.ladd, 1) := by decide +kernel
theorem dX3_digest_152 : decode cX3_digest 152 = .ok (.aload_n 0, 1) := by decide +kernel
theorem dX3_digest_153 : decode cX3_digest 153 = .ok (.getfield 32, 3) := by decide +kernel
theorem dX3_digest_156 : decode cX3_digest 156 = .ok (.iload_n 3, 1) := by decide +kernel
theorem dX3_digest_157 : decode cX3_digest 157 = .ok (.iaload, 1) := by decide +kernel
theorem dX3_digest_158 : decode cX3_digest 158 = .ok (.i2l, 1) := by decide +kernel
theorem dX3_digest_159 : decode cX3_digest 159 = .ok (.lsub, 1) := by decide +kernel
theorem dX3_digest_160 : decode cX3_digest 160 = .ok (.ldc2_w 151, 3) := by decide +kernel
theorem dX3_digest_163 : decode cX3_digest 163 = .ok (.lmul, 1) := by decide +kernel
theorem dX3_digest_164 : decode cX3_digest 164 = .ok (.aload_n 0, 1) := by decide +kernel
theorem dX3_digest_165 : decode cX3_digest 165 = .ok (.getfield 35, 3) := by decide +kernel
theorem dX3_digest_168 : decode cX3_digest 168 = .ok (.iload_n 3, 1) := by decide +kernel
theorem dX3_digest_169 : decode cX3_digest 169 = .ok (.iaload, 1) := by decide +kernel
theorem dX3_digest_170 : decode cX3_digest 170 = .ok (.i2l, 1) := by decide +kernel
theorem dX3_digest_171 : decode cX3_digest 171 = .ok (.ladd, 1) := by decide +kernel
theorem dX3_digest_172 : decode cX3_digest 172 = .ok (.ldc2_w 151, 3) := by decide +kernel
theorem dX3_digest_175 : decode cX3_digest 175 = .ok (.lmul, 1) := by decide +kernel
theorem dX3_digest_176 : decode cX3_digest 176 = .ok (.aload_n 0, 1) := by decide +kernel
theorem dX3_digest_177 : decode cX3_digest 177 = .ok (.getfield 38, 3) := by decide +kernel
theorem dX3_digest_180 : decode cX3_digest 180 = .ok (.iload_n 3, 1) := by decide +kernel
theorem dX3_digest_181 : decode cX3_digest 181 = .ok (.baload, 1) := by decide +kernel
theorem dX3_digest_182 : decode cX3_digest 182 = .ok (.ifCond .eq 7, 3) := by decide +kernel
theorem dX3_digest_185 : decode cX3_digest 185 = .ok (.lconst 1, 1) := by decide +kernel
theorem dX3_digest_186 : decode cX3_digest 186 = .ok (.goto 4, 3) := by decide +kernel
theorem dX3_digest_189 : decode cX3_digest 189 = .ok (.lconst 0, 1) := by decide +kernel
theorem dX3_digest_190 : decode cX3_digest 190 = .ok (.ladd, 1) := by decide +kernel
theorem dX3_digest_191 : decode cX3_digest 191 = .ok (.lstore_n 1, 1) := by decide +kernel
theorem dX3_digest_192 : decode cX3_digest 192 = .ok (.iinc 3 1, 3) := by decide +kernel
theorem dX3_digest_195 : decode cX3_digest 195 = .ok (.goto (-66), 3) := by decide +kernel
theorem dX3_digest_198 : decode cX3_digest 198 = .ok (.lload_n 1, 1) := by decide +kernel
theorem dX3_digest_199 : decode cX3_digest 199 = .ok (.lreturn, 1) := by decide +kernel
end
section
/-! ===== whole numbers for the machine's ints ===== -/
def zI (z : Int) : Int32 := Int32.ofInt z
theorem zI_toInt {z : Int} (h : -2147483648 ≤ z ∧ z ≤ 2147483647) : (zI z).toInt = z := Int32.toInt_ofInt_of_le (by omega) (by omega)
theorem zI_of (x : Int32) : x = zI x.toInt := (Int32.ofInt_toInt x).symm
theorem zI_rng (x : Int32) : -2147483648 ≤ x.toInt ∧ x.toInt ≤ 2147483647 := ⟨by have := Int32.le_toInt x; omega, by have := Int32.toInt_lt x; omega⟩
theorem zI_add (a b : Int) : zI a + zI b = zI (a + b) := (Int32.ofInt_add a b).symm
theorem zI_sub (a b : Int) : zI a - zI b = zI (a - b) := (Int32.ofInt_sub a b).symm
theorem zI_mul (a b : Int) : zI a * zI b = zI (a * b) := (Int32.ofInt_mul a b).symm
theorem zI_lt {a b : Int} (h : -2147483648 ≤ a ∧ a ≤ 2147483647 ∧ -2147483648 ≤ b ∧ b ≤ 2147483647) : zI a < zI b ↔ a < b := by
  rw [Int32.lt_iff_toInt_lt, zI_toInt ⟨h.1, h.2.1⟩, zI_toInt h.2.2]
theorem zI_le {a b : Int} (h : -2147483648 ≤ a ∧ a ≤ 2147483647 ∧ -2147483648 ≤ b ∧ b ≤ 2147483647) : zI a ≤ zI b ↔ a ≤ b := by
  rw [Int32.le_iff_toInt_le, zI_toInt ⟨h.1, h.2.1⟩, zI_toInt h.2.2]
theorem zI_eq {a b : Int} (h : -2147483648 ≤ a ∧ a ≤ 2147483647 ∧ -2147483648 ≤ b ∧ b ≤ 2147483647) : zI a = zI b ↔ a = b := by
  rw [← Int32.toInt_inj, zI_toInt ⟨h.1, h.2.1⟩, zI_toInt h.2.2]
theorem zI_div {a b : Int} (h : 0 ≤ a ∧ a ≤ 2147483647 ∧ 0 < b ∧ b ≤ 2147483647) : zI a / zI b = zI (a / b) := by
  apply Int32.toInt_inj.mp
  have hb : zI b ≠ -1 := by
    intro e
    have e2 := congrArg Int32.toInt e
    rw [zI_toInt (by omega)] at e2
    have : (-1 : Int32).toInt = -1 := by decide
    omega
  rw [Int32.toInt_div_of_ne_right _ _ hb, zI_toInt (by omega), zI_toInt (by omega), Int.tdiv_eq_ediv_of_nonneg h.1]
  have h1 : 0 ≤ a / b := Int.ediv_nonneg h.1 (by omega)
  have h2 : a / b ≤ a := Int.ediv_le_self b h.1
  rw [zI_toInt (by omega)]
theorem zI_rem {a b : Int} (h : 0 ≤ a ∧ a ≤ 2147483647 ∧ 0 < b ∧ b ≤ 2147483647) : zI a - zI a / zI b * zI b = zI (a % b) := by
  rw [zI_div h, zI_mul, zI_sub, Int.emod_def, Int.mul_comm b]
theorem zI_clamp {a : Int} (h : 0 ≤ a ∧ a ≤ 2147483647) : (zI a).toNatClampNeg = a.toNat := by
  exact Int32.toNatClampNeg_ofInt_of_le (by omega) (by omega)
theorem zI_in {a : Int} {n : Nat} (h : 0 ≤ a ∧ a < n) (hn : n < 2147483648) : vp_in (zI a) n := by
  rw [vp_in_iff, zI_toInt (by omega)]
  exact h
theorem zI_ne {b : Int} (h : 0 < b ∧ b ≤ 2147483647) : ¬ zI b = 0 := by
  rw [show (0 : Int32) = zI 0 from rfl, zI_eq (by omega)]
  omega
theorem zI_nI (n : Nat) : nI n = zI (n : Int) := rfl
/-- a truth, as the machine's int -/
noncomputable def zB (P : Prop) : Int32 := @ite Int32 P (Classical.propDecidable P) 1 0
theorem zB_t {P : Prop} (h : P) : zB P = 1 := by unfold zB; exact if_pos h
theorem zB_f {P : Prop} (h : ¬ P) : zB P = 0 := by unfold zB; exact if_neg h
theorem zB_iff {P Q : Prop} (h : P ↔ Q) : zB P = zB Q := by rw [propext h]
section ZR
variable {p : Program} {l : Launch} {e : Env} {R : Room} {s : State} {m : MethodId} {args : Array Value} {below : List Frame} {meth : Method} {c : Code} {H : Heap} {locs : List Loc} {cells slots : Nat} {Q : State → Prop}
variable {cc : ByteArray} {pc : Nat} {ls : Array Slot} {rest : List Value}
theorem z_iadd (hexec : p.tables.exec = Jvm.exec) (hb : c.code = cc) {x y : Int} (hdg : decode cc pc = .ok (.iadd, 1)) (k : W p l e R s m args below meth c H locs cells slots Q (F0 m (pc + 1) ls (.int (zI (x + y)) :: rest))) : W p l e R s m args below meth c H locs cells slots Q (F0 m pc ls (.int (zI y) :: .int (zI x) :: rest)) := lv_iadd hexec hb hdg (by rw [zI_add]; exact k)
theorem z_isub (hexec : p.tables.exec = Jvm.exec) (hb : c.code = cc) {x y : Int} (hdg : decode cc pc = .ok (.isub, 1)) (k : W p l e R s m args below meth c H locs cells slots Q (F0 m (pc + 1) ls (.int (zI (x - y)) :: rest))) : W p l e R s m args below meth c H locs cells slots Q (F0 m pc ls (.int (zI y) :: .int (zI x) :: rest)) := lv_isub hexec hb hdg (by rw [zI_sub]; exact k)
theorem z_imul (hexec : p.tables.exec = Jvm.exec) (hb : c.code = cc) {x y : Int} (hdg : decode cc pc = .ok (.imul, 1)) (k : W p l e R s m args below meth c H locs cells slots Q (F0 m (pc + 1) ls (.int (zI (x * y)) :: rest))) : W p l e R s m args below meth c H locs cells slots Q (F0 m pc ls (.int (zI y) :: .int (zI x) :: rest)) := lv_imul hexec hb hdg (by rw [zI_mul]; exact k)
theorem z_idiv (hexec : p.tables.exec = Jvm.exec) (hb : c.code = cc) {x y : Int} (h : 0 ≤ x ∧ x ≤ 2147483647 ∧ 0 < y ∧ y ≤ 2147483647) (hdg : decode cc pc = .ok (.idiv, 1)) (k : W p l e R s m args below meth c H locs cells slots Q (F0 m (pc + 1) ls (.int (zI (x / y)) :: rest))) : W p l e R s m args below meth c H locs cells slots Q (F0 m pc ls (.int (zI y) :: .int (zI x) :: rest)) := lv_idiv hexec hb hdg (zI_ne h.2.2) (by rw [zI_div h]; exact k)
theorem z_irem (hexec : p.tables.exec = Jvm.exec) (hb : c.code = cc) {x y : Int} (h : 0 ≤ x ∧ x ≤ 2147483647 ∧ 0 < y ∧ y ≤ 2147483647) (hdg : decode cc pc = .ok (.irem, 1)) (k : W p l e R s m args below meth c H locs cells slots Q (F0 m (pc + 1) ls (.int (zI (x % y)) :: rest))) : W p l e R s m args below meth c H locs cells slots Q (F0 m pc ls (.int (zI y) :: .int (zI x) :: rest)) := lv_irem hexec hb hdg (zI_ne h.2.2) (by rw [zI_rem h]; exact k)
theorem z_val {x y : Int} (h : x = y) (k : W p l e R s m args below meth c H locs cells slots Q (F0 m pc ls (.int (zI y) :: rest))) : W p l e R s m args below meth c H locs cells slots Q (F0 m pc ls (.int (zI x) :: rest)) := by rw [h]; exact k
theorem z_raw {x y : Int32} (h : x = y) (k : W p l e R s m args below meth c H locs cells slots Q (F0 m pc ls (.int y :: rest))) : W p l e R s m args below meth c H locs cells slots Q (F0 m pc ls (.int x :: rest)) := by rw [h]; exact k
theorem z_top {v w : Value} (h : v = w) (k : W p l e R s m args below meth c H locs cells slots Q (F0 m pc ls (w :: rest))) : W p l e R s m args below meth c H locs cells slots Q (F0 m pc ls (v :: rest)) := by rw [h]; exact k
theorem z_icmp_eq (hexec : p.tables.exec = Jvm.exec) (hb : c.code = cc) {x y : Int} {off : Int} {tgt : Nat} (h : -2147483648 ≤ x ∧ x ≤ 2147483647 ∧ -2147483648 ≤ y ∧ y ≤ 2147483647) (hdg : decode cc pc = .ok (.if_icmp .eq off, 3)) (ht : (pc : Int) + off = (tgt : Int))
    (kt : x = y → W p l e R s m args below meth c H locs cells slots Q (F0 m tgt ls rest)) (kf : ¬ x = y → W p l e R s m args below meth c H locs cells slots Q (F0 m (pc + 3) ls rest)) : W p l e R s m args below meth c H locs cells slots Q (F0 m pc ls (.int (zI y) :: .int (zI x) :: rest)) := lv_icmp_eq hexec hb hdg ht (fun q => kt ((zI_eq h).mp q)) (fun q => kf (fun r => q ((zI_eq h).mpr r)))
theorem z_if_eq (hexec : p.tables.exec = Jvm.exec) (hb : c.code = cc) {x : Int} {off : Int} {tgt : Nat} (h : -2147483648 ≤ x ∧ x ≤ 2147483647) (hdg : decode cc pc = .ok (.ifCond .eq off, 3)) (ht : (pc : Int) + off = (tgt : Int))
    (kt : x = 0 → W p l e R s m args below meth c H locs cells slots Q (F0 m tgt ls rest)) (kf : ¬ x = 0 → W p l e R s m args below meth c H locs cells slots Q (F0 m (pc + 3) ls rest)) : W p l e R s m args below meth c H locs cells slots Q (F0 m pc ls (.int (zI x) :: rest)) := lv_if_eq hexec hb hdg ht (fun q => kt ((zI_eq (a := x) (b := 0) ⟨h.1, h.2, by omega, by omega⟩).mp q)) (fun q => kf (fun r => q ((zI_eq (a := x) (b := 0) ⟨h.1, h.2, by omega, by omega⟩).mpr r)))
theorem z_icmp_ne (hexec : p.tables.exec = Jvm.exec) (hb : c.code = cc) {x y : Int} {off : Int} {tgt : Nat} (h : -2147483648 ≤ x ∧ x ≤ 2147483647 ∧ -2147483648 ≤ y ∧ y ≤ 2147483647) (hdg : decode cc pc = .ok (.if_icmp .ne off, 3)) (ht : (pc : Int) + off = (tgt : Int))
    (kt : ¬ x = y → W p l e R s m args below meth c H locs cells slots Q (F0 m tgt ls rest)) (kf : x = y → W p l e R s m args below meth c H locs cells slots Q (F0 m (pc + 3) ls rest)) : W p l e R s m args below meth c H locs cells slots Q (F0 m pc ls (.int (zI y) :: .int (zI x) :: rest)) := lv_icmp_ne hexec hb hdg ht (fun q => kt (fun r => q ((zI_eq h).mpr r))) (fun q => kf ((zI_eq h).mp q))
theorem z_if_ne (hexec : p.tables.exec = Jvm.exec) (hb : c.code = cc) {x : Int} {off : Int} {tgt : Nat} (h : -2147483648 ≤ x ∧ x ≤ 2147483647) (hdg : decode cc pc = .ok (.ifCond .ne off, 3)) (ht : (pc : Int) + off = (tgt : Int))
    (kt : ¬ x = 0 → W p l e R s m args below meth c H locs cells slots Q (F0 m tgt ls rest)) (kf : x = 0 → W p l e R s m args below meth c H locs cells slots Q (F0 m (pc + 3) ls rest)) : W p l e R s m args below meth c H locs cells slots Q (F0 m pc ls (.int (zI x) :: rest)) := lv_if_ne hexec hb hdg ht (fun q => kt (fun r => q ((zI_eq (a := x) (b := 0) ⟨h.1, h.2, by omega, by omega⟩).mpr r))) (fun q => kf ((zI_eq (a := x) (b := 0) ⟨h.1, h.2, by omega, by omega⟩).mp q))
theorem z_icmp_lt (hexec : p.tables.exec = Jvm.exec) (hb : c.code = cc) {x y : Int} {off : Int} {tgt : Nat} (h : -2147483648 ≤ x ∧ x ≤ 2147483647 ∧ -2147483648 ≤ y ∧ y ≤ 2147483647) (hdg : decode cc pc = .ok (.if_icmp .lt off, 3)) (ht : (pc : Int) + off = (tgt : Int))
    (kt : x < y → W p l e R s m args below meth c H locs cells slots Q (F0 m tgt ls rest)) (kf : ¬ x < y → W p l e R s m args below meth c H locs cells slots Q (F0 m (pc + 3) ls rest)) : W p l e R s m args below meth c H locs cells slots Q (F0 m pc ls (.int (zI y) :: .int (zI x) :: rest)) := lv_icmp_lt hexec hb hdg ht (fun q => kt ((zI_lt h).mp q)) (fun q => kf (fun r => q ((zI_lt h).mpr r)))
theorem z_if_lt (hexec : p.tables.exec = Jvm.exec) (hb : c.code = cc) {x : Int} {off : Int} {tgt : Nat} (h : -2147483648 ≤ x ∧ x ≤ 2147483647) (hdg : decode cc pc = .ok (.ifCond .lt off, 3)) (ht : (pc : Int) + off = (tgt : Int))
    (kt : x < 0 → W p l e R s m args below meth c H locs cells slots Q (F0 m tgt ls rest)) (kf : ¬ x < 0 → W p l e R s m args below meth c H locs cells slots Q (F0 m (pc + 3) ls rest)) : W p l e R s m args below meth c H locs cells slots Q (F0 m pc ls (.int (zI x) :: rest)) := lv_if_lt hexec hb hdg ht (fun q => kt ((zI_lt (a := x) (b := 0) ⟨h.1, h.2, by omega, by omega⟩).mp q)) (fun q => kf (fun r => q ((zI_lt (a := x) (b := 0) ⟨h.1, h.2, by omega, by omega⟩).mpr r)))
theorem z_icmp_ge (hexec : p.tables.exec = Jvm.exec) (hb : c.code = cc) {x y : Int} {off : Int} {tgt : Nat} (h : -2147483648 ≤ x ∧ x ≤ 2147483647 ∧ -2147483648 ≤ y ∧ y ≤ 2147483647) (hdg : decode cc pc = .ok (.if_icmp .ge off, 3)) (ht : (pc : Int) + off = (tgt : Int))
    (kt : y ≤ x → W p l e R s m args below meth c H locs cells slots Q (F0 m tgt ls rest)) (kf : ¬ y ≤ x → W p l e R s m args below meth c H locs cells slots Q (F0 m (pc + 3) ls rest)) : W p l e R s m args below meth c H locs cells slots Q (F0 m pc ls (.int (zI y) :: .int (zI x) :: rest)) := lv_icmp_ge hexec hb hdg ht (fun q => kt ((zI_le ⟨h.2.2.1, h.2.2.2, h.1, h.2.1⟩).mp q)) (fun q => kf (fun r => q ((zI_le ⟨h.2.2.1, h.2.2.2, h.1, h.2.1⟩).mpr r)))
theorem z_if_ge (hexec : p.tables.exec = Jvm.exec) (hb : c.code = cc) {x : Int} {off : Int} {tgt : Nat} (h : -2147483648 ≤ x ∧ x ≤ 2147483647) (hdg : decode cc pc = .ok (.ifCond .ge off, 3)) (ht : (pc : Int) + off = (tgt : Int))
    (kt : 0 ≤ x → W p l e R s m args below meth c H locs cells slots Q (F0 m tgt ls rest)) (kf : ¬ 0 ≤ x → W p l e R s m args below meth c H locs cells slots Q (F0 m (pc + 3) ls rest)) : W p l e R s m args below meth c H locs cells slots Q (F0 m pc ls (.int (zI x) :: rest)) := lv_if_ge hexec hb hdg ht (fun q => kt ((zI_le (a := 0) (b := x) ⟨by omega, by omega, h.1, h.2⟩).mp q)) (fun q => kf (fun r => q ((zI_le (a := 0) (b := x) ⟨by omega, by omega, h.1, h.2⟩).mpr r)))
theorem z_icmp_gt (hexec : p.tables.exec = Jvm.exec) (hb : c.code = cc) {x y : Int} {off : Int} {tgt : Nat} (h : -2147483648 ≤ x ∧ x ≤ 2147483647 ∧ -2147483648 ≤ y ∧ y ≤ 2147483647) (hdg : decode cc pc = .ok (.if_icmp .gt off, 3)) (ht : (pc : Int) + off = (tgt : Int))
    (kt : y < x → W p l e R s m args below meth c H locs cells slots Q (F0 m tgt ls rest)) (kf : ¬ y < x → W p l e R s m args below meth c H locs cells slots Q (F0 m (pc + 3) ls rest)) : W p l e R s m args below meth c H locs cells slots Q (F0 m pc ls (.int (zI y) :: .int (zI x) :: rest)) := lv_icmp_gt hexec hb hdg ht (fun q => kt ((zI_lt ⟨h.2.2.1, h.2.2.2, h.1, h.2.1⟩).mp q)) (fun q => kf (fun r => q ((zI_lt ⟨h.2.2.1, h.2.2.2, h.1, h.2.1⟩).mpr r)))
theorem z_if_gt (hexec : p.tables.exec = Jvm.exec) (hb : c.code = cc) {x : Int} {off : Int} {tgt : Nat} (h : -2147483648 ≤ x ∧ x ≤ 2147483647) (hdg : decode cc pc = .ok (.ifCond .gt off, 3)) (ht : (pc : Int) + off = (tgt : Int))
    (kt : 0 < x → W p l e R s m args below meth c H locs cells slots Q (F0 m tgt ls rest)) (kf : ¬ 0 < x → W p l e R s m args below meth c H locs cells slots Q (F0 m (pc + 3) ls rest)) : W p l e R s m args below meth c H locs cells slots Q (F0 m pc ls (.int (zI x) :: rest)) := lv_if_gt hexec hb hdg ht (fun q => kt ((zI_lt (a := 0) (b := x) ⟨by omega, by omega, h.1, h.2⟩).mp q)) (fun q => kf (fun r => q ((zI_lt (a := 0) (b := x) ⟨by omega, by omega, h.1, h.2⟩).mpr r)))
theorem z_icmp_le (hexec : p.tables.exec = Jvm.exec) (hb : c.code = cc) {x y : Int} {off : Int} {tgt : Nat} (h : -2147483648 ≤ x ∧ x ≤ 2147483647 ∧ -2147483648 ≤ y ∧ y ≤ 2147483647) (hdg : decode cc pc = .ok (.if_icmp .le off, 3)) (ht : (pc : Int) + off = (tgt : Int))
    (kt : x ≤ y → W p l e R s m args below meth c H locs cells slots Q (F0 m tgt ls rest)) (kf : ¬ x ≤ y → W p l e R s m args below meth c H locs cells slots Q (F0 m (pc + 3) ls rest)) : W p l e R s m args below meth c H locs cells slots Q (F0 m pc ls (.int (zI y) :: .int (zI x) :: rest)) := lv_icmp_le hexec hb hdg ht (fun q => kt ((zI_le h).mp q)) (fun q => kf (fun r => q ((zI_le h).mpr r)))
theorem z_if_le (hexec : p.tables.exec = Jvm.exec) (hb : c.code = cc) {x : Int} {off : Int} {tgt : Nat} (h : -2147483648 ≤ x ∧ x ≤ 2147483647) (hdg : decode cc pc = .ok (.ifCond .le off, 3)) (ht : (pc : Int) + off = (tgt : Int))
    (kt : x ≤ 0 → W p l e R s m args below meth c H locs cells slots Q (F0 m tgt ls rest)) (kf : ¬ x ≤ 0 → W p l e R s m args below meth c H locs cells slots Q (F0 m (pc + 3) ls rest)) : W p l e R s m args below meth c H locs cells slots Q (F0 m pc ls (.int (zI x) :: rest)) := lv_if_le hexec hb hdg ht (fun q => kt ((zI_le (a := x) (b := 0) ⟨h.1, h.2, by omega, by omega⟩).mp q)) (fun q => kf (fun r => q ((zI_le (a := x) (b := 0) ⟨h.1, h.2, by omega, by omega⟩).mpr r)))
theorem z_eqB (hexec : p.tables.exec = Jvm.exec) (hb : c.code = cc) {P : Prop} {off : Int} {tgt : Nat} (hdg : decode cc pc = .ok (.ifCond .eq off, 3)) (ht : (pc : Int) + off = (tgt : Int))
    (kt : ¬ P → W p l e R s m args below meth c H locs cells slots Q (F0 m tgt ls rest)) (kf : P → W p l e R s m args below meth c H locs cells slots Q (F0 m (pc + 3) ls rest)) : W p l e R s m args below meth c H locs cells slots Q (F0 m pc ls (.int (zB P) :: rest)) := lv_if_eq hexec hb hdg ht (fun q => kt (fun h => by rw [zB_t h] at q; exact absurd q (by decide))) (fun q => kf (Classical.byContradiction fun h => q (zB_f h)))
theorem z_neB (hexec : p.tables.exec = Jvm.exec) (hb : c.code = cc) {P : Prop} {off : Int} {tgt : Nat} (hdg : decode cc pc = .ok (.ifCond .ne off, 3)) (ht : (pc : Int) + off = (tgt : Int))
    (kt : P → W p l e R s m args below meth c H locs cells slots Q (F0 m tgt ls rest)) (kf : ¬ P → W p l e R s m args below meth c H locs cells slots Q (F0 m (pc + 3) ls rest)) : W p l e R s m args below meth c H locs cells slots Q (F0 m pc ls (.int (zB P) :: rest)) := lv_if_ne hexec hb hdg ht (fun q => kt (Classical.byContradiction fun h => q (zB_f h))) (fun q => kf (fun h => by rw [zB_t h] at q; exact absurd q (by decide)))
end ZR
/-! ===== what a method is called with and what it leaves ===== -/
/-- the arrays' classes -/
abbrev zTy (G : Nat → ClassId) : List (ClassId × FieldType) := [(G 0, .int), (G 1, .boolean), (G 2, .long), (G 3, .double), (G 4, .object "PolyDrums$Track"), (G 5, .object "PolyDrums$Section")]
/-- links to members of nest mates: methods, fields -/
def zNM : List (String × Nat × MethodName) := [(RX1, 48, yX2_read), (RX1, 52, yX2_write), (RX1, 60, yX2_rest), (RX1, 92, yX2_quotient), (RX1, 99, yX2_leastCommonMultiple), (RX1, 106, yX2_mix),
  (RX2, 166, yX1_roundTicks), (RX2, 163, yX1_roundsOfTurns), (RX2, 190, yX1_mixInto), (RX2, 46, yX1_init), (RX2, 53, yX1_cell), (RX2, 57, yX1_putCell), (RX2, 64, yX1_delay), (RX2, 72, yX1_setting), (RX2, 87, yX1_switchTo), (RX2, 94, yX1_spreadHits),
  (RX2, 97, yX1_moveSteps), (RX2, 101, yX1_stepsWithForce), (RX2, 105, yX1_resize), (RX2, 112, yX1_nearestStep), (RX2, 120, yX0_init), (RX2, 240, yX1_forceAt), (RX2, 177, yX1_strokesPerRound)]
def zNF : List (Nat × String × String × String) := [(75, RX1, "stepTicks", "I"), (91, RX1, "steps", "I"), (78, RX1, "swing", "I"), (81, RX1, "ring", "I"), (84, RX1, "group", "I"), (226, RX1, "isMuted", "Z"), (223, RX1, "isSolo", "Z"), (243, RX1, "isAccent", "Z"), (220, RX0, "begin", "I"), (198, RX0, "length", "I"), (201, RX0, "set", "I"), (204, RX0, "isNew", "Z")]
def zIA : String := "java/lang/IllegalArgumentException"
def zIS : String := "java/lang/IllegalStateException"
def zIO : String := "java/lang/IndexOutOfBoundsException"
def zSt : List (Nat × String) := [(210, "an argument is beyond its limits"), (41, "there are 8 tracks"), (218, "there is no such track"), (215, "there is no such thing"), (115, "there are 12 sections"), (123, "there is no section")]
/-- what the tables say beyond a method's own words -/
def zN (U : State) : Prop := (∀ q ∈ zNM, va_Nw (.methodLinkNest q.1 q.2.1 q.2.2 RX2) U) ∧ (∀ q ∈ zNF, va_Nw (.fieldLinkNest RX2 q.1 q.2.1 q.2.2.1 q.2.2.2 RX2) U) ∧ (∀ E ∈ [zIA, zIS, zIO], va_Nw (.castable E E) U) ∧ (∀ q ∈ [(zIS, zIA), (zIA, zIO)], va_Nc q.1 q.2 U) ∧ ∃ sa : Nat → Nat, ∀ q ∈ zSt, vk_R RX2 q.1 q.2 (sa q.1) U
theorem zN.warm {s U : State} (hW : s.WarmedH U.vm) (h : zN s) : zN U := by
  obtain ⟨h1, h2, h3, h4, sa, h5⟩ := h
  exact ⟨fun q hq => va_Nw.warmM hW (h1 q hq), fun q hq => va_Nw.warmF hW (h2 q hq), fun E hE => va_Nw.warmC hW (h3 E hE), fun q hq => va_Nc.moved hW.alike (h4 q hq), sa, fun q hq => vk_R.warm hW (h5 q hq)⟩
theorem zN.same {u U : State} (hv : u.vm = U.vm) (h : zN u) : zN U := by
  obtain ⟨h1, h2, h3, h4, sa, h5⟩ := h
  refine ⟨fun q hq => va_Nw.same rfl hv (h1 q hq), fun q hq => va_Nw.same rfl hv (h2 q hq), fun E hE => va_Nw.same rfl hv (h3 E hE), fun q hq => va_Nc.moved ?_ (h4 q hq), sa, fun q hq => vk_R.same hv.symm (h5 q hq)⟩
  rw [hv]; exact Vm.Alike.refl U.vm
/-- the two static fields that a throw reads -/
def zT (U : State) (H : Heap) : Prop := vx_Zq Bundle.tN "UNASSIGNED_STACK" Bundle.steD (fun _ => False) U H ∧ vx_Zq Bundle.tN "SUPPRESSED_SENTINEL" Bundle.listD (fun _ => False) U H
theorem zT.moved {u U : State} {H : Heap} (hvm : u.vm.Alike U.vm) (h : zT u H) : zT U H := ⟨vx_Zq.moved hvm h.1, vx_Zq.moved hvm h.2⟩
/-- a start: these arguments, this of the heap, the tables -/
def zP (av : List Value) (D : va_G) (G : Nat → ClassId) (P : Heap → Prop) : Array Value → State → Prop := fun v U => v = av.toArray ∧ P U.heap ∧ va_K D vwCl (zTy G) U ∧ zN U
theorem zP_blind {av : List Value} {D : va_G} {G : Nat → ClassId} {P : Heap → Prop} : FrameBlind (zP av D G P) := fun a U g mk q => ⟨q.1, q.2.1, va_K.moved (u := U) (U := U.calling g mk a) (Vm.Alike.refl U.vm) q.2.2.1, zN.same (u := U) (U := U.calling g mk a) rfl q.2.2.2⟩
theorem zPreS {s : State} {H : Heap} {As : List Value} {D : va_G} {G : Nat → ClassId} {P : Heap → Prop} (hK : va_K D vwCl (zTy G) s) (hN : zN s) (h : P H) : PreS s H (zP As D G P) As :=
  ⟨zP_blind, fun U hU hW => ⟨rfl, by rw [hU]; exact h, va_K.moved hW.alike hK, zN.warm hW hN⟩⟩
theorem zPreV {s : State} {H : Heap} {As : List Value} {D : va_G} {G : Nat → ClassId} {P : Heap → Prop} {C : String} {b : Addr} (hr : ∃ cell : Cell, H[b]? = some cell ∧ cell.vm.isStatics = false ∧ s.vm.findClass C = some cell.cls) (hK : va_K D vwCl (zTy G) s) (hN : zN s) (h : P H) : PreV s H C b (zP (.ref b :: As) D G P) As :=
  ⟨zP_blind, hr, fun U hU hW => ⟨rfl, by rw [hU]; exact h, va_K.moved hW.alike hK, zN.warm hW hN⟩⟩
/-- a start of what may throw -/
def zPT (av : List Value) (D : va_G) (G : Nat → ClassId) (P : Heap → Prop) : Array Value → State → Prop := fun v U => v = av.toArray ∧ P U.heap ∧ va_K D vwCl (zTy G) U ∧ zN U ∧ zT U U.heap
theorem zPT_blind {av : List Value} {D : va_G} {G : Nat → ClassId} {P : Heap → Prop} : FrameBlind (zPT av D G P) := fun a U g mk q => ⟨q.1, q.2.1, va_K.moved (u := U) (U := U.calling g mk a) (Vm.Alike.refl U.vm) q.2.2.1, zN.same (u := U) (U := U.calling g mk a) rfl q.2.2.2.1, zT.moved (u := U) (U := U.calling g mk a) (Vm.Alike.refl U.vm) q.2.2.2.2⟩
theorem zPTreS {s : State} {H : Heap} {As : List Value} {D : va_G} {G : Nat → ClassId} {P : Heap → Prop} (hK : va_K D vwCl (zTy G) s) (hN : zN s) (hT : zT s H) (h : P H) : PreS s H (zPT As D G P) As :=
  ⟨zPT_blind, fun U hU hW => ⟨rfl, by rw [hU]; exact h, va_K.moved hW.alike hK, zN.warm hW hN, by rw [hU]; exact zT.moved hW.alike hT⟩⟩
theorem zPTreV {s : State} {H : Heap} {As : List Value} {D : va_G} {G : Nat → ClassId} {P : Heap → Prop} {C : String} {b : Addr} (hr : ∃ cell : Cell, H[b]? = some cell ∧ cell.vm.isStatics = false ∧ s.vm.findClass C = some cell.cls) (hK : va_K D vwCl (zTy G) s) (hN : zN s) (hT : zT s H) (h : P H) : PreV s H C b (zPT (.ref b :: As) D G P) As :=
  ⟨zPT_blind, hr, fun U hU hW => ⟨rfl, by rw [hU]; exact h, va_K.moved hW.alike hK, zN.warm hW hN, by rw [hU]; exact zT.moved hW.alike hT⟩⟩
/-- an answer, the heap as it was -/
def zQ (v : Option Value) : Array Value → State → Outcome → State → Prop := fun _ st o t => o = .returned v ∧ t.heap = st.heap
/-- an answer under a condition, the heap as it was -/
def zQc (v : Option Value) (P0 : Prop) : Array Value → State → Outcome → State → Prop := fun _ st o t => o = .returned v ∧ P0 ∧ t.heap = st.heap
/-- an answer, and what is then in the heap; only what A names has changed -/
def zM (v : Option Value) (P : Heap → Prop) (A : Nat → Prop) : Array Value → State → Outcome → State → Prop := fun _ st o t => (o = .returned v ∧ P t.heap) ∧ va_F A st t
def zMc (v : Option Value) (P0 : Prop) (P : Heap → Prop) (A : Nat → Prop) : Array Value → State → Outcome → State → Prop := fun _ st o t => (o = .returned v ∧ P0 ∧ P t.heap) ∧ va_F A st t
/-- a throw: the class, the heap as it was but for what is new -/
def zX (co : String → Prop) : String → State → State → Prop := fun E st t => co E ∧ va_F (fun _ => False) st t
section ZC
variable {p : Program} {l : Launch} {e : Env} {R : Room} {s : State} {m : MethodId} {args : Array Value} {below : List Frame} {meth : Method} {c : Code} {H : Heap} {locs : List Loc} {cells slots : Nat} {Q : State → Prop}
variable {mc ms : Nat} {free : Addr → Prop} {A0 A1 : Nat → Prop} {H0 : Heap} {a : Array Value} {pc : Nat} {ls : Array Slot} {st0 rest : List Value}
theorem z_call {v : Option Value} (hr : va_Run p l e R s m args below meth c H locs cells slots 0 0 (F0 m pc ls st0) rest (zQ v a) (fun _ => False))
    (k : W p l e R s m args below meth c H locs cells slots Q (F0 m (pc + 3) ls (v.toList ++ rest))) : W p l e R s m args below meth c H locs cells slots Q (F0 m pc ls st0) := by
  intro T hT X
  obtain ⟨v', st₀, t, T', L, h0, X', hL, e1, e2, ⟨ho, hh⟩, st⟩ := hr T hT X
  cases ho
  have hL0 : L = [] := List.eq_nil_iff_forall_not_mem.mpr hL
  subst hL0
  rw [List.append_nil] at X'
  obtain ⟨t2, a1, b1⟩ := k T' (by rw [e1, hh, h0]) X'
  exact ⟨t2, st t2 a1, b1⟩
theorem z_callM {v : Option Value} {P : Heap → Prop} (hr : va_Run p l e R s m args below meth c H locs cells slots mc ms (F0 m pc ls st0) rest (zM v P A1 a) free) (hS : va_S A0 H0 H locs) (hA : ∀ q, q < H.size → A1 q → A0 q) (hf : ∀ q, free q → A0 q)
    (k : ∀ (H1 : Heap) (locs1 : List Loc), P H1 → H.size ≤ H1.size → (∀ q : Nat, q < H.size → ¬ A1 q → H1[q]? = H[q]?) → va_S A0 H0 H1 locs1 → W p l e R s m args below meth c H1 locs1 (cells + mc) (slots + ms) Q (F0 m (pc + 3) ls (v.toList ++ rest))) : W p l e R s m args below meth c H locs cells slots Q (F0 m pc ls st0) := by
  intro T hT X
  obtain ⟨v', st₀, t, T', L, h0, X', hL, e1, e2, ⟨⟨ho, hp⟩, hF⟩, st⟩ := hr T hT X
  cases ho
  obtain ⟨k1, k2, k3⟩ := vx_keep h0 e1 hS hA hf hL hF
  obtain ⟨t2, a1, b1⟩ := k T'.heap (locs ++ L) (by rw [e1]; exact hp) k1 k2 k3 T' rfl X'
  exact ⟨t2, st t2 a1, b1⟩
theorem z_callX {v : Option Value} {P0 : Prop} {co : String → Prop} (hr : vx_Run p l e R s m args below meth c H locs cells slots mc ms (F0 m pc ls st0) rest (zQc v P0 a) (zX co) (fun _ => False))
    (kx : ∀ (E : String) (ce : Cell) (q9 : Addr) (H1 : Heap), co E → H.size ≤ H1.size → (∀ q : Nat, q < H.size → H1[q]? = H[q]?) → H1[q9]? = some ce → ce.vm = .none → s.vm.findClass E = some ce.cls → vx_W p l e R s m args below meth c H1 locs (cells + mc) (slots + ms) Q (F0 m pc ls rest) q9)
    (k : P0 → W p l e R s m args below meth c H locs (cells + mc) (slots + ms) Q (F0 m (pc + 3) ls (v.toList ++ rest))) : W p l e R s m args below meth c H locs cells slots Q (F0 m pc ls st0) := by
  intro T hT X
  rcases hr T hT X with ⟨v', st₀, t, T', L, h0, X', hL, e1, e2, ⟨ho, hp, hh⟩, st⟩ | ⟨q, st₀, t, T', L, E, ce, h0, X', hL, e1, e2, ⟨hc, hF⟩, hce, hcv, hcl, st⟩
  · cases ho
    have hL0 : L = [] := List.eq_nil_iff_forall_not_mem.mpr hL
    subst hL0
    rw [List.append_nil] at X'
    obtain ⟨t2, a1, b1⟩ := k hp T' (by rw [e1, hh, h0]) X'
    exact ⟨t2, st t2 a1, b1⟩
  · have hL0 : L = [] := List.eq_nil_iff_forall_not_mem.mpr hL
    subst hL0
    rw [List.append_nil] at X'
    obtain ⟨hF1, hF2⟩ := hF
    rw [h0, ← e1] at hF1
    obtain ⟨t2, a1, b1⟩ := kx E ce q T'.heap hc hF1 (fun q hq => by rw [e1, ← h0]; exact hF2 q (by rw [h0]; exact hq) (fun h => h)) (by rw [e1]; exact hce) hcv hcl T' rfl X'
    exact ⟨t2, st.trans a1, b1⟩
theorem z_callXM {v : Option Value} {P0 : Prop} {P : Heap → Prop} {co : String → Prop} (hr : vx_Run p l e R s m args below meth c H locs cells slots mc ms (F0 m pc ls st0) rest (zMc v P0 P A1 a) (zX co) free) (hS : va_S A0 H0 H locs) (hA : ∀ q, q < H.size → A1 q → A0 q) (hf : ∀ q, free q → A0 q)
    (kx : ∀ (E : String) (ce : Cell) (q9 : Addr) (H1 : Heap) (locs1 : List Loc), co E → H.size ≤ H1.size → (∀ q : Nat, q < H.size → H1[q]? = H[q]?) → va_S A0 H0 H1 locs1 → H1[q9]? = some ce → ce.vm = .none → s.vm.findClass E = some ce.cls → vx_W p l e R s m args below meth c H1 locs1 (cells + mc) (slots + ms) Q (F0 m pc ls rest) q9)
    (k : ∀ (H1 : Heap) (locs1 : List Loc), P0 → P H1 → H.size ≤ H1.size → (∀ q : Nat, q < H.size → ¬ A1 q → H1[q]? = H[q]?) → va_S A0 H0 H1 locs1 → W p l e R s m args below meth c H1 locs1 (cells + mc) (slots + ms) Q (F0 m (pc + 3) ls (v.toList ++ rest))) : W p l e R s m args below meth c H locs cells slots Q (F0 m pc ls st0) := by
  intro T hT X
  rcases hr T hT X with ⟨v', st₀, t, T', L, h0, X', hL, e1, e2, ⟨⟨ho, hp0, hp⟩, hF⟩, st⟩ | ⟨q, st₀, t, T', L, E, ce, h0, X', hL, e1, e2, ⟨hc, hF⟩, hce, hcv, hcl, st⟩
  · cases ho
    obtain ⟨k1, k2, k3⟩ := vx_keep h0 e1 hS hA hf hL hF
    obtain ⟨t2, a1, b1⟩ := k T'.heap (locs ++ L) hp0 (by rw [e1]; exact hp) k1 k2 k3 T' rfl X'
    exact ⟨t2, st t2 a1, b1⟩
  · obtain ⟨k1, k2, k3⟩ := vx_keep h0 e1 hS (fun _ _ h => False.elim h) hf hL hF
    obtain ⟨t2, a1, b1⟩ := kx E ce q T'.heap (locs ++ L) hc k1 (fun q hq => k2 q hq (fun h => h)) k3 (by rw [e1]; exact hce) hcv hcl T' rfl X'
    exact ⟨t2, st.trans a1, b1⟩
/-- the ends, nothing written -/
theorem z_iret {cc : ByteArray} {x y : Int} (hexec : p.tables.exec = Jvm.exec) (hb : c.code = cc) (hr : meth.sig.returnType = some .int) (hlocks : meth.locks = false) (h : x = y) (hdg : decode cc pc = .ok (.ireturn, 1)) : W p l e R s m args below meth c s.heap [] cells slots (MQ below (zQ (some (.int (zI y)))) args s cells slots (fun _ => False)) (F0 m pc ls [.int (zI x)]) := by
  subst h
  exact W.iret hexec hb hr (fun t ht _ => ⟨rfl, ht⟩) (fun _ h => nomatch h) hdg hlocks
theorem z_vret {cc : ByteArray} (hexec : p.tables.exec = Jvm.exec) (hb : c.code = cc) (hr : meth.sig.returnType = none) (hlocks : meth.locks = false) (hdg : decode cc pc = .ok (.return_, 1)) : W p l e R s m args below meth c s.heap [] cells slots (MQ below (zQ none) args s cells slots (fun _ => False)) (F0 m pc ls []) := 
  W.vret hexec hb hr (fun t ht _ => ⟨rfl, ht⟩) (fun _ h => nomatch h) hdg hlocks
theorem z_lret {cc : ByteArray} {x y : Int64} (hexec : p.tables.exec = Jvm.exec) (hb : c.code = cc) (hr : meth.sig.returnType = some .long) (hlocks : meth.locks = false) (h : x = y) (hdg : decode cc pc = .ok (.lreturn, 1)) : W p l e R s m args below meth c s.heap [] cells slots (MQ below (zQ (some (.long y))) args s cells slots (fun _ => False)) (F0 m pc ls [.long x]) := by
  subst h
  exact W.lret hexec hb hr (fun t ht _ => ⟨rfl, ht⟩) (fun _ h => nomatch h) hdg hlocks
theorem z_aret {cc : ByteArray} {x y : Option Nat} {C : String} (hexec : p.tables.exec = Jvm.exec) (hb : c.code = cc) (hr : meth.sig.returnType = some (.object C)) (hlocks : meth.locks = false) (h : x = y) (hdg : decode cc pc = .ok (.areturn, 1)) : W p l e R s m args below meth c s.heap [] cells slots (MQ below (zQ (some (va_rf y))) args s cells slots (fun _ => False)) (F0 m pc ls [va_rf x]) := by
  subst h
  exact W.aret hexec hb hr (Or.inl ⟨_, rfl⟩) (by cases x <;> simp [va_rf]) (fun t ht _ => ⟨rfl, ht⟩) (fun _ h => nomatch h) hdg hlocks
theorem z_zret {cc : ByteArray} {P P' : Prop} (hexec : p.tables.exec = Jvm.exec) (hb : c.code = cc) (hr : meth.sig.returnType = some .boolean) (hlocks : meth.locks = false) (h : P' ↔ P) (hdg : decode cc pc = .ok (.ireturn, 1)) : W p l e R s m args below meth c s.heap [] cells slots (MQ below (zQ (some (.int (zB P)))) args s cells slots (fun _ => False)) (F0 m pc ls [.int (zB P')]) := by
  rw [zB_iff h]
  refine W.zret hexec hb hr ?_ (fun t ht _ => ⟨rfl, ht⟩) (fun _ h => nomatch h) hdg hlocks
  by_cases q : P
  · rw [zB_t q]; rfl
  · rw [zB_f q]; rfl
theorem z_zretT {cc : ByteArray} {P : Prop} (hexec : p.tables.exec = Jvm.exec) (hb : c.code = cc) (hr : meth.sig.returnType = some .boolean) (hlocks : meth.locks = false) (h : P) (hdg : decode cc pc = .ok (.ireturn, 1)) : W p l e R s m args below meth c s.heap [] cells slots (MQ below (zQ (some (.int (zB P)))) args s cells slots (fun _ => False)) (F0 m pc ls [.int (zI 1)]) := by
  have e1 : zI 1 = zB P := by rw [zB_t h]; rfl
  rw [e1]
  exact z_zret hexec hb hr hlocks Iff.rfl hdg
theorem z_zretF {cc : ByteArray} {P : Prop} (hexec : p.tables.exec = Jvm.exec) (hb : c.code = cc) (hr : meth.sig.returnType = some .boolean) (hlocks : meth.locks = false) (h : ¬ P) (hdg : decode cc pc = .ok (.ireturn, 1)) : W p l e R s m args below meth c s.heap [] cells slots (MQ below (zQ (some (.int (zB P)))) args s cells slots (fun _ => False)) (F0 m pc ls [.int (zI 0)]) := by
  have e1 : zI 0 = zB P := by rw [zB_f h]; rfl
  rw [e1]
  exact z_zret hexec hb hr hlocks Iff.rfl hdg
end ZC
end
section
theorem zB_nar {P : Prop} : narrow .boolean (.int (zB P)) = .int (zB P) := by
  by_cases q : P
  · rw [zB_t q]; rfl
  · rw [zB_f q]; rfl
theorem zB_fit {P : Prop} : fits .boolean (.int (zB P)) = true := by
  by_cases q : P
  · rw [zB_t q]; rfl
  · rw [zB_f q]; rfl
theorem zB_vnar {P : Prop} : vp_nar .boolean (zB P) = zB P := by
  unfold vp_nar
  rw [zB_nar]
theorem zI_b {x : Int} (h : x = 0 ∨ x = 1) : zI x = zB (x = 1) := by
  rcases h with h | h
  · rw [zB_f (by omega), h]; rfl
  · rw [zB_t h, h]; rfl
theorem zB_i (P : Prop) [inst : Decidable P] : zB P = zI (if P then 1 else 0) := by
  by_cases h : P
  · rw [zB_t h, if_pos h]; rfl
  · rw [zB_f h, if_neg h]; rfl
section ZA
variable {p : Program} {l : Launch} {e : Env} {R : Room} {s : State} {m : MethodId} {args : Array Value} {below : List Frame} {meth : Method} {c : Code} {H : Heap} {locs : List Loc} {cells slots : Nat} {Q : State → Prop}
variable {cc : ByteArray} {pc : Nat} {ls : Array Slot} {rest : List Value} {D : va_G} {cl : List vw_C} {A : Nat → Prop} {a : Nat} {tys : List (ClassId × FieldType)} {ws : va_W} {H0 : Heap}
theorem z_entry {vs : List Value} {n : Nat} {lst : List (Nat × Value)} (hav : args = vs.toArray) (hn : (lg_sl vs).length ≤ n) (hlst : lv_args 0 vs = lst) (k : ∀ ls : Array Slot, lv_has ls n lst → W p l e R s m args below meth c H locs cells slots Q (F0 m 0 ls [])) : W p l e R s m args below meth c H locs cells slots Q (entryFrame m args n) := by
  refine W.eq (g2 := F0 m 0 ((lg_sl vs ++ List.replicate (n - (lg_sl vs).length) Slot.unset).toArray) []) (by rw [hav]; exact lg_entry_eq m vs n) ?_
  refine k _ ?_
  rw [← hlst]
  exact lv_entry vs hn
theorem z_iald (hexec : p.tables.exec = Jvm.exec) (hb : c.code = cc) (hK : va_K D cl tys s) (hP : va_P D cl ws H) (q0 t0 : Nat) {cA : ClassId} {n : Nat} {f : Nat → Int32} (ha : ws[q0]? = some (a, .inl (cA, n, .inl f))) (ht : tys[t0]? = some (cA, .int)) {i : Int} {x : Int32} (hi : 0 ≤ i ∧ i < (n : Int)) (hn : n < 2147483648) (hv : f i.toNat = x) (hdg : decode cc pc = .ok (.iaload, 1))
    (kk : W p l e R s m args below meth c H locs cells slots Q (F0 m (pc + 1) ls (.int x :: rest))) : W p l e R s m args below meth c H locs cells slots Q (F0 m pc ls (.int (zI i) :: .ref a :: rest)) := by
  refine va_iald hexec hb hK hP q0 t0 ha ht (zI_in hi hn) hdg ?_
  rw [zI_clamp (by omega), hv]
  exact kk
theorem z_zald (hexec : p.tables.exec = Jvm.exec) (hb : c.code = cc) (hK : va_K D cl tys s) (hP : va_P D cl ws H) (q0 t0 : Nat) {cA : ClassId} {n : Nat} {f : Nat → Int32} (ha : ws[q0]? = some (a, .inl (cA, n, .inl f))) (ht : tys[t0]? = some (cA, .boolean)) {i : Int} {x : Int32} (hi : 0 ≤ i ∧ i < (n : Int)) (hn : n < 2147483648) (hv : f i.toNat = x) (hdg : decode cc pc = .ok (.baload, 1))
    (kk : W p l e R s m args below meth c H locs cells slots Q (F0 m (pc + 1) ls (.int x :: rest))) : W p l e R s m args below meth c H locs cells slots Q (F0 m pc ls (.int (zI i) :: .ref a :: rest)) := by
  refine va_zald hexec hb hK hP q0 t0 ha ht (zI_in hi hn) hdg ?_
  rw [zI_clamp (by omega), hv]
  exact kk
theorem z_lald (hexec : p.tables.exec = Jvm.exec) (hb : c.code = cc) (hK : va_K D cl tys s) (hP : va_P D cl ws H) (q0 t0 : Nat) {cA : ClassId} {n : Nat} {f : Nat → Int64} (ha : ws[q0]? = some (a, .inl (cA, n, .inr (.inl f)))) (ht : tys[t0]? = some (cA, .long)) {i : Int} {x : Int64} (hi : 0 ≤ i ∧ i < (n : Int)) (hn : n < 2147483648) (hv : f i.toNat = x) (hdg : decode cc pc = .ok (.laload, 1))
    (kk : W p l e R s m args below meth c H locs cells slots Q (F0 m (pc + 1) ls (.long x :: rest))) : W p l e R s m args below meth c H locs cells slots Q (F0 m pc ls (.int (zI i) :: .ref a :: rest)) := by
  refine va_lald hexec hb hK hP q0 t0 ha ht (zI_in hi hn) hdg ?_
  rw [zI_clamp (by omega), hv]
  exact kk
theorem z_dald (hexec : p.tables.exec = Jvm.exec) (hb : c.code = cc) (hK : va_K D cl tys s) (hP : va_P D cl ws H) (q0 t0 : Nat) {cA : ClassId} {n : Nat} {f : Nat → UInt64} (ha : ws[q0]? = some (a, .inl (cA, n, .inr (.inr (.inr (.inl f)))))) (ht : tys[t0]? = some (cA, .double)) {i : Int} {x : UInt64} (hi : 0 ≤ i ∧ i < (n : Int)) (hn : n < 2147483648) (hv : f i.toNat = x) (hdg : decode cc pc = .ok (.daload, 1))
    (kk : W p l e R s m args below meth c H locs cells slots Q (F0 m (pc + 1) ls (.double x :: rest))) : W p l e R s m args below meth c H locs cells slots Q (F0 m pc ls (.int (zI i) :: .ref a :: rest)) := by
  refine va_dald hexec hb hK hP q0 t0 ha ht (zI_in hi hn) hdg ?_
  rw [zI_clamp (by omega), hv]
  exact kk
theorem z_aldq (hexec : p.tables.exec = Jvm.exec) (hb : c.code = cc) (hK : va_K D cl tys s) (hP : va_P D cl ws H) (q0 t0 : Nat) {cA : ClassId} {n : Nat} {C : String} {f : Nat → Option Nat} (ha : ws[q0]? = some (a, .inl (cA, n, .inr (.inr (.inr (.inr f)))))) (ht : tys[t0]? = some (cA, .object C)) {i : Int} {x : Option Nat} (hi : 0 ≤ i ∧ i < (n : Int)) (hn : n < 2147483648) (hv : f i.toNat = x) (hdg : decode cc pc = .ok (.aaload, 1))
    (kk : W p l e R s m args below meth c H locs cells slots Q (F0 m (pc + 1) ls (va_rf x :: rest))) : W p l e R s m args below meth c H locs cells slots Q (F0 m pc ls (.int (zI i) :: .ref a :: rest)) := by
  refine va_aldq hexec hb hK hP q0 t0 ha ht (zI_in hi hn) hdg ?_
  rw [zI_clamp (by omega), hv]
  exact kk
theorem z_iast (hexec : p.tables.exec = Jvm.exec) (hb : c.code = cc) (hK : va_K D cl tys s) (hP : va_P D cl ws H) (hD : va_D A ws) (hS : va_S A H0 H locs) (q0 t0 : Nat) {cA : ClassId} {n : Nat} {f : Nat → Int32} (ha : ws[q0]? = some (a, .inl (cA, n, .inl f))) (ht : tys[t0]? = some (cA, .int)) {i : Int} {x : Int32} (hi : 0 ≤ i ∧ i < (n : Int)) (hn : n < 2147483648) (hdg : decode cc pc = .ok (.iastore, 1))
    (kk : ∀ (H1 : Heap) (locs1 : List Loc), va_P D cl (ws.set q0 (a, .inl (cA, n, .inl (upd f i.toNat x)))) H1 → va_D A (ws.set q0 (a, .inl (cA, n, .inl (upd f i.toNat x)))) → va_S A H0 H1 locs1 → W p l e R s m args below meth c H1 locs1 cells slots Q (F0 m (pc + 1) ls rest)) : W p l e R s m args below meth c H locs cells slots Q (F0 m pc ls (.int x :: .int (zI i) :: .ref a :: rest)) := by
  refine va_iast hexec hb hK hP hD hS q0 t0 ha ht (zI_in hi hn) hdg ?_
  rw [zI_clamp (by omega)]
  exact kk
theorem z_zast (hexec : p.tables.exec = Jvm.exec) (hb : c.code = cc) (hK : va_K D cl tys s) (hP : va_P D cl ws H) (hD : va_D A ws) (hS : va_S A H0 H locs) (q0 t0 : Nat) {cA : ClassId} {n : Nat} {f : Nat → Int32} (ha : ws[q0]? = some (a, .inl (cA, n, .inl f))) (ht : tys[t0]? = some (cA, .boolean)) {i : Int} {x : Int32} (hz : vp_nar .boolean x = x) (hi : 0 ≤ i ∧ i < (n : Int)) (hn : n < 2147483648) (hdg : decode cc pc = .ok (.bastore, 1))
    (kk : ∀ (H1 : Heap) (locs1 : List Loc), va_P D cl (ws.set q0 (a, .inl (cA, n, .inl (upd f i.toNat x)))) H1 → va_D A (ws.set q0 (a, .inl (cA, n, .inl (upd f i.toNat x)))) → va_S A H0 H1 locs1 → W p l e R s m args below meth c H1 locs1 cells slots Q (F0 m (pc + 1) ls rest)) : W p l e R s m args below meth c H locs cells slots Q (F0 m pc ls (.int x :: .int (zI i) :: .ref a :: rest)) := by
  refine va_zast hexec hb hK hP hD hS q0 t0 ha ht (zI_in hi hn) hdg ?_
  rw [zI_clamp (by omega), hz]
  exact kk
theorem z_last (hexec : p.tables.exec = Jvm.exec) (hb : c.code = cc) (hK : va_K D cl tys s) (hP : va_P D cl ws H) (hD : va_D A ws) (hS : va_S A H0 H locs) (q0 t0 : Nat) {cA : ClassId} {n : Nat} {f : Nat → Int64} (ha : ws[q0]? = some (a, .inl (cA, n, .inr (.inl f)))) (ht : tys[t0]? = some (cA, .long)) {i : Int} {x : Int64} (hi : 0 ≤ i ∧ i < (n : Int)) (hn : n < 2147483648) (hdg : decode cc pc = .ok (.lastore, 1))
    (kk : ∀ (H1 : Heap) (locs1 : List Loc), va_P D cl (ws.set q0 (a, .inl (cA, n, .inr (.inl (vp_updL f i.toNat x))))) H1 → va_D A (ws.set q0 (a, .inl (cA, n, .inr (.inl (vp_updL f i.toNat x))))) → va_S A H0 H1 locs1 → W p l e R s m args below meth c H1 locs1 cells slots Q (F0 m (pc + 1) ls rest)) : W p l e R s m args below meth c H locs cells slots Q (F0 m pc ls (.long x :: .int (zI i) :: .ref a :: rest)) := by
  refine va_last hexec hb hK hP hD hS q0 t0 ha ht (zI_in hi hn) hdg ?_
  rw [zI_clamp (by omega)]
  exact kk
theorem z_dast (hexec : p.tables.exec = Jvm.exec) (hb : c.code = cc) (hK : va_K D cl tys s) (hP : va_P D cl ws H) (hD : va_D A ws) (hS : va_S A H0 H locs) (q0 t0 : Nat) {cA : ClassId} {n : Nat} {f : Nat → UInt64} (ha : ws[q0]? = some (a, .inl (cA, n, .inr (.inr (.inr (.inl f)))))) (ht : tys[t0]? = some (cA, .double)) {i : Int} {x : UInt64} (hi : 0 ≤ i ∧ i < (n : Int)) (hn : n < 2147483648) (hdg : decode cc pc = .ok (.dastore, 1))
    (kk : ∀ (H1 : Heap) (locs1 : List Loc), va_P D cl (ws.set q0 (a, .inl (cA, n, .inr (.inr (.inr (.inl (vf_upd f i.toNat x))))))) H1 → va_D A (ws.set q0 (a, .inl (cA, n, .inr (.inr (.inr (.inl (vf_upd f i.toNat x))))))) → va_S A H0 H1 locs1 → W p l e R s m args below meth c H1 locs1 cells slots Q (F0 m (pc + 1) ls rest)) : W p l e R s m args below meth c H locs cells slots Q (F0 m pc ls (.double x :: .int (zI i) :: .ref a :: rest)) := by
  refine va_dast hexec hb hK hP hD hS q0 t0 ha ht (zI_in hi hn) hdg ?_
  rw [zI_clamp (by omega)]
  exact kk
theorem z_astqN (hexec : p.tables.exec = Jvm.exec) (hb : c.code = cc) (hK : va_K D cl tys s) (hP : va_P D cl ws H) (hD : va_D A ws) (hS : va_S A H0 H locs) (q0 t0 : Nat) {cA : ClassId} {n : Nat} {f : Nat → Option Nat} {C : String} (ha : ws[q0]? = some (a, .inl (cA, n, .inr (.inr (.inr (.inr f)))))) (ht : tys[t0]? = some (cA, .object C)) {i : Int} (hi : 0 ≤ i ∧ i < (n : Int)) (hn : n < 2147483648) (hdg : decode cc pc = .ok (.aastore, 1))
    (kk : ∀ (H1 : Heap) (locs1 : List Loc), va_P D cl (ws.set q0 (a, .inl (cA, n, .inr (.inr (.inr (.inr (va_up f i.toNat none))))))) H1 → va_D A (ws.set q0 (a, .inl (cA, n, .inr (.inr (.inr (.inr (va_up f i.toNat none))))))) → va_S A H0 H1 locs1 → W p l e R s m args below meth c H1 locs1 cells slots Q (F0 m (pc + 1) ls rest)) : W p l e R s m args below meth c H locs cells slots Q (F0 m pc ls (.null :: .int (zI i) :: .ref a :: rest)) := by
  refine va_astqN hexec hb hK hP hD hS q0 t0 ha ht (zI_in hi hn) hdg ?_
  rw [zI_clamp (by omega)]
  exact kk
theorem z_astq (hexec : p.tables.exec = Jvm.exec) (hb : c.code = cc) (hK : va_K D cl tys s) (hP : va_P D cl ws H) (hD : va_D A ws) (hS : va_S A H0 H locs) (q0 t0 : Nat) {cA : ClassId} {n : Nat} {f : Nat → Option Nat} (ha : ws[q0]? = some (a, .inl (cA, n, .inr (.inr (.inr (.inr f)))))) (qk ci : Nat) {r : vw_C} {v : Nat} {vs : List Value} (ht : tys[t0]? = some (cA, .object r.1)) (hv : ws[qk]? = some (v, .inr (ci, vs))) (hc : cl[ci]? = some r) {i : Int} (hi : 0 ≤ i ∧ i < (n : Int)) (hn : n < 2147483648) (hdg : decode cc pc = .ok (.aastore, 1))
    (kk : ∀ (H1 : Heap) (locs1 : List Loc), va_P D cl (ws.set q0 (a, .inl (cA, n, .inr (.inr (.inr (.inr (va_up f i.toNat (some v)))))))) H1 → va_D A (ws.set q0 (a, .inl (cA, n, .inr (.inr (.inr (.inr (va_up f i.toNat (some v)))))))) → va_S A H0 H1 locs1 → W p l e R s m args below meth c H1 locs1 cells slots Q (F0 m (pc + 1) ls rest)) : W p l e R s m args below meth c H locs cells slots Q (F0 m pc ls (.ref v :: .int (zI i) :: .ref a :: rest)) := by
  refine va_astq hexec hb hK hP hD hS q0 t0 qk ci ha ht hv hc (zI_in hi hn) hdg ?_
  rw [zI_clamp (by omega)]
  exact kk
theorem z_aload_n (hexec : p.tables.exec = Jvm.exec) (hb : c.code = cc) {k : Fin 4} {i : Nat} {o : Option Nat} (hdg : decode cc pc = .ok (.aload_n k, 1)) (hi : (k : Nat) = i) (hl : ls[i]? = some (.val (va_rf o))) (kk : W p l e R s m args below meth c H locs cells slots Q (F0 m (pc + 1) ls (va_rf o :: rest))) : W p l e R s m args below meth c H locs cells slots Q (F0 m pc ls rest) := by
  cases o with
  | none => exact lv_aload_nN hexec hb hdg hi hl kk
  | some x => exact lv_aload_n hexec hb hdg hi hl kk
theorem z_astore_n (hexec : p.tables.exec = Jvm.exec) (hb : c.code = cc) {k : Fin 4} {i nL : Nat} {o : Option Nat} {lv lv' : List (Nat × Value)} (hdg : decode cc pc = .ok (.astore_n k, 1)) (hi : (k : Nat) = i) (h : lv_has ls nL lv) (hn : i < nL) (hl : (i, va_rf o) :: lv.filter (fun q => !(q.1 == i) && !(q.1 + 1 == i && q.2.category == 2)) = lv') (kk : ∀ ls' : Array Slot, lv_has ls' nL lv' → W p l e R s m args below meth c H locs cells slots Q (F0 m (pc + 1) ls' rest)) : W p l e R s m args below meth c H locs cells slots Q (F0 m pc ls (va_rf o :: rest)) := by
  cases o with
  | none => exact lv_astore_nN hexec hb hdg hi h hn hl kk
  | some x => exact lv_astore_n hexec hb hdg hi h hn hl kk
theorem z_aload (hexec : p.tables.exec = Jvm.exec) (hb : c.code = cc) {i : Nat} {o : Option Nat} (hdg : decode cc pc = .ok (.aload i, 2)) (hl : ls[i]? = some (.val (va_rf o))) (kk : W p l e R s m args below meth c H locs cells slots Q (F0 m (pc + 2) ls (va_rf o :: rest))) : W p l e R s m args below meth c H locs cells slots Q (F0 m pc ls rest) := by
  cases o with
  | none => exact lv_aloadN hexec hb hdg hl kk
  | some x => exact lv_aload hexec hb hdg hl kk
theorem z_astore (hexec : p.tables.exec = Jvm.exec) (hb : c.code = cc) {i nL : Nat} {o : Option Nat} {lv lv' : List (Nat × Value)} (hdg : decode cc pc = .ok (.astore i, 2)) (h : lv_has ls nL lv) (hn : i < nL) (hl : (i, va_rf o) :: lv.filter (fun q => !(q.1 == i) && !(q.1 + 1 == i && q.2.category == 2)) = lv') (kk : ∀ ls' : Array Slot, lv_has ls' nL lv' → W p l e R s m args below meth c H locs cells slots Q (F0 m (pc + 2) ls' rest)) : W p l e R s m args below meth c H locs cells slots Q (F0 m pc ls (va_rf o :: rest)) := by
  cases o with
  | none => exact lv_astoreN hexec hb hdg h hn hl kk
  | some x => exact lv_astore hexec hb hdg h hn hl kk
end ZA
end
section
/-! ===== cells that a method may change, by a list of their addresses ===== -/
def zA (L : List Nat) : Nat → Prop := fun q => q ∈ L
theorem z_Dof {L : List Nat} {ws : va_W} (h : L.Nodup) (hw : ws.map Prod.fst = L) : va_D (zA L) ws := by
  subst hw
  refine ⟨fun i j p q hi hj e => ?_, fun k q hk => List.mem_map.mpr ⟨q, List.mem_of_getElem? hk, rfl⟩⟩
  have h1 : (ws.map Prod.fst)[i]? = some p.1 := by rw [List.getElem?_map, hi]; rfl
  have h2 : (ws.map Prod.fst)[j]? = some p.1 := by rw [List.getElem?_map, hj, e]; rfl
  obtain ⟨hi', -⟩ := List.getElem?_eq_some_iff.mp h1
  exact (List.getElem?_inj hi' h).mp (h1.trans h2.symm)
theorem z_merge {D : va_G} {cl : List vw_C} {ws w1 wr wn : va_W} {H H1 : Heap} {L : List Nat} (hP : va_P D cl ws H) (hk : ∀ q : Nat, q < H.size → ¬ zA L q → H1[q]? = H[q]?) (hP1 : va_P D cl w1 H1)
    (isR : List Nat) (hR : isR.filterMap (fun i => ws[i]?) = wr) (hdis : ∀ q ∈ wr.map Prod.fst, q ∉ L) (pm : List Nat) (hn : pm.filterMap (fun i => (w1 ++ wr)[i]?) = wn) : va_P D cl wn H1 := by
  have hr : va_P D cl wr H := hP.sub isR hR
  have hr1 : va_P D cl wr H1 := hr.kept (fun k q hq => hk _ (hr k q hq).lt (hdis _ (List.mem_map.mpr ⟨q, List.mem_of_getElem? hq, rfl⟩)))
  exact (hP1.app hr1).sub pm hn
section ZM
variable {p : Program} {l : Launch} {e : Env} {R : Room} {s : State} {m : MethodId} {args : Array Value} {below : List Frame} {meth : Method} {c : Code} {H : Heap} {locs : List Loc} {cells slots : Nat} {Q : State → Prop}
variable {pc : Nat} {ls : Array Slot} {cc : ByteArray} {P : Heap → Prop} {A : Nat → Prop}
theorem z_rret {x y : Int32} (hexec : p.tables.exec = Jvm.exec) (hb : c.code = cc) (hr : meth.sig.returnType = some .int) (hlocks : meth.locks = false) (h : x = y) (hdg : decode cc pc = .ok (.ireturn, 1)) : W p l e R s m args below meth c s.heap [] cells slots (MQ below (zQ (some (.int y))) args s cells slots (fun _ => False)) (F0 m pc ls [.int x]) := by
  subst h
  exact W.iret hexec hb hr (fun t ht _ => ⟨rfl, ht⟩) (fun _ h => nomatch h) hdg hlocks
/-- the ends of what writes -/
theorem zm_vret (hexec : p.tables.exec = Jvm.exec) (hb : c.code = cc) (hr : meth.sig.returnType = none) (hlocks : meth.locks = false) (hS : va_S A s.heap H locs) (h : P H) (hdg : decode cc pc = .ok (.return_, 1)) : W p l e R s m args below meth c H locs cells slots (MQ below (zM none P A) args s cells slots A) (F0 m pc ls []) :=
  W.vret hexec hb hr (fun t ht _ => ⟨⟨rfl, by rw [ht]; exact h⟩, hS.F ht⟩) hS.2.2 hdg hlocks
theorem zm_iret {x y : Int} (hexec : p.tables.exec = Jvm.exec) (hb : c.code = cc) (hr : meth.sig.returnType = some .int) (hlocks : meth.locks = false) (hS : va_S A s.heap H locs) (h : P H) (hv : x = y) (hdg : decode cc pc = .ok (.ireturn, 1)) : W p l e R s m args below meth c H locs cells slots (MQ below (zM (some (.int (zI y))) P A) args s cells slots A) (F0 m pc ls [.int (zI x)]) := by
  subst hv
  exact W.iret hexec hb hr (fun t ht _ => ⟨⟨rfl, by rw [ht]; exact h⟩, hS.F ht⟩) hS.2.2 hdg hlocks
theorem zm_zret {P1 P2 : Prop} (hexec : p.tables.exec = Jvm.exec) (hb : c.code = cc) (hr : meth.sig.returnType = some .boolean) (hlocks : meth.locks = false) (hS : va_S A s.heap H locs) (h : P H) (hv : P1 ↔ P2) (hdg : decode cc pc = .ok (.ireturn, 1)) : W p l e R s m args below meth c H locs cells slots (MQ below (zM (some (.int (zB P2))) P A) args s cells slots A) (F0 m pc ls [.int (zB P1)]) := by
  rw [zB_iff hv]
  exact W.zret hexec hb hr zB_nar (fun t ht _ => ⟨⟨rfl, by rw [ht]; exact h⟩, hS.F ht⟩) hS.2.2 hdg hlocks
theorem zm_lret {x y : Int64} (hexec : p.tables.exec = Jvm.exec) (hb : c.code = cc) (hr : meth.sig.returnType = some .long) (hlocks : meth.locks = false) (hS : va_S A s.heap H locs) (h : P H) (hv : x = y) (hdg : decode cc pc = .ok (.lreturn, 1)) : W p l e R s m args below meth c H locs cells slots (MQ below (zM (some (.long y)) P A) args s cells slots A) (F0 m pc ls [.long x]) := by
  subst hv
  exact W.lret hexec hb hr (fun t ht _ => ⟨⟨rfl, by rw [ht]; exact h⟩, hS.F ht⟩) hS.2.2 hdg hlocks
theorem z_min (hexec : p.tables.exec = Jvm.exec) (hb : c.code = cc) (hml : c.maxLocals = ls.size) {own : String} {index : Nat} {rest : List Value} {Q : State → Prop} (hown : s.vm.findClass own = some m.cls) (hlink : (Cond.methodLink own index Lib.Math.min.name).before args s = true) (hstat : (Cond.static Lib.Math.min.name).before args s = true) (hini : (Cond.initialized "java/lang/Math").before args s = true) (hcode : (Cond.code Lib.Math.min.name Lib.Math.min.code 2 (some .int)).before args s = true)
    (hframes : 1 ≤ R.frames) (hlocals : (rest.map fun v => v.category).sum + 13 ≤ R.locals) (hc : cells ≤ R.cells) (hs : slots ≤ R.slots) {x y : Int} (h : -2147483648 ≤ y ∧ y ≤ 2147483647 ∧ -2147483648 ≤ x ∧ x ≤ 2147483647) (hdg : decode cc pc = .ok (.invokestatic index, 3))
    (kk : W p l e R s m args below meth c H locs cells slots Q (F0 m (pc + 3) ls (.int (zI (if y < x then y else x)) :: rest))) : W p l e R s m args below meth c H locs cells slots Q (F0 m pc ls (.int (zI y) :: .int (zI x) :: rest)) := by
  refine va_mmin hexec hb hml hown hlink hstat hini hcode hframes hlocals hc hs hdg ?_
  have e1 : (if zI y < zI x then zI y else zI x) = zI (if y < x then y else x) := by
    by_cases q : y < x
    · rw [if_pos q, if_pos ((zI_lt h).mpr q)]
    · rw [if_neg q, if_neg (fun r => q ((zI_lt h).mp r))]
  rw [e1]
  exact kk
theorem z_abs (hexec : p.tables.exec = Jvm.exec) (hb : c.code = cc) (hml : c.maxLocals = ls.size) {own : String} {index : Nat} {rest : List Value} {Q : State → Prop} (hown : s.vm.findClass own = some m.cls) (hlink : (Cond.methodLink own index Lib.Math.abs.name).before args s = true) (hstat : (Cond.static Lib.Math.abs.name).before args s = true) (hini : (Cond.initialized "java/lang/Math").before args s = true) (hcode : (Cond.code Lib.Math.abs.name Lib.Math.abs.code 1 (some .int)).before args s = true)
    (hframes : 1 ≤ R.frames) (hlocals : (rest.map fun v => v.category).sum + 13 ≤ R.locals) (hc : cells ≤ R.cells) (hs : slots ≤ R.slots) {x : Int} (h : -2147483648 ≤ x ∧ x ≤ 2147483647) (hdg : decode cc pc = .ok (.invokestatic index, 3))
    (kk : W p l e R s m args below meth c H locs cells slots Q (F0 m (pc + 3) ls (.int (zI (if 0 ≤ x then x else 0 - x)) :: rest))) : W p l e R s m args below meth c H locs cells slots Q (F0 m pc ls (.int (zI x) :: rest)) := by
  refine va_mabs hexec hb hml hown hlink hstat hini hcode hframes hlocals hc hs hdg ?_
  have e1 : (if (0 : Int32) ≤ zI x then zI x else 0 - zI x) = zI (if 0 ≤ x then x else 0 - x) := by
    have e0 : (0 : Int32) = zI 0 := rfl
    have e2 := zI_le (a := 0) (b := x) ⟨by omega, by omega, h.1, h.2⟩
    by_cases q : 0 ≤ x
    · rw [if_pos q, if_pos (by rw [e0]; exact e2.mpr q)]
    · rw [if_neg q, if_neg (by rw [e0]; exact fun r => q (e2.mp r)), e0, zI_sub]
  rw [e1]
  exact kk
end ZM
end
section
/-! ===== the state, in whole numbers: a track is a row f: 0 its steps, 1 their ticks, 2 swing, 3 ring, 4 group, 5 muted, 6 solo, 7 accent, then four numbers a step ===== -/
def xC (f : Nat → Int) (s w : Int) : Int := f (8 + 4 * s + w).toNat
def xDelay (f : Nat → Int) (s : Int) : Int := if s % 2 = 1 then f 2 else 0
def TOK (f : Nat → Int) : Prop := 1 ≤ f 0 ∧ f 0 ≤ 32 ∧ 1 ≤ f 1 ∧ f 1 ≤ 48 ∧ 0 ≤ f 2 ∧ f 2 < f 1 ∧ 1 ≤ f 3 ∧ f 3 ≤ 200 ∧ 0 ≤ f 4 ∧ f 4 ≤ 3 ∧ (f 5 = 0 ∨ f 5 = 1) ∧ (f 6 = 0 ∨ f 6 = 1) ∧ (f 7 = 0 ∨ f 7 = 1) ∧
  ∀ s : Int, 0 ≤ s → s < f 0 → 0 ≤ xC f s 0 ∧ xC f s 0 ≤ 127 ∧ 1 ≤ xC f s 1 ∧ xC f s 1 ≤ 4 ∧ 0 ≤ xC f s 2 ∧ xC f s 2 < xC f s 3 ∧ xC f s 3 ≤ 8
/-- a row of cells holds a track's steps -/
def TR (f : Nat → Int) (c : Nat → Int32) : Prop := ∀ s w : Int, 0 ≤ s → s < f 0 → 0 ≤ w → w < 4 → c (4 * s + w).toNat = zI (xC f s w)
/-- a number's bit -/
def xBit (z k : Int) : Prop := z.toNat.testBit k.toNat = true
theorem x_sl : ∀ n, n < 32 → ((nI n &&& 31).toBitVec.smod 32).toNat = n := by decide
theorem xBit_shr {z k : Int} (hz : 0 ≤ z ∧ z ≤ 2147483647) (hk : 0 ≤ k ∧ k ≤ 31) : (zI z >>> (zI k &&& 31)) &&& zI 1 = zB (xBit z k) := by
  obtain ⟨n, rfl⟩ := Int.eq_ofNat_of_zero_le hz.1
  obtain ⟨j, rfl⟩ := Int.eq_ofNat_of_zero_le hk.1
  rw [← zI_nI, ← zI_nI]
  rw [pk_shrN (n := n) (by omega) (nI j &&& 31) j (x_sl j (by omega))]
  have h1 : n / 2 ^ j ≤ n := Nat.div_le_self _ _
  have h2 : nI (n / 2 ^ j) &&& zI 1 = nI (n / 2 ^ j % 2 ^ 1) := pk_andN (by omega) 1 (by decide)
  rw [h2]
  have h3 : xBit (n : Int) (j : Int) ↔ n / 2 ^ j % 2 = 1 := by
    unfold xBit
    rw [Int.toNat_natCast, Int.toNat_natCast, Nat.testBit_eq_decide_div_mod_eq]
    simp
  by_cases h : xBit (n : Int) (j : Int)
  · rw [zB_t h, Nat.pow_one, h3.mp h]; rfl
  · rw [zB_f h, Nat.pow_one]
    have h4 : n / 2 ^ j % 2 = 0 := by
      have : ¬ n / 2 ^ j % 2 = 1 := fun q => h (h3.mpr q)
      omega
    rw [h4]; rfl
/-- a stroke begins at this tick of the span -/
def xStroke (t span r : Int) : Prop := ∃ i : Int, 0 ≤ i ∧ i < r ∧ t = i * span / r
section ZB2
variable {p : Program} {l : Launch} {e : Env} {R : Room} {s : State} {m : MethodId} {args : Array Value} {below : List Frame} {meth : Method} {c : Code} {H : Heap} {locs : List Loc} {cells slots : Nat} {Q : State → Prop}
variable {cc : ByteArray} {pc : Nat} {ls : Array Slot} {rest : List Value}
theorem z_ne1B (hexec : p.tables.exec = Jvm.exec) (hb : c.code = cc) {P : Prop} {off : Int} {tgt : Nat} (hdg : decode cc pc = .ok (.if_icmp .ne off, 3)) (ht : (pc : Int) + off = (tgt : Int))
    (kt : ¬ P → W p l e R s m args below meth c H locs cells slots Q (F0 m tgt ls rest)) (kf : P → W p l e R s m args below meth c H locs cells slots Q (F0 m (pc + 3) ls rest)) : W p l e R s m args below meth c H locs cells slots Q (F0 m pc ls (.int (zI 1) :: .int (zB P) :: rest)) :=
  lv_icmp_ne hexec hb hdg ht (fun q => kt (fun h => q (by rw [zB_t h]; rfl))) (fun q => kf (Classical.byContradiction fun h => by rw [zB_f h] at q; exact absurd q (by decide)))
end ZB2
/-! ===== the greatest common divisor, by divisions ===== -/
theorem x_gcd_step (x y : Nat) : Nat.gcd y (x % y) = Nat.gcd x y := by
  rw [Nat.gcd_comm y, ← Nat.gcd_rec, Nat.gcd_comm]
theorem x_gcd_t {x y t : Nat} {i : Int} (hy : 0 < y) (h : x * y < 2 ^ t) (hor : (y ≤ x ∧ i + t ≤ 131) ∨ i + t ≤ 130) : ∃ t' : Nat, y * (x % y) < 2 ^ t' ∧ ((x % y ≤ y ∧ i + 1 + t' ≤ 131) ∨ i + 1 + t' ≤ 130) := by
  have hr : x % y < y := Nat.mod_lt _ hy
  rcases hor with ⟨h1, h2⟩ | h2
  · have hq : x = y * (x / y) + x % y := (Nat.div_add_mod x y).symm
    have hq1 : 1 ≤ x / y := (Nat.one_le_div_iff hy).mpr h1
    have hq2 : y * 1 ≤ y * (x / y) := Nat.mul_le_mul_left y hq1
    have h3 : 2 * (x % y) ≤ x := by omega
    have h4 : y * (2 * (x % y)) ≤ y * x := Nat.mul_le_mul_left y h3
    have h5 : y * (2 * (x % y)) = 2 * (y * (x % y)) := Nat.mul_left_comm y 2 (x % y)
    rw [h5, Nat.mul_comm y x] at h4
    cases t with
    | zero =>
      have h6 : 1 * 1 ≤ x * y := Nat.mul_le_mul (by omega) hy
      rw [Nat.pow_zero] at h
      omega
    | succ t =>
      refine ⟨t, ?_, Or.inl ⟨by omega, by omega⟩⟩
      rw [Nat.pow_succ] at h
      omega
  · refine ⟨t, ?_, Or.inl ⟨by omega, by omega⟩⟩
    have h4 : y * (x % y) ≤ y * x := Nat.mul_le_mul_left y (Nat.mod_le x y)
    rw [Nat.mul_comm y x] at h4
    omega
theorem x_b126 {a b : Nat} (ha : a < 4611686018427387904) (hb : b < 4611686018427387904) : a * b < 2 ^ 124 := by
  have h1 : a * b ≤ 4611686018427387904 * 4611686018427387904 - 1 := by
    have h2 : a * b ≤ 4611686018427387903 * 4611686018427387903 := Nat.mul_le_mul (by omega) (by omega)
    omega
  have h3 : (2 : Nat) ^ 124 = 4611686018427387904 * 4611686018427387904 := by decide +kernel
  rw [h3]
  omega
theorem x_lcm {a b : Nat} (ha : 0 < a) : a / Nat.gcd a b * b = Nat.lcm a b := by
  unfold Nat.lcm
  obtain ⟨k, hk⟩ := Nat.gcd_dvd_left a b
  have hg : 0 < Nat.gcd a b := Nat.gcd_pos_of_pos_left b ha
  have h1 : a / Nat.gcd a b = k := Nat.div_eq_of_eq_mul_right hg hk
  rw [h1]
  refine (Nat.div_eq_of_eq_mul_right hg ?_).symm
  rw [← Nat.mul_assoc, ← hk]
theorem x_mulb {a b : Int} (A B : Int) (h1 : 0 ≤ a) (h2 : a ≤ A) (h3 : 0 ≤ b) (h4 : b ≤ B) : 0 ≤ a * b ∧ a * b ≤ A * B :=
  ⟨Int.mul_nonneg h1 h3, Int.mul_le_mul h2 h4 h3 (by omega)⟩
theorem x_divb {a r : Int} (h1 : 0 ≤ a) (h2 : 0 < r) : 0 ≤ a / r ∧ a / r ≤ a := ⟨Int.ediv_nonneg h1 (by omega), Int.ediv_le_self r h1⟩
theorem x_modb {a r : Int} (h2 : 0 < r) : 0 ≤ a % r ∧ a % r < r := ⟨Int.emod_nonneg a (by omega), Int.emod_lt_of_pos a h2⟩
theorem x_lts {p : Int → Prop} {i : Int} (h : ∀ j : Int, 0 ≤ j → j < i → p j) (hi : p i) : ∀ j : Int, 0 ≤ j → j < i + 1 → p j := fun j h1 h2 => by
  rcases Int.lt_or_eq_of_le (show j ≤ i by omega) with q | q
  · exact h j h1 q
  · rw [q]; exact hi
def xP (f : Nat → Int) (u : Int) : Int := u % (f 0 * f 1)
def xS (f : Nat → Int) (u : Int) : Int := xP f u / f 1
def xStrikes (f : Nat → Int) (u : Int) : Prop := u / (f 0 * f 1) % xC f (xS f u) 3 = xC f (xS f u) 2 ∧ xStroke (xP f u - xS f u * f 1 - xDelay f (xS f u)) (f 1 - xDelay f (xS f u)) (xC f (xS f u) 1)
/-- the force with which the steps strike at a local time -/
noncomputable def xForce (f : Nat → Int) (u : Int) : Int := @ite Int (xStrikes f u) (Classical.propDecidable _) (xC f (xS f u) 0) 0
theorem xForce_t {f : Nat → Int} {u : Int} (h : xStrikes f u) : xForce f u = xC f (xS f u) 0 := if_pos h
theorem xForce_f {f : Nat → Int} {u : Int} (h : ¬ xStrikes f u) : xForce f u = 0 := if_neg h
theorem xDelay_b {f : Nat → Int} (hf : TOK f) (s : Int) : 0 ≤ xDelay f s ∧ xDelay f s < f 1 := by
  unfold xDelay
  unfold TOK at hf
  by_cases h : s % 2 = 1
  · rw [if_pos h]; omega
  · rw [if_neg h]; omega
theorem x_round {f : Nat → Int} (hf : TOK f) : 1 ≤ f 0 * f 1 ∧ f 0 * f 1 ≤ 1536 := by
  unfold TOK at hf
  obtain ⟨h1, h2, h3, h4, -⟩ := hf
  have h5 := Int.mul_le_mul h2 h4 (by omega) (by omega : (0 : Int) ≤ 32)
  have h6 : 1 * 1 ≤ f 0 * f 1 := Int.mul_le_mul h1 h3 (by omega) (by omega)
  omega
theorem x_place {f : Nat → Int} (hf : TOK f) (u : Int) : 0 ≤ xP f u ∧ xP f u < f 0 * f 1 ∧ 0 ≤ xS f u ∧ xS f u < f 0 ∧ 0 ≤ xS f u * f 1 ∧ xS f u * f 1 ≤ xP f u ∧ xP f u - xS f u * f 1 < f 1 := by
  have hr := x_round hf
  unfold TOK at hf
  obtain ⟨h1, h2, h3, h4, -⟩ := hf
  have h5 : 0 ≤ xP f u ∧ xP f u < f 0 * f 1 := x_modb (by omega)
  have h6 : 0 ≤ xS f u := Int.ediv_nonneg h5.1 (by omega)
  have h7 : xS f u < f 0 := Int.ediv_lt_of_lt_mul (by omega) h5.2
  have h8 : xS f u * f 1 + xP f u % f 1 = xP f u := by
    have := Int.mul_ediv_add_emod (xP f u) (f 1)
    rw [Int.mul_comm] at this
    exact this
  have h9 : 0 ≤ xP f u % f 1 ∧ xP f u % f 1 < f 1 := x_modb (by omega)
  have h10 : 0 ≤ xS f u * f 1 := Int.mul_nonneg h6 (by omega)
  omega
/-! ===== rows of cells that change ===== -/
/-- four cells of step a of a row go to step b of another, the first j of them -/
def xCpy (src dst : Nat → Int32) (a b j : Int) : Nat → Int32 := fun i => if b * 4 ≤ (i : Int) ∧ (i : Int) < b * 4 + j then src (a * 4 + ((i : Int) - b * 4)).toNat else dst i
theorem xCpy_0 (src dst : Nat → Int32) (a b : Int) : xCpy src dst a b 0 = dst := by
  funext i
  unfold xCpy
  rw [if_neg (by omega)]
theorem xCpy_s (src dst : Nat → Int32) (a b j : Int) (hb : 0 ≤ b) (hj : 0 ≤ j) (x : Int32) (hx : src (a * 4 + j).toNat = x) : upd (xCpy src dst a b j) (b * 4 + j).toNat x = xCpy src dst a b (j + 1) := by
  funext i
  unfold upd xCpy
  by_cases h : i = (b * 4 + j).toNat
  · rw [if_pos h, if_pos (by omega), ← hx]
    congr 2
    omega
  · rw [if_neg h]
    by_cases h2 : b * 4 ≤ (i : Int) ∧ (i : Int) < b * 4 + j
    · rw [if_pos h2, if_pos (by omega)]
    · rw [if_neg h2, if_neg (by omega)]
theorem xCpy_out {src dst : Nat → Int32} {a b j : Int} {i : Nat} (h : ¬ (b * 4 ≤ (i : Int) ∧ (i : Int) < b * 4 + j)) : xCpy src dst a b j i = dst i := by
  unfold xCpy
  exact if_neg h
theorem xCpy_in {src dst : Nat → Int32} {a b j w : Int} (hb : 0 ≤ b) (hw : 0 ≤ w ∧ w < j) : xCpy src dst a b j (4 * b + w).toNat = src (4 * a + w).toNat := by
  unfold xCpy
  rw [if_pos (by omega)]
  congr 1
  omega
/-- a step as at first, with a force -/
def xClr (cn : Nat → Int32) (k v : Int) : Nat → Int32 := upd (upd (upd (upd cn (k * 4 + 0).toNat (zI v)) (k * 4 + 1).toNat (zI 1)) (k * 4 + 2).toNat (zI 0)) (k * 4 + 3).toNat (zI 1)
theorem xClr_at {cn : Nat → Int32} {k v : Int} (hk : 0 ≤ k) : xClr cn k v (4 * k + 0).toNat = zI v ∧ xClr cn k v (4 * k + 1).toNat = zI 1 ∧ xClr cn k v (4 * k + 2).toNat = zI 0 ∧ xClr cn k v (4 * k + 3).toNat = zI 1 := by
  unfold xClr upd
  refine ⟨?_, ?_, ?_, ?_⟩
  · rw [if_neg (by omega), if_neg (by omega), if_neg (by omega), if_pos (by omega)]
  · rw [if_neg (by omega), if_neg (by omega), if_pos (by omega)]
  · rw [if_neg (by omega), if_pos (by omega)]
  · rw [if_pos (by omega)]
theorem xClr_out {cn : Nat → Int32} {k v : Int} {i : Nat} (h : ¬ (k * 4 ≤ (i : Int) ∧ (i : Int) < k * 4 + 4)) (hk : 0 ≤ k) : xClr cn k v i = cn i := by
  unfold xClr upd
  rw [if_neg (by omega), if_neg (by omega), if_neg (by omega), if_neg (by omega)]
/-- the last hit of a spread among the first k steps -/
def xLast (n h : Int) : Nat → Int
  | 0 => -1
  | k + 1 => if (k : Int) * h % n < h then (k : Int) else xLast n h k
theorem xLast_s {n h k : Int} (hk : 0 ≤ k) : xLast n h (k + 1).toNat = if k * h % n < h then k else xLast n h k.toNat := by
  rw [show (k + 1).toNat = k.toNat + 1 by omega]
  show (if ((k.toNat : Nat) : Int) * h % n < h then ((k.toNat : Nat) : Int) else xLast n h k.toNat) = _
  rw [Int.toNat_of_nonneg hk]
theorem xLast_b (n h : Int) : ∀ k : Nat, -1 ≤ xLast n h k ∧ xLast n h k < k
  | 0 => by unfold xLast; omega
  | k + 1 => by
    have := xLast_b n h k
    unfold xLast
    split <;> omega
/-- how many of the first k steps have a force -/
def xLoud (f : Nat → Int) : Nat → Int
  | 0 => 0
  | k + 1 => if 0 < xC f (k : Int) 0 then xLoud f k + 1 else xLoud f k
theorem xLoud_s {f : Nat → Int} {k : Int} (hk : 0 ≤ k) : xLoud f (k + 1).toNat = if 0 < xC f k 0 then xLoud f k.toNat + 1 else xLoud f k.toNat := by
  rw [show (k + 1).toNat = k.toNat + 1 by omega]
  show (if 0 < xC f ((k.toNat : Nat) : Int) 0 then xLoud f k.toNat + 1 else xLoud f k.toNat) = _
  rw [Int.toNat_of_nonneg hk]
theorem xLoud_b (f : Nat → Int) : ∀ k : Nat, 0 ≤ xLoud f k ∧ xLoud f k ≤ k
  | 0 => by unfold xLoud; omega
  | k + 1 => by
    have := xLoud_b f k
    unfold xLoud
    split <;> omega
/-- how far a place is from a step's begin -/
def xOff (f : Nat → Int) (q s : Int) : Int := if 0 ≤ q - (s * f 1 + xDelay f s) then q - (s * f 1 + xDelay f s) else 0 - (q - (s * f 1 + xDelay f s))
/-- the nearest of the steps 0 to k, and how far it is -/
def xNear (f : Nat → Int) (q : Int) : Nat → Int × Int
  | 0 => (0, if f 0 * f 1 - q < q then f 0 * f 1 - q else q)
  | k + 1 => if xOff f q ((k : Int) + 1) < (xNear f q k).2 then ((k : Int) + 1, xOff f q ((k : Int) + 1)) else xNear f q k
theorem xNear_s {f : Nat → Int} {q k : Int} (hk : 1 ≤ k) : xNear f q k.toNat = if xOff f q k < (xNear f q (k - 1).toNat).2 then (k, xOff f q k) else xNear f q (k - 1).toNat := by
  have h1 : k.toNat = (k - 1).toNat + 1 := by omega
  rw [h1]
  show (if xOff f q ((((k - 1).toNat : Nat) : Int) + 1) < (xNear f q (k - 1).toNat).2 then ((((k - 1).toNat : Nat) : Int) + 1, xOff f q ((((k - 1).toNat : Nat) : Int) + 1)) else xNear f q (k - 1).toNat) = _
  rw [Int.toNat_of_nonneg (show 0 ≤ k - 1 by omega), show k - 1 + 1 = k by omega]
theorem xNear_b {f : Nat → Int} {q : Int} (hq : 0 ≤ q) (hr : q < f 0 * f 1) (hd : ∀ k : Int, 0 ≤ k → 0 ≤ xDelay f k) : ∀ k : Nat, 0 ≤ (xNear f q k).1 ∧ (xNear f q k).1 ≤ k ∧ 0 ≤ (xNear f q k).2 ∧ (xNear f q k).2 ≤ q
  | 0 => by
    unfold xNear
    refine ⟨by omega, by omega, ?_, ?_⟩ <;> dsimp only <;> split <;> omega
  | k + 1 => by
    have := xNear_b hq hr hd k
    have h1 : 0 ≤ xOff f q ((k : Int) + 1) := by unfold xOff; split <;> omega
    unfold xNear
    split
    · dsimp only; omega
    · omega
/-- after how many rounds the first k steps come round again -/
def xRnd (f : Nat → Int) : Nat → Nat
  | 0 => 1
  | k + 1 => if 0 < xC f (k : Int) 0 then Nat.lcm (xRnd f k) (xC f (k : Int) 3).toNat else xRnd f k
theorem xRnd_s {f : Nat → Int} {k : Int} (hk : 0 ≤ k) : xRnd f (k + 1).toNat = if 0 < xC f k 0 then Nat.lcm (xRnd f k.toNat) (xC f k 3).toNat else xRnd f k.toNat := by
  rw [show (k + 1).toNat = k.toNat + 1 by omega]
  show (if 0 < xC f ((k.toNat : Nat) : Int) 0 then Nat.lcm (xRnd f k.toNat) (xC f ((k.toNat : Nat) : Int) 3).toNat else xRnd f k.toNat) = _
  rw [Int.toNat_of_nonneg hk]
theorem x_dvd840 : ∀ b, b < 9 → 1 ≤ b → b ∣ 840 := by decide
theorem xRnd_d {f : Nat → Int} (hf : TOK f) : ∀ k : Nat, (k : Int) ≤ f 0 → xRnd f k ∣ 840
  | 0, _ => by unfold xRnd; exact Nat.one_dvd _
  | k + 1, h => by
    have h1 := xRnd_d hf k (by omega)
    unfold xRnd
    split
    · have h2 := hf.2.2.2.2.2.2.2.2.2.2.2.2.2 (k : Int) (by omega) (by omega)
      exact Nat.lcm_dvd h1 (x_dvd840 _ (by omega) (by omega))
    · exact h1
theorem xRnd_b {f : Nat → Int} (hf : TOK f) {k : Nat} (h : (k : Int) ≤ f 0) : 1 ≤ xRnd f k ∧ xRnd f k ≤ 840 := by
  have h1 := xRnd_d hf k h
  have h2 := Nat.le_of_dvd (by omega) h1
  have h3 : xRnd f k ≠ 0 := fun q => by rw [q] at h1; exact absurd (Nat.eq_zero_of_zero_dvd h1) (by decide)
  omega
end
section
set_option maxHeartbeats 4000000 in
set_option maxRecDepth 100000 in
theorem kX2_isWithin (l : Launch) (D : va_G) (G : Nat → ClassId) (x lo hi : Int) (hx : -2147483648 ≤ x ∧ x ≤ 2147483647) (hlo : -2147483648 ≤ lo ∧ lo ≤ 2147483647) (hhi : -2147483648 ≤ hi ∧ hi ≤ 2147483647) : Met l yX2_isWithin wsX2_isWithin ({ frames := 0, cells := 0, slots := 0, locals := 0 }) (zP [.int (zI (x)), .int (zI (lo)), .int (zI (hi))] D G (fun H => True)) (zQ (some (.int (zB (lo ≤ x ∧ x ≤ hi))))) 0 0 (fun _ => False) := by
  refine Met.ofW (cc := cX2_isWithin) (maxL := 3) (ret := (some .boolean)) (by decide) rfl ?_
  intro p e s m args below meth c s₁ B hml hv
  obtain ⟨hav, hP, hK, hN⟩ := hv
  have hx := B.exec
  have hb := B.bytes
  have hr := B.returns
  have hts := atoms_spec (ws := wsX2_isWithin) B.pre
  have hown : s.vm.findClass RX2 = some m.cls := findClass_of_methodNamed B.named
  have hlocks : meth.locks = false := B.notSynchronized
  refine z_entry hav (Nat.le_of_ble_eq_true rfl) rfl (fun ls hl => ?_)
  have hl : lv_has ls 3 [(0, .int (zI (x))), (1, .int (zI (lo))), (2, .int (zI (hi)))] := hl
  refine lv_iload_n hx hb dX2_isWithin_0 rfl (lv_at hl 0 rfl) ?_
  refine lv_iload_n hx hb dX2_isWithin_1 rfl (lv_at hl 1 rfl) ?_
  refine z_icmp_lt (tgt := 14) hx hb (by omega) dX2_isWithin_2 (by decide) (fun c_1 => ?_) (fun c_1 => ?_)
  · refine lv_iconst (v := zI (0)) hx hb dX2_isWithin_14 rfl ?_
    exact z_zretF hx hb hr hlocks (by omega) dX2_isWithin_15
  · refine lv_iload_n hx hb dX2_isWithin_5 rfl (lv_at hl 0 rfl) ?_
    refine lv_iload_n hx hb dX2_isWithin_6 rfl (lv_at hl 2 rfl) ?_
    refine z_icmp_gt (tgt := 14) hx hb (by omega) dX2_isWithin_7 (by decide) (fun c_2 => ?_) (fun c_2 => ?_)
    · refine lv_iconst (v := zI (0)) hx hb dX2_isWithin_14 rfl ?_
      exact z_zretF hx hb hr hlocks (by omega) dX2_isWithin_15
    · refine lv_iconst (v := zI (1)) hx hb dX2_isWithin_10 rfl ?_
      refine lv_goto (tgt := 15) hx hb dX2_isWithin_11 (by decide) ?_
      exact z_zretT hx hb hr hlocks (by omega) dX2_isWithin_15

set_option maxHeartbeats 4000000 in
set_option maxRecDepth 100000 in
theorem kX2_isTick (l : Launch) (D : va_G) (G : Nat → ClassId) (x : Int) (hx : -2147483648 ≤ x ∧ x ≤ 2147483647) : Met l yX2_isTick wsX2_isTick ({ frames := 1, cells := 0, slots := 0, locals := 22 }) (zP [.int (zI (x))] D G (fun H => True)) (zQ (some (.int (zB (0 ≤ x ∧ x ≤ 99999))))) 0 0 (fun _ => False) := by
  refine Met.ofW (cc := cX2_isTick) (maxL := 1) (ret := (some .boolean)) (by decide) rfl ?_
  intro p e s m args below meth c s₁ B hml hv
  obtain ⟨hav, hP, hK, hN⟩ := hv
  have hx := B.exec
  have hb := B.bytes
  have hr := B.returns
  have hts := atoms_spec (ws := wsX2_isTick) B.pre
  have hown : s.vm.findClass RX2 = some m.cls := findClass_of_methodNamed B.named
  have hlocks : meth.locks = false := B.notSynchronized
  refine z_entry hav (Nat.le_of_ble_eq_true rfl) rfl (fun ls hl => ?_)
  have hl : lv_has ls 1 [(0, .int (zI (x)))] := hl
  refine lv_iload_n hx hb dX2_isTick_0 rfl (lv_at hl 0 rfl) ?_
  refine lv_iconst (v := zI (0)) hx hb dX2_isTick_1 rfl ?_
  refine lv_ldc (v := 99999) hx hb hown (hts (.constant RX2 155 (99999)) (by decide +kernel)) dX2_isTick_2 ?_
  refine z_raw (y := zI 99999) (by decide) ?_
  refine z_call (va_runS (As := [.int (zI (x)), .int (zI (0)), .int (zI (99999))]) (rest := []) ⟨hx, hb, hml, hown, hts⟩ (kX2_isWithin l D G (x) (0) (99999) (by omega) (by omega) (by omega)) (va_cwS 3 hts gX2_isTick_X2_isWithin rfl rfl rfl (by decide +kernel) ⟨Nat.le_of_ble_eq_true rfl, Nat.le_of_ble_eq_true rfl⟩) (zPreS hK hN (trivial)) rfl rfl hl.1 rfl (lv_room (Nat.le_of_ble_eq_true rfl)) dX2_isTick_4 ⟨Nat.le_of_ble_eq_true rfl, Nat.le_of_ble_eq_true rfl⟩) ?_
  exact z_zret hx hb hr hlocks (Iff.rfl) dX2_isTick_7

set_option maxHeartbeats 4000000 in
set_option maxRecDepth 100000 in
theorem kX2_isSpan (l : Launch) (D : va_G) (G : Nat → ClassId) (x y : Int) (hx : -2147483648 ≤ x ∧ x ≤ 2147483647) (hy : -2147483648 ≤ y ∧ y ≤ 2147483647) : Met l yX2_isSpan wsX2_isSpan ({ frames := 2, cells := 0, slots := 0, locals := 42 }) (zP [.int (zI (x)), .int (zI (y))] D G (fun H => True)) (zQ (some (.int (zB ((0 ≤ x ∧ x ≤ 99999) ∧ (0 ≤ y ∧ y ≤ 99999) ∧ x ≤ y ∧ y - x ≤ 3000))))) 0 0 (fun _ => False) := by
  refine Met.ofW (cc := cX2_isSpan) (maxL := 2) (ret := (some .boolean)) (by decide) rfl ?_
  intro p e s m args below meth c s₁ B hml hv
  obtain ⟨hav, hP, hK, hN⟩ := hv
  have hx := B.exec
  have hb := B.bytes
  have hr := B.returns
  have hts := atoms_spec (ws := wsX2_isSpan) B.pre
  have hown : s.vm.findClass RX2 = some m.cls := findClass_of_methodNamed B.named
  have hlocks : meth.locks = false := B.notSynchronized
  refine z_entry hav (Nat.le_of_ble_eq_true rfl) rfl (fun ls hl => ?_)
  have hl : lv_has ls 2 [(0, .int (zI (x))), (1, .int (zI (y)))] := hl
  refine lv_iload_n hx hb dX2_isSpan_0 rfl (lv_at hl 0 rfl) ?_
  refine z_call (va_runS (As := [.int (zI (x))]) (rest := []) ⟨hx, hb, hml, hown, hts⟩ (kX2_isTick l D G (x) (by omega)) (va_cwS 1 hts gX2_isSpan_X2_isTick rfl rfl rfl (by decide +kernel) ⟨Nat.le_of_ble_eq_true rfl, Nat.le_of_ble_eq_true rfl⟩) (zPreS hK hN (trivial)) rfl rfl hl.1 rfl (lv_room (Nat.le_of_ble_eq_true rfl)) dX2_isSpan_1 ⟨Nat.le_of_ble_eq_true rfl, Nat.le_of_ble_eq_true rfl⟩) ?_
  refine z_eqB (tgt := 32) hx hb dX2_isSpan_4 (by decide) (fun c_1 => ?_) (fun c_1 => ?_)
  · refine lv_iconst (v := zI (0)) hx hb dX2_isSpan_32 rfl ?_
    exact z_zretF hx hb hr hlocks (by omega) dX2_isSpan_33
  · refine lv_iload_n hx hb dX2_isSpan_7 rfl (lv_at hl 1 rfl) ?_
    refine z_call (va_runS (As := [.int (zI (y))]) (rest := []) ⟨hx, hb, hml, hown, hts⟩ (kX2_isTick l D G (y) (by omega)) (va_cwS 1 hts gX2_isSpan_X2_isTick rfl rfl rfl (by decide +kernel) ⟨Nat.le_of_ble_eq_true rfl, Nat.le_of_ble_eq_true rfl⟩) (zPreS hK hN (trivial)) rfl rfl hl.1 rfl (lv_room (Nat.le_of_ble_eq_true rfl)) dX2_isSpan_8 ⟨Nat.le_of_ble_eq_true rfl, Nat.le_of_ble_eq_true rfl⟩) ?_
    refine z_eqB (tgt := 32) hx hb dX2_isSpan_11 (by decide) (fun c_2 => ?_) (fun c_2 => ?_)
    · refine lv_iconst (v := zI (0)) hx hb dX2_isSpan_32 rfl ?_
      exact z_zretF hx hb hr hlocks (by omega) dX2_isSpan_33
    · refine lv_iload_n hx hb dX2_isSpan_14 rfl (lv_at hl 1 rfl) ?_
      refine lv_iload_n hx hb dX2_isSpan_15 rfl (lv_at hl 0 rfl) ?_
      refine z_icmp_lt (tgt := 32) hx hb (by omega) dX2_isSpan_16 (by decide) (fun c_3 => ?_) (fun c_3 => ?_)
      · refine lv_iconst (v := zI (0)) hx hb dX2_isSpan_32 rfl ?_
        exact z_zretF hx hb hr hlocks (by omega) dX2_isSpan_33
      · refine lv_iload_n hx hb dX2_isSpan_19 rfl (lv_at hl 1 rfl) ?_
        refine lv_iload_n hx hb dX2_isSpan_20 rfl (lv_at hl 0 rfl) ?_
        refine z_isub hx hb dX2_isSpan_21 ?_
        refine lv_sipush (v := zI (3000)) hx hb dX2_isSpan_22 (by decide) ?_
        refine z_icmp_gt (tgt := 32) hx hb (by omega) dX2_isSpan_25 (by decide) (fun c_4 => ?_) (fun c_4 => ?_)
        · refine lv_iconst (v := zI (0)) hx hb dX2_isSpan_32 rfl ?_
          exact z_zretF hx hb hr hlocks (by omega) dX2_isSpan_33
        · refine lv_iconst (v := zI (1)) hx hb dX2_isSpan_28 rfl ?_
          refine lv_goto (tgt := 33) hx hb dX2_isSpan_29 (by decide) ?_
          exact z_zretT hx hb hr hlocks (by omega) dX2_isSpan_33

set_option maxHeartbeats 4000000 in
set_option maxRecDepth 100000 in
theorem kX2_isInSet (l : Launch) (D : va_G) (G : Nat → ClassId) (z k : Int) (hz : 0 ≤ z ∧ z ≤ 2147483647) (hk : 0 ≤ k ∧ k ≤ 31) : Met l yX2_isInSet wsX2_isInSet ({ frames := 0, cells := 0, slots := 0, locals := 0 }) (zP [.int (zI (z)), .int (zI (k))] D G (fun H => True)) (zQ (some (.int (zB (xBit z k))))) 0 0 (fun _ => False) := by
  refine Met.ofW (cc := cX2_isInSet) (maxL := 2) (ret := (some .boolean)) (by decide) rfl ?_
  intro p e s m args below meth c s₁ B hml hv
  obtain ⟨hav, hP, hK, hN⟩ := hv
  have hx := B.exec
  have hb := B.bytes
  have hr := B.returns
  have hts := atoms_spec (ws := wsX2_isInSet) B.pre
  have hown : s.vm.findClass RX2 = some m.cls := findClass_of_methodNamed B.named
  have hlocks : meth.locks = false := B.notSynchronized
  refine z_entry hav (Nat.le_of_ble_eq_true rfl) rfl (fun ls hl => ?_)
  have hl : lv_has ls 2 [(0, .int (zI (z))), (1, .int (zI (k)))] := hl
  refine lv_iload_n hx hb dX2_isInSet_0 rfl (lv_at hl 0 rfl) ?_
  refine lv_iload_n hx hb dX2_isInSet_1 rfl (lv_at hl 1 rfl) ?_
  refine lv_ishr hx hb dX2_isInSet_2 ?_
  refine lv_iconst (v := zI (1)) hx hb dX2_isInSet_3 rfl ?_
  refine lv_iand hx hb dX2_isInSet_4 ?_
  refine z_raw (y := zB (xBit z k)) (xBit_shr hz hk) ?_
  refine lv_iconst (v := zI (1)) hx hb dX2_isInSet_5 rfl ?_
  refine z_ne1B (tgt := 13) hx hb dX2_isInSet_6 (by decide) (fun c_1 => ?_) (fun c_1 => ?_)
  · refine lv_iconst (v := zI (0)) hx hb dX2_isInSet_13 rfl ?_
    exact z_zretF hx hb hr hlocks (c_1) dX2_isInSet_14
  · refine lv_iconst (v := zI (1)) hx hb dX2_isInSet_9 rfl ?_
    refine lv_goto (tgt := 14) hx hb dX2_isInSet_10 (by decide) ?_
    exact z_zretT hx hb hr hlocks (c_1) dX2_isInSet_14

set_option maxHeartbeats 4000000 in
set_option maxRecDepth 100000 in
theorem kX2_quotient (l : Launch) (D : va_G) (G : Nat → ClassId) (x d : Int) (hx0 : 0 ≤ x ∧ x ≤ 2147483647) (hd : 0 < d ∧ d ≤ 2147483647) : Met l yX2_quotient wsX2_quotient ({ frames := 0, cells := 0, slots := 0, locals := 0 }) (zP [.int (zI (x)), .int (zI (d))] D G (fun H => True)) (zQ (some (.int (zI (x / d))))) 0 0 (fun _ => False) := by
  refine Met.ofW (cc := cX2_quotient) (maxL := 2) (ret := (some .int)) (by decide) rfl ?_
  intro p e s m args below meth c s₁ B hml hv
  obtain ⟨hav, hP, hK, hN⟩ := hv
  have hx := B.exec
  have hb := B.bytes
  have hr := B.returns
  have hts := atoms_spec (ws := wsX2_quotient) B.pre
  have hown : s.vm.findClass RX2 = some m.cls := findClass_of_methodNamed B.named
  have hlocks : meth.locks = false := B.notSynchronized
  refine z_entry hav (Nat.le_of_ble_eq_true rfl) rfl (fun ls hl => ?_)
  have hl : lv_has ls 2 [(0, .int (zI (x))), (1, .int (zI (d)))] := hl
  refine lv_iload_n hx hb dX2_quotient_0 rfl (lv_at hl 1 rfl) ?_
  refine z_if_le (tgt := 10) hx hb (by omega) dX2_quotient_1 (by decide) (fun c_1 => ?_) (fun c_1 => ?_)
  · exfalso; omega
  · refine lv_iload_n hx hb dX2_quotient_4 rfl (lv_at hl 0 rfl) ?_
    refine lv_iload_n hx hb dX2_quotient_5 rfl (lv_at hl 1 rfl) ?_
    refine z_idiv hx hb (by omega) dX2_quotient_6 ?_
    refine lv_goto (tgt := 11) hx hb dX2_quotient_7 (by decide) ?_
    exact z_iret hx hb hr hlocks (by first | rfl | omega) dX2_quotient_11

set_option maxHeartbeats 4000000 in
set_option maxRecDepth 100000 in
theorem kX2_rest (l : Launch) (D : va_G) (G : Nat → ClassId) (x d : Int) (hx0 : 0 ≤ x ∧ x ≤ 2147483647) (hd : 0 < d ∧ d ≤ 2147483647) : Met l yX2_rest wsX2_rest ({ frames := 0, cells := 0, slots := 0, locals := 0 }) (zP [.int (zI (x)), .int (zI (d))] D G (fun H => True)) (zQ (some (.int (zI (x % d))))) 0 0 (fun _ => False) := by
  refine Met.ofW (cc := cX2_rest) (maxL := 2) (ret := (some .int)) (by decide) rfl ?_
  intro p e s m args below meth c s₁ B hml hv
  obtain ⟨hav, hP, hK, hN⟩ := hv
  have hx := B.exec
  have hb := B.bytes
  have hr := B.returns
  have hts := atoms_spec (ws := wsX2_rest) B.pre
  have hown : s.vm.findClass RX2 = some m.cls := findClass_of_methodNamed B.named
  have hlocks : meth.locks = false := B.notSynchronized
  refine z_entry hav (Nat.le_of_ble_eq_true rfl) rfl (fun ls hl => ?_)
  have hl : lv_has ls 2 [(0, .int (zI (x))), (1, .int (zI (d)))] := hl
  refine lv_iload_n hx hb dX2_rest_0 rfl (lv_at hl 1 rfl) ?_
  refine z_if_le (tgt := 10) hx hb (by omega) dX2_rest_1 (by decide) (fun c_1 => ?_) (fun c_1 => ?_)
  · exfalso; omega
  · refine lv_iload_n hx hb dX2_rest_4 rfl (lv_at hl 0 rfl) ?_
    refine lv_iload_n hx hb dX2_rest_5 rfl (lv_at hl 1 rfl) ?_
    refine z_irem hx hb (by omega) dX2_rest_6 ?_
    refine lv_goto (tgt := 11) hx hb dX2_rest_7 (by decide) ?_
    exact z_iret hx hb hr hlocks (by first | rfl | omega) dX2_rest_11

set_option maxHeartbeats 4000000 in
set_option maxRecDepth 100000 in
theorem kX2_read (l : Launch) (D : va_G) (G : Nat → ClassId) (ra n : Nat) (cn : Nat → Int32) (i : Int) (x : Int32) (hi : 0 ≤ i ∧ i < (n : Int)) (hn : n ≤ 100000) (hv : cn i.toNat = x) : Met l yX2_read wsX2_read ({ frames := 0, cells := 0, slots := 0, locals := 0 }) (zP [.ref ra, .int (zI (i))] D G (fun H => va_P D vwCl [(ra, .inl (G 0, n, .inl (cn)))] H)) (zQ (some (.int (x)))) 0 0 (fun _ => False) := by
  refine Met.ofW (cc := cX2_read) (maxL := 2) (ret := (some .int)) (by decide) rfl ?_
  intro p e s m args below meth c s₁ B hml hv
  obtain ⟨hav, hP, hK, hN⟩ := hv
  have hx := B.exec
  have hb := B.bytes
  have hr := B.returns
  have hts := atoms_spec (ws := wsX2_read) B.pre
  have hown : s.vm.findClass RX2 = some m.cls := findClass_of_methodNamed B.named
  have hlocks : meth.locks = false := B.notSynchronized
  refine z_entry hav (Nat.le_of_ble_eq_true rfl) rfl (fun ls hl => ?_)
  have hl : lv_has ls 2 [(0, .ref ra), (1, .int (zI (i)))] := hl
  refine lv_iload_n hx hb dX2_read_0 rfl (lv_at hl 1 rfl) ?_
  refine z_if_lt (tgt := 16) hx hb (by omega) dX2_read_1 (by decide) (fun c_1 => ?_) (fun c_1 => ?_)
  · exfalso; omega
  · refine lv_iload_n hx hb dX2_read_4 rfl (lv_at hl 1 rfl) ?_
    refine lv_aload_n hx hb dX2_read_5 rfl (lv_at hl 0 rfl) ?_
    refine va_alen (D := D) hx hb hK hP 0 0 rfl rfl (v := zI n) rfl dX2_read_6 ?_
    refine z_icmp_ge (tgt := 16) hx hb (by omega) dX2_read_7 (by decide) (fun c_2 => ?_) (fun c_2 => ?_)
    · exfalso; omega
    · refine lv_aload_n hx hb dX2_read_10 rfl (lv_at hl 0 rfl) ?_
      refine lv_iload_n hx hb dX2_read_11 rfl (lv_at hl 1 rfl) ?_
      refine z_iald (x := x) (D := D) hx hb hK hP 0 0 rfl rfl (by omega) (by omega) (hv) dX2_read_12 ?_
      refine lv_goto (tgt := 17) hx hb dX2_read_13 (by decide) ?_
      exact z_rret hx hb hr hlocks (rfl) dX2_read_17

set_option maxHeartbeats 4000000 in
set_option maxRecDepth 100000 in
theorem kX2_write (l : Launch) (D : va_G) (G : Nat → ClassId) (ra n : Nat) (cn : Nat → Int32) (i : Int) (x : Int32) (hnd : [ra].Nodup) (hi : 0 ≤ i ∧ i < (n : Int)) (hn : n ≤ 100000) : Met l yX2_write wsX2_write ({ frames := 0, cells := 0, slots := 0, locals := 0 }) (zP [.ref ra, .int (zI (i)), .int (x)] D G (fun H => va_P D vwCl [(ra, .inl (G 0, n, .inl (cn)))] H)) (zM none (fun H => va_P D vwCl [(ra, .inl (G 0, n, .inl (upd cn i.toNat x)))] H) (zA [ra])) 0 0 (zA [ra]) := by
  refine Met.ofW (cc := cX2_write) (maxL := 3) (ret := none) (by decide) rfl ?_
  intro p e s m args below meth c s₁ B hml hv
  obtain ⟨hav, hP, hK, hN⟩ := hv
  have hx := B.exec
  have hb := B.bytes
  have hr := B.returns
  have hts := atoms_spec (ws := wsX2_write) B.pre
  have hown : s.vm.findClass RX2 = some m.cls := findClass_of_methodNamed B.named
  have hlocks : meth.locks = false := B.notSynchronized
  have hS : va_S (zA [ra]) s.heap s.heap [] := va_S.rf
  have hnd' := hnd
  simp only [List.nodup_cons, List.mem_cons, List.not_mem_nil, or_false, List.nodup_nil, and_true, not_or, not_false_eq_true] at hnd'
  have hD : va_D (zA [ra]) [(ra, .inl (G 0, n, .inl (cn)))] := z_Dof hnd rfl
  refine z_entry hav (Nat.le_of_ble_eq_true rfl) rfl (fun ls hl => ?_)
  have hl : lv_has ls 3 [(0, .ref ra), (1, .int (zI (i))), (2, .int (x))] := hl
  refine lv_iload_n hx hb dX2_write_0 rfl (lv_at hl 1 rfl) ?_
  refine z_if_lt (tgt := 14) hx hb (by omega) dX2_write_1 (by decide) (fun c_1 => ?_) (fun c_1 => ?_)
  · exfalso; omega
  · refine lv_iload_n hx hb dX2_write_4 rfl (lv_at hl 1 rfl) ?_
    refine lv_aload_n hx hb dX2_write_5 rfl (lv_at hl 0 rfl) ?_
    refine va_alen (D := D) hx hb hK hP 0 0 rfl rfl (v := zI n) rfl dX2_write_6 ?_
    refine z_icmp_ge (tgt := 14) hx hb (by omega) dX2_write_7 (by decide) (fun c_2 => ?_) (fun c_2 => ?_)
    · exfalso; omega
    · refine lv_aload_n hx hb dX2_write_10 rfl (lv_at hl 0 rfl) ?_
      refine lv_iload_n hx hb dX2_write_11 rfl (lv_at hl 1 rfl) ?_
      refine lv_iload_n hx hb dX2_write_12 rfl (lv_at hl 2 rfl) ?_
      refine z_iast (D := D) hx hb hK hP hD hS 0 0 rfl rfl (by omega) (by omega) dX2_write_13 (fun H locs hP hD hS => ?_)
      have hP : va_P D vwCl [(ra, .inl (G 0, n, .inl (upd (cn) (i).toNat ((x)))))] H := hP
      have hD : va_D (zA [ra]) [(ra, .inl (G 0, n, .inl (upd (cn) (i).toNat ((x)))))] := hD
      exact zm_vret hx hb hr hlocks hS (hP) dX2_write_14

set_option maxHeartbeats 4000000 in
set_option maxRecDepth 100000 in
theorem kX2_mix (l : Launch) (D : va_G) (G : Nat → ClassId) (a x : Int64)  : Met l yX2_mix wsX2_mix ({ frames := 0, cells := 0, slots := 0, locals := 0 }) (zP [.long (a), .long (x)] D G (fun H => True)) (zQ (some (.long (a * 31 + x)))) 0 0 (fun _ => False) := by
  refine Met.ofW (cc := cX2_mix) (maxL := 4) (ret := (some .long)) (by decide) rfl ?_
  intro p e s m args below meth c s₁ B hml hv
  obtain ⟨hav, hP, hK, hN⟩ := hv
  have hx := B.exec
  have hb := B.bytes
  have hr := B.returns
  have hts := atoms_spec (ws := wsX2_mix) B.pre
  have hown : s.vm.findClass RX2 = some m.cls := findClass_of_methodNamed B.named
  have hlocks : meth.locks = false := B.notSynchronized
  refine z_entry hav (Nat.le_of_ble_eq_true rfl) rfl (fun ls hl => ?_)
  have hl : lv_has ls 4 [(0, .long (a)), (2, .long (x))] := hl
  refine lv_lload_n hx hb dX2_mix_0 rfl (lv_at hl 0 rfl) ?_
  refine lv_ldc2 (v := 31) hx hb hown (hts (.constantLong RX2 250 (31)) (by decide +kernel)) dX2_mix_1 ?_
  refine lv_lmul hx hb dX2_mix_4 ?_
  refine lv_lload_n hx hb dX2_mix_5 rfl (lv_at hl 1 rfl) ?_
  refine lv_ladd hx hb dX2_mix_6 ?_
  exact z_lret hx hb hr hlocks (rfl) dX2_mix_7

set_option maxHeartbeats 4000000 in
set_option maxRecDepth 100000 in
theorem kX2_greatestCommonDivisor (l : Launch) (D : va_G) (G : Nat → ClassId) (a b : Nat) (ha : a < 4611686018427387904) (hb0 : b < 4611686018427387904) : Met l yX2_greatestCommonDivisor wsX2_greatestCommonDivisor ({ frames := 0, cells := 0, slots := 0, locals := 0 }) (zP [.long (lN (a)), .long (lN (b))] D G (fun H => True)) (zQ (some (.long (lN (Nat.gcd a b))))) 0 0 (fun _ => False) := by
  refine Met.ofW (cc := cX2_greatestCommonDivisor) (maxL := 11) (ret := (some .long)) (by decide) rfl ?_
  intro p e s m args below meth c s₁ B hml hv
  obtain ⟨hav, hP, hK, hN⟩ := hv
  have hx := B.exec
  have hb := B.bytes
  have hr := B.returns
  have hts := atoms_spec (ws := wsX2_greatestCommonDivisor) B.pre
  have hown : s.vm.findClass RX2 = some m.cls := findClass_of_methodNamed B.named
  have hlocks : meth.locks = false := B.notSynchronized
  refine z_entry hav (Nat.le_of_ble_eq_true rfl) rfl (fun ls hl => ?_)
  have hl : lv_has ls 11 [(0, .long (lN (a))), (2, .long (lN (b)))] := hl
  refine lv_lload_n hx hb dX2_greatestCommonDivisor_0 rfl (lv_at hl 0 rfl) ?_
  refine lv_lstore (lv' := [(4, .long (lN (a))), (0, .long (lN (a))), (2, .long (lN (b)))]) hx hb dX2_greatestCommonDivisor_1 hl (by decide) rfl (fun ls hl => ?_)
  refine lv_lload_n hx hb dX2_greatestCommonDivisor_3 rfl (lv_at hl 2 rfl) ?_
  refine lv_lstore (lv' := [(6, .long (lN (b))), (4, .long (lN (a))), (0, .long (lN (a))), (2, .long (lN (b)))]) hx hb dX2_greatestCommonDivisor_4 hl (by decide) rfl (fun ls hl => ?_)
  refine lv_iconst (v := zI (0)) hx hb dX2_greatestCommonDivisor_6 rfl ?_
  refine lv_istore (lv' := [(8, .int (zI (0))), (6, .long (lN (b))), (4, .long (lN (a))), (0, .long (lN (a))), (2, .long (lN (b)))]) hx hb dX2_greatestCommonDivisor_7 hl (by decide) rfl (fun ls hl => ?_)
  have loop_9 : ∀ (fu : Nat) (x : Nat) (y : Nat) (t : Nat) (i : Int), (Nat.gcd x y = Nat.gcd a b) → (x < 4611686018427387904) → (y < 4611686018427387904) → (0 ≤ i) → (x * y < 2 ^ t) → ((y ≤ x ∧ i + (t : Int) ≤ 131) ∨ i + (t : Int) ≤ 130) → (131 : Int) - i < (fu : Int) → ∀ (ls : Array Slot), lv_has ls 11 [(4, .long (lN (x))), (6, .long (lN (y))), (8, .int (zI (i)))] → W p l e (headSpec wsX2_greatestCommonDivisor ({ frames := 0, cells := 0, slots := 0, locals := 0 })).room s m args below meth c s.heap [] 0 0 (MQ below (zQ (some (.long (lN (Nat.gcd a b))))) args s 0 0 (fun _ => False)) (F0 m 9 ls []) := by
    intro fu
    induction fu with
    | zero =>
      intro x y t i hg hx1 hy1 hi0 ht hor hm
      exfalso; omega
    | succ fu ih =>
      intro x y t i hg hx1 hy1 hi0 ht hor hm ls hl
      have ih_9 := ih
      refine lv_iload hx hb dX2_greatestCommonDivisor_9 (lv_at hl 2 rfl) ?_
      refine lv_ldc (v := 1000000) hx hb hown (hts (.constant RX2 246 (1000000)) (by decide +kernel)) dX2_greatestCommonDivisor_11 ?_
      refine z_raw (y := zI 1000000) (by decide) ?_
      refine z_icmp_ge (tgt := 44) hx hb (by omega) dX2_greatestCommonDivisor_13 (by decide) (fun c_1 => ?_) (fun c_1 => ?_)
      · exfalso; omega
      · refine lv_lload hx hb dX2_greatestCommonDivisor_16 (lv_at hl 1 rfl) ?_
        refine lv_lconst (v := lN 0) hx hb dX2_greatestCommonDivisor_18 (by decide) ?_
        refine W.lcmp hx hb dX2_greatestCommonDivisor_19 ?_
        refine lv_if_le (tgt := 44) hx hb dX2_greatestCommonDivisor_20 (by decide) (fun c_2 => ?_) (fun c_2 => ?_)
        · have hy0 : y = 0 := by have h9 := (lg_cmp_le _ _).mp c_2; rw [pk_lLE (by omega) (by omega)] at h9; omega
          refine lv_lload hx hb dX2_greatestCommonDivisor_44 (lv_at hl 0 rfl) ?_
          exact z_lret hx hb hr hlocks (by subst hy0; rw [Nat.gcd_zero_right] at hg; rw [hg]) dX2_greatestCommonDivisor_46
        · have hy0 : 0 < y := by
            have h9 := mt (lg_cmp_le _ _).mpr c_2
            rw [pk_lLE (by omega) (by omega)] at h9
            omega
          obtain ⟨t', ht', hor'⟩ := x_gcd_t hy0 ht hor
          refine lv_lload hx hb dX2_greatestCommonDivisor_23 (lv_at hl 0 rfl) ?_
          refine lv_lload hx hb dX2_greatestCommonDivisor_25 (lv_at hl 1 rfl) ?_
          refine lv_lrem hx hb dX2_greatestCommonDivisor_27 (by intro q; rw [show (0 : Int64) = lN 0 from rfl, pk_lEQ (by omega) (by omega)] at q; omega) ?_
          refine z_top (w := .long (lN (x % y))) (by rw [pk_lRem (by omega) hy0 (by omega)]) ?_
          refine lv_lstore (lv' := [(9, .long (lN (x % y))), (4, .long (lN (x))), (6, .long (lN (y))), (8, .int (zI (i)))]) hx hb dX2_greatestCommonDivisor_28 hl (by decide) rfl (fun ls hl => ?_)
          refine lv_lload hx hb dX2_greatestCommonDivisor_30 (lv_at hl 2 rfl) ?_
          refine lv_lstore (lv' := [(4, .long (lN (y))), (9, .long (lN (x % y))), (6, .long (lN (y))), (8, .int (zI (i)))]) hx hb dX2_greatestCommonDivisor_32 hl (by decide) rfl (fun ls hl => ?_)
          refine lv_lload hx hb dX2_greatestCommonDivisor_34 (lv_at hl 1 rfl) ?_
          refine lv_lstore (lv' := [(6, .long (lN (x % y))), (4, .long (lN (y))), (9, .long (lN (x % y))), (8, .int (zI (i)))]) hx hb dX2_greatestCommonDivisor_36 hl (by decide) rfl (fun ls hl => ?_)
          refine lv_iinc (v := zI (i + 1)) (lv' := [(8, .int (zI (i + 1))), (6, .long (lN (x % y))), (4, .long (lN (y))), (9, .long (lN (x % y)))]) hx hb dX2_greatestCommonDivisor_38 hl (k := 3) rfl (zI_add (i) (1)) (by decide) rfl (fun ls hl => ?_)
          refine lv_goto (tgt := 9) hx hb dX2_greatestCommonDivisor_41 (by decide) ?_
          exact ih_9 (y) (x % y) (t') (i + 1) (by rw [x_gcd_step]; exact hg) (by omega) (by have := Nat.mod_lt x hy0; omega) (by omega) (ht') (hor') (by omega) _ (lv_sub hl [2, 1, 0] rfl)
  exact loop_9 (132) (a) (b) (124) (0) (rfl) (by omega) (by omega) (by omega) (x_b126 ha hb0) (Or.inr (by omega)) (by omega) ls (lv_sub hl [2, 1, 0] rfl)

set_option maxHeartbeats 4000000 in
set_option maxRecDepth 100000 in
theorem kX2_leastCommonMultiple (l : Launch) (D : va_G) (G : Nat → ClassId) (a b : Nat) (ha : 0 < a ∧ a < 2147483648) (hb0 : 0 < b ∧ b < 2147483648) : Met l yX2_leastCommonMultiple wsX2_leastCommonMultiple ({ frames := 1, cells := 0, slots := 0, locals := 30 }) (zP [.long (lN (a)), .long (lN (b))] D G (fun H => True)) (zQ (some (.long (lN (Nat.lcm a b))))) 0 0 (fun _ => False) := by
  refine Met.ofW (cc := cX2_leastCommonMultiple) (maxL := 6) (ret := (some .long)) (by decide) rfl ?_
  intro p e s m args below meth c s₁ B hml hv
  obtain ⟨hav, hP, hK, hN⟩ := hv
  have hx := B.exec
  have hb := B.bytes
  have hr := B.returns
  have hts := atoms_spec (ws := wsX2_leastCommonMultiple) B.pre
  have hown : s.vm.findClass RX2 = some m.cls := findClass_of_methodNamed B.named
  have hlocks : meth.locks = false := B.notSynchronized
  have hg0 : 0 < Nat.gcd a b := Nat.gcd_pos_of_pos_left b ha.1
  have hg1 : Nat.gcd a b ≤ a := Nat.gcd_le_left b ha.1
  refine z_entry hav (Nat.le_of_ble_eq_true rfl) rfl (fun ls hl => ?_)
  have hl : lv_has ls 6 [(0, .long (lN (a))), (2, .long (lN (b)))] := hl
  refine lv_lload_n hx hb dX2_leastCommonMultiple_0 rfl (lv_at hl 0 rfl) ?_
  refine lv_lload_n hx hb dX2_leastCommonMultiple_1 rfl (lv_at hl 1 rfl) ?_
  refine z_call (va_runS (As := [.long (lN (a)), .long (lN (b))]) (rest := []) ⟨hx, hb, hml, hown, hts⟩ (kX2_greatestCommonDivisor l D G (a) (b) (by omega) (by omega)) (va_cwS 2 hts gX2_leastCommonMultiple_X2_greatestCommonDivisor rfl rfl rfl (by decide +kernel) ⟨Nat.le_of_ble_eq_true rfl, Nat.le_of_ble_eq_true rfl⟩) (zPreS hK hN (trivial)) rfl rfl hl.1 rfl (lv_room (Nat.le_of_ble_eq_true rfl)) dX2_leastCommonMultiple_2 ⟨Nat.le_of_ble_eq_true rfl, Nat.le_of_ble_eq_true rfl⟩) ?_
  refine lv_lstore (lv' := [(4, .long (lN (Nat.gcd (a) (b)))), (0, .long (lN (a))), (2, .long (lN (b)))]) hx hb dX2_leastCommonMultiple_5 hl (by decide) rfl (fun ls hl => ?_)
  refine lv_lload hx hb dX2_leastCommonMultiple_7 (lv_at hl 0 rfl) ?_
  refine lv_lconst (v := lN 0) hx hb dX2_leastCommonMultiple_9 (by decide) ?_
  refine W.lcmp hx hb dX2_leastCommonMultiple_10 ?_
  refine lv_if_le (tgt := 23) hx hb dX2_leastCommonMultiple_11 (by decide) (fun c_1 => ?_) (fun c_1 => ?_)
  · exfalso; have h9 := (lg_cmp_le _ _).mp c_1; rw [pk_lLE (by omega) (by omega)] at h9; omega
  · refine lv_lload_n hx hb dX2_leastCommonMultiple_14 rfl (lv_at hl 1 rfl) ?_
    refine lv_lload hx hb dX2_leastCommonMultiple_15 (lv_at hl 0 rfl) ?_
    refine lv_ldiv hx hb dX2_leastCommonMultiple_17 (by intro q; rw [show (0 : Int64) = lN 0 from rfl, pk_lEQ (by omega) (by omega)] at q; omega) ?_
    refine z_top (w := .long (lN (a / Nat.gcd a b))) (by rw [pk_lDiv (by omega) hg0 (by omega)]) ?_
    refine lv_lload_n hx hb dX2_leastCommonMultiple_18 rfl (lv_at hl 2 rfl) ?_
    refine lv_lmul hx hb dX2_leastCommonMultiple_19 ?_
    refine z_top (w := .long (lN (Nat.lcm a b))) (by rw [lN_mul, x_lcm ha.1]) ?_
    refine lv_goto (tgt := 24) hx hb dX2_leastCommonMultiple_20 (by decide) ?_
    exact z_lret hx hb hr hlocks (rfl) dX2_leastCommonMultiple_24

set_option maxHeartbeats 4000000 in
set_option maxRecDepth 100000 in
theorem kX3_divisor (l : Launch) (D : va_G) (G : Nat → ClassId) (a b : Nat) (ha : a < 4611686018427387904) (hb0 : b < 4611686018427387904) : Met l yX3_divisor wsX3_divisor ({ frames := 0, cells := 0, slots := 0, locals := 0 }) (zP [.long (lN (a)), .long (lN (b))] D G (fun H => True)) (zQ (some (.long (lN (Nat.gcd a b))))) 0 0 (fun _ => False) := by
  refine Met.ofW (cc := cX3_divisor) (maxL := 10) (ret := (some .long)) (by decide) rfl ?_
  intro p e s m args below meth c s₁ B hml hv
  obtain ⟨hav, hP, hK, hN⟩ := hv
  have hx := B.exec
  have hb := B.bytes
  have hr := B.returns
  have hts := atoms_spec (ws := wsX3_divisor) B.pre
  have hown : s.vm.findClass RX3 = some m.cls := findClass_of_methodNamed B.named
  have hlocks : meth.locks = false := B.notSynchronized
  refine z_entry hav (Nat.le_of_ble_eq_true rfl) rfl (fun ls hl => ?_)
  have hl : lv_has ls 10 [(0, .long (lN (a))), (2, .long (lN (b)))] := hl
  refine lv_lload_n hx hb dX3_divisor_0 rfl (lv_at hl 0 rfl) ?_
  refine lv_lstore (lv' := [(4, .long (lN (a))), (0, .long (lN (a))), (2, .long (lN (b)))]) hx hb dX3_divisor_1 hl (by decide) rfl (fun ls hl => ?_)
  refine lv_lload_n hx hb dX3_divisor_3 rfl (lv_at hl 2 rfl) ?_
  refine lv_lstore (lv' := [(6, .long (lN (b))), (4, .long (lN (a))), (0, .long (lN (a))), (2, .long (lN (b)))]) hx hb dX3_divisor_4 hl (by decide) rfl (fun ls hl => ?_)
  have loop_6 : ∀ (fu : Nat) (x : Nat) (y : Nat), (Nat.gcd x y = Nat.gcd a b) → (x < 4611686018427387904) → (y < 4611686018427387904) → (y : Int) < (fu : Int) → ∀ (ls : Array Slot), lv_has ls 10 [(4, .long (lN (x))), (6, .long (lN (y)))] → W p l e (headSpec wsX3_divisor ({ frames := 0, cells := 0, slots := 0, locals := 0 })).room s m args below meth c s.heap [] 0 0 (MQ below (zQ (some (.long (lN (Nat.gcd a b))))) args s 0 0 (fun _ => False)) (F0 m 6 ls []) := by
    intro fu
    induction fu with
    | zero =>
      intro x y hg hx1 hy1 hm
      exfalso; omega
    | succ fu ih =>
      intro x y hg hx1 hy1 hm ls hl
      have ih_6 := ih
      refine lv_lload hx hb dX3_divisor_6 (lv_at hl 1 rfl) ?_
      refine lv_lconst (v := lN 0) hx hb dX3_divisor_8 (by decide) ?_
      refine W.lcmp hx hb dX3_divisor_9 ?_
      refine lv_if_eq (tgt := 31) hx hb dX3_divisor_10 (by decide) (fun c_1 => ?_) (fun c_1 => ?_)
      · have hy0 : y = 0 := by have h9 := (lg_cmp_eq _ _).mp c_1; rw [pk_lEQ (by omega) (by omega)] at h9; omega
        refine lv_lload hx hb dX3_divisor_31 (lv_at hl 0 rfl) ?_
        exact z_lret hx hb hr hlocks (by subst hy0; rw [Nat.gcd_zero_right] at hg; rw [hg]) dX3_divisor_33
      · have hy0 : 0 < y := by
          have h9 := mt (lg_cmp_eq _ _).mpr c_1
          rw [pk_lEQ (by omega) (by omega)] at h9
          omega
        refine lv_lload hx hb dX3_divisor_13 (lv_at hl 0 rfl) ?_
        refine lv_lload hx hb dX3_divisor_15 (lv_at hl 1 rfl) ?_
        refine lv_lrem hx hb dX3_divisor_17 (by intro q; rw [show (0 : Int64) = lN 0 from rfl, pk_lEQ (by omega) (by omega)] at q; omega) ?_
        refine z_top (w := .long (lN (x % y))) (by rw [pk_lRem (by omega) hy0 (by omega)]) ?_
        refine lv_lstore (lv' := [(8, .long (lN (x % y))), (4, .long (lN (x))), (6, .long (lN (y)))]) hx hb dX3_divisor_18 hl (by decide) rfl (fun ls hl => ?_)
        refine lv_lload hx hb dX3_divisor_20 (lv_at hl 2 rfl) ?_
        refine lv_lstore (lv' := [(4, .long (lN (y))), (8, .long (lN (x % y))), (6, .long (lN (y)))]) hx hb dX3_divisor_22 hl (by decide) rfl (fun ls hl => ?_)
        refine lv_lload hx hb dX3_divisor_24 (lv_at hl 1 rfl) ?_
        refine lv_lstore (lv' := [(6, .long (lN (x % y))), (4, .long (lN (y))), (8, .long (lN (x % y)))]) hx hb dX3_divisor_26 hl (by decide) rfl (fun ls hl => ?_)
        refine lv_goto (tgt := 6) hx hb dX3_divisor_28 (by decide) ?_
        exact ih_6 (y) (x % y) (by rw [x_gcd_step]; exact hg) (by omega) (by have := Nat.mod_lt x hy0; omega) (by have := Nat.mod_lt x hy0; omega) _ (lv_sub hl [1, 0] rfl)
  exact loop_6 (b + 1) (a) (b) (rfl) (by omega) (by omega) (by omega) ls (lv_sub hl [1, 0] rfl)
end
section
set_option maxHeartbeats 4000000 in
set_option maxRecDepth 100000 in
theorem kX1_cell (l : Launch) (D : va_G) (G : Nat → ClassId) (ta ca pa : Nat) (f : Nat → Int) (cn : Nat → Int32) (k w : Int) (hf : f 0 ≤ 32) (hR : TR f cn) (hs : 0 ≤ k ∧ k < f 0) (hw : 0 ≤ w ∧ w < 4) : Met l yX1_cell wsX1_cell ({ frames := 1, cells := 0, slots := 0, locals := 21 }) (zP [.ref ta, .int (zI (k)), .int (zI (w))] D G (fun H => va_P D vwCl [(ta, .inr (1, [.int (zI (f 1)), .int (zI (f 0)), .int (zI (f 2)), .int (zI (f 3)), .int (zI (f 4)), .int (zI (f 5)), .int (zI (f 6)), .int (zI (f 7)), .ref ca, .ref pa])), (ca, .inl (G 0, 128, .inl (cn)))] H)) (zQ (some (.int (zI (xC f k w))))) 0 0 (fun _ => False) := by
  refine Met.ofW (cc := cX1_cell) (maxL := 3) (ret := (some .int)) (by decide) rfl ?_
  intro p e s m args below meth c s₁ B hml hv
  obtain ⟨hav, hP, hK, hN⟩ := hv
  have hx := B.exec
  have hb := B.bytes
  have hr := B.returns
  have hts := atoms_spec (ws := wsX1_cell) B.pre
  have hown : s.vm.findClass RX1 = some m.cls := findClass_of_methodNamed B.named
  have hlocks : meth.locks = false := B.notSynchronized
  have hin1 : ∀ w ∈ u_ws RX1 TX1 10, w ∈ wsX1_cell := by decide +kernel
  refine z_entry hav (Nat.le_of_ble_eq_true rfl) rfl (fun ls hl => ?_)
  have hl : lv_has ls 3 [(0, .ref ta), (1, .int (zI (k))), (2, .int (zI (w)))] := hl
  refine lv_aload_n hx hb dX1_cell_0 rfl (lv_at hl 0 rfl) ?_
  refine va_get (D := D) (ci := 1) (v := .ref ca) (C := RX1) (T := TX1) (N := 10) hx hb hts hin1 hown hK hP 0 rfl rfl 8 (by decide) (hts (.fieldLink RX1 31 "PolyDrums$Track" "cells" "[I") (by decide +kernel)) (fun _ h9 => h9) rfl dX1_cell_1 ?_
  refine lv_iload_n hx hb dX1_cell_4 rfl (lv_at hl 1 rfl) ?_
  refine lv_iconst (v := zI (4)) hx hb dX1_cell_5 rfl ?_
  refine z_imul hx hb dX1_cell_6 ?_
  refine lv_iload_n hx hb dX1_cell_7 rfl (lv_at hl 2 rfl) ?_
  refine z_iadd hx hb dX1_cell_8 ?_
  refine z_call (va_runSN (As := [.ref ca, .int (zI (((k) * (4)) + (w)))]) (rest := []) ⟨hx, hb, hml, hown, hts⟩ (kX2_read l D G ca 128 cn (((k) * (4)) + (w)) (zI (xC f k w)) (by omega) (by omega) (by rw [show k * 4 + w = 4 * k + w by omega]; exact hR k w hs.1 hs.2 hw.1 hw.2)) ⟨va_cnB 2 hts gX1_cell_X2_read_n48 rfl rfl rfl (hN.1 (RX1, 48, yX2_read) (by decide +kernel)) (hts (.initialized RX2) (by decide +kernel)) (by decide +kernel) ⟨Nat.le_of_ble_eq_true rfl, Nat.le_of_ble_eq_true rfl⟩, hts (.static yX2_read) (by decide +kernel), trivial⟩ (zPreS hK hN (hP.sub [1] rfl)) rfl rfl hl.1 rfl (lv_room (Nat.le_of_ble_eq_true rfl)) dX1_cell_9 ⟨Nat.le_of_ble_eq_true rfl, Nat.le_of_ble_eq_true rfl⟩) ?_
  exact z_iret hx hb hr hlocks (by first | rfl | omega) dX1_cell_12

set_option maxHeartbeats 4000000 in
set_option maxRecDepth 100000 in
theorem kX1_delay (l : Launch) (D : va_G) (G : Nat → ClassId) (ta ca pa : Nat) (f : Nat → Int) (k : Int) (hs : 0 ≤ k ∧ k ≤ 1000) : Met l yX1_delay wsX1_delay ({ frames := 0, cells := 0, slots := 0, locals := 0 }) (zP [.ref ta, .int (zI (k))] D G (fun H => va_P D vwCl [(ta, .inr (1, [.int (zI (f 1)), .int (zI (f 0)), .int (zI (f 2)), .int (zI (f 3)), .int (zI (f 4)), .int (zI (f 5)), .int (zI (f 6)), .int (zI (f 7)), .ref ca, .ref pa]))] H)) (zQ (some (.int (zI (xDelay f k))))) 0 0 (fun _ => False) := by
  refine Met.ofW (cc := cX1_delay) (maxL := 2) (ret := (some .int)) (by decide) rfl ?_
  intro p e s m args below meth c s₁ B hml hv
  obtain ⟨hav, hP, hK, hN⟩ := hv
  have hx := B.exec
  have hb := B.bytes
  have hr := B.returns
  have hts := atoms_spec (ws := wsX1_delay) B.pre
  have hown : s.vm.findClass RX1 = some m.cls := findClass_of_methodNamed B.named
  have hlocks : meth.locks = false := B.notSynchronized
  have hin1 : ∀ w ∈ u_ws RX1 TX1 10, w ∈ wsX1_delay := by decide +kernel
  refine z_entry hav (Nat.le_of_ble_eq_true rfl) rfl (fun ls hl => ?_)
  have hl : lv_has ls 2 [(0, .ref ta), (1, .int (zI (k)))] := hl
  refine lv_iload_n hx hb dX1_delay_0 rfl (lv_at hl 1 rfl) ?_
  refine lv_iconst (v := zI (2)) hx hb dX1_delay_1 rfl ?_
  refine z_irem hx hb (by omega) dX1_delay_2 ?_
  refine lv_iconst (v := zI (1)) hx hb dX1_delay_3 rfl ?_
  refine z_icmp_ne (tgt := 14) hx hb (by omega) dX1_delay_4 (by decide) (fun c_1 => ?_) (fun c_1 => ?_)
  · refine lv_iconst (v := zI (0)) hx hb dX1_delay_14 rfl ?_
    exact z_iret hx hb hr hlocks (by unfold xDelay; rw [if_neg (by omega)]) dX1_delay_15
  · refine lv_aload_n hx hb dX1_delay_7 rfl (lv_at hl 0 rfl) ?_
    refine va_get (D := D) (ci := 1) (v := .int (zI (f 2))) (C := RX1) (T := TX1) (N := 10) hx hb hts hin1 hown hK hP 0 rfl rfl 2 (by decide) (hts (.fieldLink RX1 9 "PolyDrums$Track" "swing" "I") (by decide +kernel)) (fun _ h9 => h9) rfl dX1_delay_8 ?_
    refine lv_goto (tgt := 15) hx hb dX1_delay_11 (by decide) ?_
    exact z_iret hx hb hr hlocks (by unfold xDelay; rw [if_pos (by omega)]) dX1_delay_15

set_option maxHeartbeats 4000000 in
set_option maxRecDepth 100000 in
theorem kX1_roundTicks (l : Launch) (D : va_G) (G : Nat → ClassId) (ta ca pa : Nat) (f : Nat → Int)  : Met l yX1_roundTicks wsX1_roundTicks ({ frames := 0, cells := 0, slots := 0, locals := 0 }) (zP [.ref ta] D G (fun H => va_P D vwCl [(ta, .inr (1, [.int (zI (f 1)), .int (zI (f 0)), .int (zI (f 2)), .int (zI (f 3)), .int (zI (f 4)), .int (zI (f 5)), .int (zI (f 6)), .int (zI (f 7)), .ref ca, .ref pa]))] H)) (zQ (some (.int (zI (f 0 * f 1))))) 0 0 (fun _ => False) := by
  refine Met.ofW (cc := cX1_roundTicks) (maxL := 1) (ret := (some .int)) (by decide) rfl ?_
  intro p e s m args below meth c s₁ B hml hv
  obtain ⟨hav, hP, hK, hN⟩ := hv
  have hx := B.exec
  have hb := B.bytes
  have hr := B.returns
  have hts := atoms_spec (ws := wsX1_roundTicks) B.pre
  have hown : s.vm.findClass RX1 = some m.cls := findClass_of_methodNamed B.named
  have hlocks : meth.locks = false := B.notSynchronized
  have hin1 : ∀ w ∈ u_ws RX1 TX1 10, w ∈ wsX1_roundTicks := by decide +kernel
  refine z_entry hav (Nat.le_of_ble_eq_true rfl) rfl (fun ls hl => ?_)
  have hl : lv_has ls 1 [(0, .ref ta)] := hl
  refine lv_aload_n hx hb dX1_roundTicks_0 rfl (lv_at hl 0 rfl) ?_
  refine va_get (D := D) (ci := 1) (v := .int (zI (f 0))) (C := RX1) (T := TX1) (N := 10) hx hb hts hin1 hown hK hP 0 rfl rfl 1 (by decide) (hts (.fieldLink RX1 38 "PolyDrums$Track" "steps" "I") (by decide +kernel)) (fun _ h9 => h9) rfl dX1_roundTicks_1 ?_
  refine lv_aload_n hx hb dX1_roundTicks_4 rfl (lv_at hl 0 rfl) ?_
  refine va_get (D := D) (ci := 1) (v := .int (zI (f 1))) (C := RX1) (T := TX1) (N := 10) hx hb hts hin1 hown hK hP 0 rfl rfl 0 (by decide) (hts (.fieldLink RX1 41 "PolyDrums$Track" "stepTicks" "I") (by decide +kernel)) (fun _ h9 => h9) rfl dX1_roundTicks_5 ?_
  refine z_imul hx hb dX1_roundTicks_8 ?_
  exact z_iret hx hb hr hlocks (by first | rfl | omega) dX1_roundTicks_9

set_option maxHeartbeats 4000000 in
set_option maxRecDepth 100000 in
theorem kX1_isStroke (l : Launch) (D : va_G) (G : Nat → ClassId) (t span r : Int) (ht : -1000 ≤ t ∧ t ≤ 100000) (hsp : 0 ≤ span ∧ span ≤ 48) (hr4 : 1 ≤ r ∧ r ≤ 4) : Met l yX1_isStroke wsX1_isStroke ({ frames := 1, cells := 0, slots := 0, locals := 21 }) (zP [.int (zI (t)), .int (zI (span)), .int (zI (r))] D G (fun H => True)) (zQ (some (.int (zB (xStroke t span r))))) 0 0 (fun _ => False) := by
  refine Met.ofW (cc := cX1_isStroke) (maxL := 4) (ret := (some .boolean)) (by decide) rfl ?_
  intro p e s m args below meth c s₁ B hml hv
  obtain ⟨hav, hP, hK, hN⟩ := hv
  have hx := B.exec
  have hb := B.bytes
  have hr := B.returns
  have hts := atoms_spec (ws := wsX1_isStroke) B.pre
  have hown : s.vm.findClass RX1 = some m.cls := findClass_of_methodNamed B.named
  have hlocks : meth.locks = false := B.notSynchronized
  refine z_entry hav (Nat.le_of_ble_eq_true rfl) rfl (fun ls hl => ?_)
  have hl : lv_has ls 4 [(0, .int (zI (t))), (1, .int (zI (span))), (2, .int (zI (r)))] := hl
  refine lv_iconst (v := zI (0)) hx hb dX1_isStroke_0 rfl ?_
  refine lv_istore_n (lv' := [(3, .int (zI (0))), (0, .int (zI (t))), (1, .int (zI (span))), (2, .int (zI (r)))]) hx hb dX1_isStroke_1 rfl hl (by decide) rfl (fun ls hl => ?_)
  have loop_2 : ∀ (fu : Nat) (i : Int), (0 ≤ i ∧ i ≤ r) → (∀ j : Int, 0 ≤ j → j < i → ¬ t = j * span / r) → r - i < (fu : Int) → ∀ (ls : Array Slot), lv_has ls 4 [(0, .int (zI (t))), (1, .int (zI (span))), (2, .int (zI (r))), (3, .int (zI (i)))] → W p l e (headSpec wsX1_isStroke ({ frames := 1, cells := 0, slots := 0, locals := 21 })).room s m args below meth c s.heap [] 0 0 (MQ below (zQ (some (.int (zB (xStroke t span r))))) args s 0 0 (fun _ => False)) (F0 m 2 ls []) := by
    intro fu
    induction fu with
    | zero =>
      intro i hi0 hno hm
      exfalso; omega
    | succ fu ih =>
      intro i hi0 hno hm ls hl
      have hm := x_mulb 4 48 hi0.1 (by omega) hsp.1 hsp.2
      have hq := x_divb (r := r) hm.1 (by omega)
      have ih_2 := ih
      refine lv_iload_n hx hb dX1_isStroke_2 rfl (lv_at hl 3 rfl) ?_
      refine lv_iload_n hx hb dX1_isStroke_3 rfl (lv_at hl 2 rfl) ?_
      refine z_icmp_ge (tgt := 26) hx hb (by omega) dX1_isStroke_4 (by decide) (fun c_1 => ?_) (fun c_1 => ?_)
      · refine lv_iconst (v := zI (0)) hx hb dX1_isStroke_26 rfl ?_
        exact z_zretF hx hb hr hlocks (fun ⟨j, h1, h2, h3⟩ => hno j h1 (by omega) h3) dX1_isStroke_27
      · refine lv_iload_n hx hb dX1_isStroke_7 rfl (lv_at hl 0 rfl) ?_
        refine lv_iload_n hx hb dX1_isStroke_8 rfl (lv_at hl 3 rfl) ?_
        refine lv_iload_n hx hb dX1_isStroke_9 rfl (lv_at hl 1 rfl) ?_
        refine z_imul hx hb dX1_isStroke_10 ?_
        refine lv_iload_n hx hb dX1_isStroke_11 rfl (lv_at hl 2 rfl) ?_
        refine z_call (va_runSN (As := [.int (zI ((i) * (span))), .int (zI (r))]) (rest := [.int (zI (t))]) ⟨hx, hb, hml, hown, hts⟩ (kX2_quotient l D G ((i) * (span)) (r) (by omega) (by omega)) ⟨va_cnB 2 hts gX1_isStroke_X2_quotient_n92 rfl rfl rfl (hN.1 (RX1, 92, yX2_quotient) (by decide +kernel)) (hts (.initialized RX2) (by decide +kernel)) (by decide +kernel) ⟨Nat.le_of_ble_eq_true rfl, Nat.le_of_ble_eq_true rfl⟩, hts (.static yX2_quotient) (by decide +kernel), trivial⟩ (zPreS hK hN (trivial)) rfl rfl hl.1 rfl (lv_room (Nat.le_of_ble_eq_true rfl)) dX1_isStroke_12 ⟨Nat.le_of_ble_eq_true rfl, Nat.le_of_ble_eq_true rfl⟩) ?_
        refine z_icmp_ne (tgt := 20) hx hb (by omega) dX1_isStroke_15 (by decide) (fun c_2 => ?_) (fun c_2 => ?_)
        · refine lv_iinc (v := zI (i + 1)) (lv' := [(3, .int (zI (i + 1))), (0, .int (zI (t))), (1, .int (zI (span))), (2, .int (zI (r)))]) hx hb dX1_isStroke_20 hl (k := 3) rfl (zI_add (i) (1)) (by decide) rfl (fun ls hl => ?_)
          refine lv_goto (tgt := 2) hx hb dX1_isStroke_23 (by decide) ?_
          exact ih_2 (i + 1) (by omega) (x_lts hno c_2) (by omega) _ (lv_sub hl [1, 2, 3, 0] rfl)
        · refine lv_iconst (v := zI (1)) hx hb dX1_isStroke_18 rfl ?_
          exact z_zretT hx hb hr hlocks (⟨i, hi0.1, by omega, c_2⟩) dX1_isStroke_19
  exact loop_2 (5) (0) (by omega) (fun j h1 h2 => by omega) (by omega) ls (lv_sub hl [1, 2, 3, 0] rfl)

set_option maxHeartbeats 4000000 in
set_option maxRecDepth 100000 in
theorem kX1_forceAt (l : Launch) (D : va_G) (G : Nat → ClassId) (ta ca pa : Nat) (f : Nat → Int) (cn : Nat → Int32) (u : Int) (hf : TOK f) (hR : TR f cn) (hu : 0 ≤ u ∧ u ≤ 99999) : Met l yX1_forceAt wsX1_forceAt ({ frames := 2, cells := 0, slots := 0, locals := 44 }) (zP [.ref ta, .int (zI (u))] D G (fun H => va_P D vwCl [(ta, .inr (1, [.int (zI (f 1)), .int (zI (f 0)), .int (zI (f 2)), .int (zI (f 3)), .int (zI (f 4)), .int (zI (f 5)), .int (zI (f 6)), .int (zI (f 7)), .ref ca, .ref pa])), (ca, .inl (G 0, 128, .inl (cn)))] H)) (zQ (some (.int (zI (xForce f u))))) 0 0 (fun _ => False) := by
  refine Met.ofW (cc := cX1_forceAt) (maxL := 8) (ret := (some .int)) (by decide) rfl ?_
  intro p e s m args below meth c s₁ B hml hv
  obtain ⟨hav, hP, hK, hN⟩ := hv
  have hx := B.exec
  have hb := B.bytes
  have hr := B.returns
  have hts := atoms_spec (ws := wsX1_forceAt) B.pre
  have hown : s.vm.findClass RX1 = some m.cls := findClass_of_methodNamed B.named
  have hlocks : meth.locks = false := B.notSynchronized
  have hin1 : ∀ w ∈ u_ws RX1 TX1 10, w ∈ wsX1_forceAt := by decide +kernel
  have hr1 := x_round hf
  have hp1 := x_place hf u
  have hd1 := xDelay_b hf (xS f u)
  have hf1 : f 0 ≤ 32 ∧ 1 ≤ f 1 ∧ f 1 ≤ 48 := by unfold TOK at hf; omega
  have hc1 := hf.2.2.2.2.2.2.2.2.2.2.2.2.2 (xS f u) hp1.2.2.1 hp1.2.2.2.1
  have hq1 := x_divb (a := u) (r := f 0 * f 1) hu.1 (by omega)
  have hm1 := x_modb (a := u / (f 0 * f 1)) (r := xC f (xS f u) 3) (by omega)
  refine z_entry hav (Nat.le_of_ble_eq_true rfl) rfl (fun ls hl => ?_)
  have hl : lv_has ls 8 [(0, .ref ta), (1, .int (zI (u)))] := hl
  refine lv_iload_n hx hb dX1_forceAt_0 rfl (lv_at hl 1 rfl) ?_
  refine lv_aload_n hx hb dX1_forceAt_1 rfl (lv_at hl 0 rfl) ?_
  refine z_call (va_runV (As := []) (rest := [.int (zI (u))]) ⟨hx, hb, hml, hown, hts⟩ (kX1_roundTicks l D G ta ca pa f) (cwV 0 hts gX1_forceAt_X1_roundTicks rfl rfl rfl (by decide +kernel) ⟨Nat.le_of_ble_eq_true rfl, Nat.le_of_ble_eq_true rfl⟩) (zPreV (va_recv hK hP (ci := 1) (q0 := 0) rfl rfl) hK hN (hP.sub [0] rfl)) rfl rfl hl.1 rfl (lv_room (Nat.le_of_ble_eq_true rfl)) dX1_forceAt_2 ⟨Nat.le_of_ble_eq_true rfl, Nat.le_of_ble_eq_true rfl⟩) ?_
  refine z_call (va_runSN (As := [.int (zI (u)), .int (zI (f 0 * f 1))]) (rest := []) ⟨hx, hb, hml, hown, hts⟩ (kX2_quotient l D G (u) (f 0 * f 1) (by omega) (by omega)) ⟨va_cnB 2 hts gX1_forceAt_X2_quotient_n92 rfl rfl rfl (hN.1 (RX1, 92, yX2_quotient) (by decide +kernel)) (hts (.initialized RX2) (by decide +kernel)) (by decide +kernel) ⟨Nat.le_of_ble_eq_true rfl, Nat.le_of_ble_eq_true rfl⟩, hts (.static yX2_quotient) (by decide +kernel), trivial⟩ (zPreS hK hN (trivial)) rfl rfl hl.1 rfl (lv_room (Nat.le_of_ble_eq_true rfl)) dX1_forceAt_5 ⟨Nat.le_of_ble_eq_true rfl, Nat.le_of_ble_eq_true rfl⟩) ?_
  refine lv_istore_n (lv' := [(2, .int (zI ((u) / (f 0 * f 1)))), (0, .ref ta), (1, .int (zI (u)))]) hx hb dX1_forceAt_8 rfl hl (by decide) rfl (fun ls hl => ?_)
  refine lv_iload_n hx hb dX1_forceAt_9 rfl (lv_at hl 2 rfl) ?_
  refine lv_aload_n hx hb dX1_forceAt_10 rfl (lv_at hl 1 rfl) ?_
  refine z_call (va_runV (As := []) (rest := [.int (zI (u))]) ⟨hx, hb, hml, hown, hts⟩ (kX1_roundTicks l D G ta ca pa f) (cwV 0 hts gX1_forceAt_X1_roundTicks rfl rfl rfl (by decide +kernel) ⟨Nat.le_of_ble_eq_true rfl, Nat.le_of_ble_eq_true rfl⟩) (zPreV (va_recv hK hP (ci := 1) (q0 := 0) rfl rfl) hK hN (hP.sub [0] rfl)) rfl rfl hl.1 rfl (lv_room (Nat.le_of_ble_eq_true rfl)) dX1_forceAt_11 ⟨Nat.le_of_ble_eq_true rfl, Nat.le_of_ble_eq_true rfl⟩) ?_
  refine z_call (va_runSN (As := [.int (zI (u)), .int (zI (f 0 * f 1))]) (rest := []) ⟨hx, hb, hml, hown, hts⟩ (kX2_rest l D G (u) (f 0 * f 1) (by omega) (by omega)) ⟨va_cnB 2 hts gX1_forceAt_X2_rest_n60 rfl rfl rfl (hN.1 (RX1, 60, yX2_rest) (by decide +kernel)) (hts (.initialized RX2) (by decide +kernel)) (by decide +kernel) ⟨Nat.le_of_ble_eq_true rfl, Nat.le_of_ble_eq_true rfl⟩, hts (.static yX2_rest) (by decide +kernel), trivial⟩ (zPreS hK hN (trivial)) rfl rfl hl.1 rfl (lv_room (Nat.le_of_ble_eq_true rfl)) dX1_forceAt_14 ⟨Nat.le_of_ble_eq_true rfl, Nat.le_of_ble_eq_true rfl⟩) ?_
  refine z_val (y := xP f u) (rfl) ?_
  refine lv_istore_n (lv' := [(3, .int (zI (xP f u))), (2, .int (zI ((u) / (f 0 * f 1)))), (0, .ref ta), (1, .int (zI (u)))]) hx hb dX1_forceAt_17 rfl hl (by decide) rfl (fun ls hl => ?_)
  refine lv_iload_n hx hb dX1_forceAt_18 rfl (lv_at hl 0 rfl) ?_
  refine lv_aload_n hx hb dX1_forceAt_19 rfl (lv_at hl 2 rfl) ?_
  refine va_get (D := D) (ci := 1) (v := .int (zI (f 1))) (C := RX1) (T := TX1) (N := 10) hx hb hts hin1 hown hK hP 0 rfl rfl 0 (by decide) (hts (.fieldLink RX1 41 "PolyDrums$Track" "stepTicks" "I") (by decide +kernel)) (fun _ h9 => h9) rfl dX1_forceAt_20 ?_
  refine z_call (va_runSN (As := [.int (zI (xP f u)), .int (zI (f 1))]) (rest := []) ⟨hx, hb, hml, hown, hts⟩ (kX2_quotient l D G (xP f u) (f 1) (by omega) (by omega)) ⟨va_cnB 2 hts gX1_forceAt_X2_quotient_n92 rfl rfl rfl (hN.1 (RX1, 92, yX2_quotient) (by decide +kernel)) (hts (.initialized RX2) (by decide +kernel)) (by decide +kernel) ⟨Nat.le_of_ble_eq_true rfl, Nat.le_of_ble_eq_true rfl⟩, hts (.static yX2_quotient) (by decide +kernel), trivial⟩ (zPreS hK hN (trivial)) rfl rfl hl.1 rfl (lv_room (Nat.le_of_ble_eq_true rfl)) dX1_forceAt_23 ⟨Nat.le_of_ble_eq_true rfl, Nat.le_of_ble_eq_true rfl⟩) ?_
  refine z_val (y := xS f u) (rfl) ?_
  refine lv_istore (lv' := [(4, .int (zI (xS f u))), (3, .int (zI (xP f u))), (2, .int (zI ((u) / (f 0 * f 1)))), (0, .ref ta), (1, .int (zI (u)))]) hx hb dX1_forceAt_26 hl (by decide) rfl (fun ls hl => ?_)
  refine lv_iload_n hx hb dX1_forceAt_28 rfl (lv_at hl 2 rfl) ?_
  refine lv_aload_n hx hb dX1_forceAt_29 rfl (lv_at hl 3 rfl) ?_
  refine lv_iload hx hb dX1_forceAt_30 (lv_at hl 0 rfl) ?_
  refine lv_iconst (v := zI (3)) hx hb dX1_forceAt_32 rfl ?_
  refine z_call (va_runV (As := [.int (zI (xS f u)), .int (zI (3))]) (rest := [.int (zI ((u) / (f 0 * f 1)))]) ⟨hx, hb, hml, hown, hts⟩ (kX1_cell l D G ta ca pa f cn (xS f u) (3) (by have := hf; unfold TOK at this; omega) hR (by omega) (by omega)) (cwV 2 hts gX1_forceAt_X1_cell rfl rfl rfl (by decide +kernel) ⟨Nat.le_of_ble_eq_true rfl, Nat.le_of_ble_eq_true rfl⟩) (zPreV (va_recv hK hP (ci := 1) (q0 := 0) rfl rfl) hK hN (hP.sub [0, 1] rfl)) rfl rfl hl.1 rfl (lv_room (Nat.le_of_ble_eq_true rfl)) dX1_forceAt_33 ⟨Nat.le_of_ble_eq_true rfl, Nat.le_of_ble_eq_true rfl⟩) ?_
  refine z_call (va_runSN (As := [.int (zI ((u) / (f 0 * f 1))), .int (zI (xC f (xS f u) 3))]) (rest := []) ⟨hx, hb, hml, hown, hts⟩ (kX2_rest l D G ((u) / (f 0 * f 1)) (xC f (xS f u) 3) (by omega) (by omega)) ⟨va_cnB 2 hts gX1_forceAt_X2_rest_n60 rfl rfl rfl (hN.1 (RX1, 60, yX2_rest) (by decide +kernel)) (hts (.initialized RX2) (by decide +kernel)) (by decide +kernel) ⟨Nat.le_of_ble_eq_true rfl, Nat.le_of_ble_eq_true rfl⟩, hts (.static yX2_rest) (by decide +kernel), trivial⟩ (zPreS hK hN (trivial)) rfl rfl hl.1 rfl (lv_room (Nat.le_of_ble_eq_true rfl)) dX1_forceAt_36 ⟨Nat.le_of_ble_eq_true rfl, Nat.le_of_ble_eq_true rfl⟩) ?_
  refine lv_aload_n hx hb dX1_forceAt_39 rfl (lv_at hl 3 rfl) ?_
  refine lv_iload hx hb dX1_forceAt_40 (lv_at hl 0 rfl) ?_
  refine lv_iconst (v := zI (2)) hx hb dX1_forceAt_42 rfl ?_
  refine z_call (va_runV (As := [.int (zI (xS f u)), .int (zI (2))]) (rest := [.int (zI (((u) / (f 0 * f 1)) % (xC f (xS f u) 3)))]) ⟨hx, hb, hml, hown, hts⟩ (kX1_cell l D G ta ca pa f cn (xS f u) (2) (by have := hf; unfold TOK at this; omega) hR (by omega) (by omega)) (cwV 2 hts gX1_forceAt_X1_cell rfl rfl rfl (by decide +kernel) ⟨Nat.le_of_ble_eq_true rfl, Nat.le_of_ble_eq_true rfl⟩) (zPreV (va_recv hK hP (ci := 1) (q0 := 0) rfl rfl) hK hN (hP.sub [0, 1] rfl)) rfl rfl hl.1 rfl (lv_room (Nat.le_of_ble_eq_true rfl)) dX1_forceAt_43 ⟨Nat.le_of_ble_eq_true rfl, Nat.le_of_ble_eq_true rfl⟩) ?_
  refine z_icmp_eq (tgt := 51) hx hb (by omega) dX1_forceAt_46 (by decide) (fun c_1 => ?_) (fun c_1 => ?_)
  · refine lv_aload_n hx hb dX1_forceAt_51 rfl (lv_at hl 3 rfl) ?_
    refine lv_iload hx hb dX1_forceAt_52 (lv_at hl 0 rfl) ?_
    refine z_call (va_runV (As := [.int (zI (xS f u))]) (rest := []) ⟨hx, hb, hml, hown, hts⟩ (kX1_delay l D G ta ca pa f (xS f u) (by omega)) (cwV 1 hts gX1_forceAt_X1_delay rfl rfl rfl (by decide +kernel) ⟨Nat.le_of_ble_eq_true rfl, Nat.le_of_ble_eq_true rfl⟩) (zPreV (va_recv hK hP (ci := 1) (q0 := 0) rfl rfl) hK hN (hP.sub [0] rfl)) rfl rfl hl.1 rfl (lv_room (Nat.le_of_ble_eq_true rfl)) dX1_forceAt_54 ⟨Nat.le_of_ble_eq_true rfl, Nat.le_of_ble_eq_true rfl⟩) ?_
    refine lv_istore (lv' := [(5, .int (zI (xDelay f (xS f u)))), (4, .int (zI (xS f u))), (3, .int (zI (xP f u))), (2, .int (zI ((u) / (f 0 * f 1)))), (0, .ref ta), (1, .int (zI (u)))]) hx hb dX1_forceAt_57 hl (by decide) rfl (fun ls hl => ?_)
    refine lv_iload_n hx hb dX1_forceAt_59 rfl (lv_at hl 2 rfl) ?_
    refine lv_iload hx hb dX1_forceAt_60 (lv_at hl 1 rfl) ?_
    refine lv_aload_n hx hb dX1_forceAt_62 rfl (lv_at hl 4 rfl) ?_
    refine va_get (D := D) (ci := 1) (v := .int (zI (f 1))) (C := RX1) (T := TX1) (N := 10) hx hb hts hin1 hown hK hP 0 rfl rfl 0 (by decide) (hts (.fieldLink RX1 41 "PolyDrums$Track" "stepTicks" "I") (by decide +kernel)) (fun _ h9 => h9) rfl dX1_forceAt_63 ?_
    refine z_imul hx hb dX1_forceAt_66 ?_
    refine z_isub hx hb dX1_forceAt_67 ?_
    refine lv_iload hx hb dX1_forceAt_68 (lv_at hl 0 rfl) ?_
    refine z_isub hx hb dX1_forceAt_70 ?_
    refine lv_istore (lv' := [(6, .int (zI (((xP f u) - ((xS f u) * (f 1))) - (xDelay f (xS f u))))), (5, .int (zI (xDelay f (xS f u)))), (4, .int (zI (xS f u))), (3, .int (zI (xP f u))), (2, .int (zI ((u) / (f 0 * f 1)))), (0, .ref ta), (1, .int (zI (u)))]) hx hb dX1_forceAt_71 hl (by decide) rfl (fun ls hl => ?_)
    refine lv_iload hx hb dX1_forceAt_73 (lv_at hl 0 rfl) ?_
    refine lv_aload_n hx hb dX1_forceAt_75 rfl (lv_at hl 5 rfl) ?_
    refine va_get (D := D) (ci := 1) (v := .int (zI (f 1))) (C := RX1) (T := TX1) (N := 10) hx hb hts hin1 hown hK hP 0 rfl rfl 0 (by decide) (hts (.fieldLink RX1 41 "PolyDrums$Track" "stepTicks" "I") (by decide +kernel)) (fun _ h9 => h9) rfl dX1_forceAt_76 ?_
    refine lv_iload hx hb dX1_forceAt_79 (lv_at hl 1 rfl) ?_
    refine z_isub hx hb dX1_forceAt_81 ?_
    refine lv_aload_n hx hb dX1_forceAt_82 rfl (lv_at hl 5 rfl) ?_
    refine lv_iload hx hb dX1_forceAt_83 (lv_at hl 2 rfl) ?_
    refine lv_iconst (v := zI (1)) hx hb dX1_forceAt_85 rfl ?_
    refine z_call (va_runV (As := [.int (zI (xS f u)), .int (zI (1))]) (rest := [.int (zI ((f 1) - (xDelay f (xS f u)))), .int (zI (((xP f u) - ((xS f u) * (f 1))) - (xDelay f (xS f u))))]) ⟨hx, hb, hml, hown, hts⟩ (kX1_cell l D G ta ca pa f cn (xS f u) (1) (by have := hf; unfold TOK at this; omega) hR (by omega) (by omega)) (cwV 2 hts gX1_forceAt_X1_cell rfl rfl rfl (by decide +kernel) ⟨Nat.le_of_ble_eq_true rfl, Nat.le_of_ble_eq_true rfl⟩) (zPreV (va_recv hK hP (ci := 1) (q0 := 0) rfl rfl) hK hN (hP.sub [0, 1] rfl)) rfl rfl hl.1 rfl (lv_room (Nat.le_of_ble_eq_true rfl)) dX1_forceAt_86 ⟨Nat.le_of_ble_eq_true rfl, Nat.le_of_ble_eq_true rfl⟩) ?_
    refine z_call (va_runS (As := [.int (zI (((xP f u) - ((xS f u) * (f 1))) - (xDelay f (xS f u)))), .int (zI ((f 1) - (xDelay f (xS f u)))), .int (zI (xC f (xS f u) 1))]) (rest := []) ⟨hx, hb, hml, hown, hts⟩ (kX1_isStroke l D G (((xP f u) - ((xS f u) * (f 1))) - (xDelay f (xS f u))) ((f 1) - (xDelay f (xS f u))) (xC f (xS f u) 1) (by omega) (by omega) (by omega)) (va_cwS 3 hts gX1_forceAt_X1_isStroke rfl rfl rfl (by decide +kernel) ⟨Nat.le_of_ble_eq_true rfl, Nat.le_of_ble_eq_true rfl⟩) (zPreS hK hN (trivial)) rfl rfl hl.1 rfl (lv_room (Nat.le_of_ble_eq_true rfl)) dX1_forceAt_89 ⟨Nat.le_of_ble_eq_true rfl, Nat.le_of_ble_eq_true rfl⟩) ?_
    refine lv_istore (lv' := [(7, .int (zB (xStroke (((xP f u) - ((xS f u) * (f 1))) - (xDelay f (xS f u))) ((f 1) - (xDelay f (xS f u))) (xC f (xS f u) 1)))), (6, .int (zI (((xP f u) - ((xS f u) * (f 1))) - (xDelay f (xS f u))))), (5, .int (zI (xDelay f (xS f u)))), (4, .int (zI (xS f u))), (3, .int (zI (xP f u))), (2, .int (zI ((u) / (f 0 * f 1)))), (0, .ref ta), (1, .int (zI (u)))]) hx hb dX1_forceAt_92 hl (by decide) rfl (fun ls hl => ?_)
    refine lv_iload hx hb dX1_forceAt_94 (lv_at hl 0 rfl) ?_
    refine z_eqB (tgt := 109) hx hb dX1_forceAt_96 (by decide) (fun c_2 => ?_) (fun c_2 => ?_)
    · refine lv_iconst (v := zI (0)) hx hb dX1_forceAt_109 rfl ?_
      exact z_iret hx hb hr hlocks ((xForce_f (fun q => c_2 q.2)).symm) dX1_forceAt_110
    · refine lv_aload_n hx hb dX1_forceAt_99 rfl (lv_at hl 6 rfl) ?_
      refine lv_iload hx hb dX1_forceAt_100 (lv_at hl 3 rfl) ?_
      refine lv_iconst (v := zI (0)) hx hb dX1_forceAt_102 rfl ?_
      refine z_call (va_runV (As := [.int (zI (xS f u)), .int (zI (0))]) (rest := []) ⟨hx, hb, hml, hown, hts⟩ (kX1_cell l D G ta ca pa f cn (xS f u) (0) (by have := hf; unfold TOK at this; omega) hR (by omega) (by omega)) (cwV 2 hts gX1_forceAt_X1_cell rfl rfl rfl (by decide +kernel) ⟨Nat.le_of_ble_eq_true rfl, Nat.le_of_ble_eq_true rfl⟩) (zPreV (va_recv hK hP (ci := 1) (q0 := 0) rfl rfl) hK hN (hP.sub [0, 1] rfl)) rfl rfl hl.1 rfl (lv_room (Nat.le_of_ble_eq_true rfl)) dX1_forceAt_103 ⟨Nat.le_of_ble_eq_true rfl, Nat.le_of_ble_eq_true rfl⟩) ?_
      refine lv_goto (tgt := 110) hx hb dX1_forceAt_106 (by decide) ?_
      exact z_iret hx hb hr hlocks ((xForce_t ⟨c_1, c_2⟩).symm) dX1_forceAt_110
  · refine lv_iconst (v := zI (0)) hx hb dX1_forceAt_49 rfl ?_
    exact z_iret hx hb hr hlocks ((xForce_f (fun q => c_1 q.1)).symm) dX1_forceAt_50
end
section
set_option maxHeartbeats 4000000 in
set_option maxRecDepth 100000 in
theorem kX1_setting (l : Launch) (D : va_G) (G : Nat → ClassId) (ta ca pa : Nat) (f : Nat → Int) (k : Int) (hk : 0 ≤ k ∧ k ≤ 7) (hb5 : (f 5 = 0 ∨ f 5 = 1) ∧ (f 6 = 0 ∨ f 6 = 1) ∧ (f 7 = 0 ∨ f 7 = 1)) : Met l yX1_setting wsX1_setting ({ frames := 0, cells := 0, slots := 0, locals := 0 }) (zP [.ref ta, .int (zI (k))] D G (fun H => va_P D vwCl [(ta, .inr (1, [.int (zI (f 1)), .int (zI (f 0)), .int (zI (f 2)), .int (zI (f 3)), .int (zI (f 4)), .int (zI (f 5)), .int (zI (f 6)), .int (zI (f 7)), .ref ca, .ref pa]))] H)) (zQ (some (.int (zI (f k.toNat))))) 0 0 (fun _ => False) := by
  refine Met.ofW (cc := cX1_setting) (maxL := 2) (ret := (some .int)) (by decide) rfl ?_
  intro p e s m args below meth c s₁ B hml hv
  obtain ⟨hav, hP, hK, hN⟩ := hv
  have hx := B.exec
  have hb := B.bytes
  have hr := B.returns
  have hts := atoms_spec (ws := wsX1_setting) B.pre
  have hown : s.vm.findClass RX1 = some m.cls := findClass_of_methodNamed B.named
  have hlocks : meth.locks = false := B.notSynchronized
  have hin1 : ∀ w ∈ u_ws RX1 TX1 10, w ∈ wsX1_setting := by decide +kernel
  refine z_entry hav (Nat.le_of_ble_eq_true rfl) rfl (fun ls hl => ?_)
  have hl : lv_has ls 2 [(0, .ref ta), (1, .int (zI (k)))] := hl
  refine lv_iload_n hx hb dX1_setting_0 rfl (lv_at hl 1 rfl) ?_
  rcases (show k = 0 ∨ k = 1 ∨ k = 2 ∨ k = 3 ∨ k = 4 ∨ k = 5 ∨ k = 6 ∨ k = 7 by omega) with rfl | rfl | rfl | rfl | rfl | rfl | rfl | rfl
  · refine lv_tableIn (tgt := 44) hx hb dX1_setting_1 (by decide) (by decide) rfl (by decide) ?_
    refine lv_aload_n hx hb dX1_setting_44 rfl (lv_at hl 0 rfl) ?_
    refine va_get (D := D) (ci := 1) (v := .int (zI (f 0))) (C := RX1) (T := TX1) (N := 10) hx hb hts hin1 hown hK hP 0 rfl rfl 1 (by decide) (hts (.fieldLink RX1 38 "PolyDrums$Track" "steps" "I") (by decide +kernel)) (fun _ h9 => h9) rfl dX1_setting_45 ?_
    exact z_iret hx hb hr hlocks (rfl) dX1_setting_48
  · refine lv_tableIn (tgt := 49) hx hb dX1_setting_1 (by decide) (by decide) rfl (by decide) ?_
    refine lv_aload_n hx hb dX1_setting_49 rfl (lv_at hl 0 rfl) ?_
    refine va_get (D := D) (ci := 1) (v := .int (zI (f 1))) (C := RX1) (T := TX1) (N := 10) hx hb hts hin1 hown hK hP 0 rfl rfl 0 (by decide) (hts (.fieldLink RX1 41 "PolyDrums$Track" "stepTicks" "I") (by decide +kernel)) (fun _ h9 => h9) rfl dX1_setting_50 ?_
    exact z_iret hx hb hr hlocks (rfl) dX1_setting_53
  · refine lv_tableIn (tgt := 54) hx hb dX1_setting_1 (by decide) (by decide) rfl (by decide) ?_
    refine lv_aload_n hx hb dX1_setting_54 rfl (lv_at hl 0 rfl) ?_
    refine va_get (D := D) (ci := 1) (v := .int (zI (f 2))) (C := RX1) (T := TX1) (N := 10) hx hb hts hin1 hown hK hP 0 rfl rfl 2 (by decide) (hts (.fieldLink RX1 9 "PolyDrums$Track" "swing" "I") (by decide +kernel)) (fun _ h9 => h9) rfl dX1_setting_55 ?_
    exact z_iret hx hb hr hlocks (rfl) dX1_setting_58
  · refine lv_tableIn (tgt := 59) hx hb dX1_setting_1 (by decide) (by decide) rfl (by decide) ?_
    refine lv_aload_n hx hb dX1_setting_59 rfl (lv_at hl 0 rfl) ?_
    refine va_get (D := D) (ci := 1) (v := .int (zI (f 3))) (C := RX1) (T := TX1) (N := 10) hx hb hts hin1 hown hK hP 0 rfl rfl 3 (by decide) (hts (.fieldLink RX1 15 "PolyDrums$Track" "ring" "I") (by decide +kernel)) (fun _ h9 => h9) rfl dX1_setting_60 ?_
    exact z_iret hx hb hr hlocks (rfl) dX1_setting_63
  · refine lv_tableIn (tgt := 64) hx hb dX1_setting_1 (by decide) (by decide) rfl (by decide) ?_
    refine lv_aload_n hx hb dX1_setting_64 rfl (lv_at hl 0 rfl) ?_
    refine va_get (D := D) (ci := 1) (v := .int (zI (f 4))) (C := RX1) (T := TX1) (N := 10) hx hb hts hin1 hown hK hP 0 rfl rfl 4 (by decide) (hts (.fieldLink RX1 18 "PolyDrums$Track" "group" "I") (by decide +kernel)) (fun _ h9 => h9) rfl dX1_setting_65 ?_
    exact z_iret hx hb hr hlocks (rfl) dX1_setting_68
  · refine lv_tableIn (tgt := 69) hx hb dX1_setting_1 (by decide) (by decide) rfl (by decide) ?_
    refine lv_aload_n hx hb dX1_setting_69 rfl (lv_at hl 0 rfl) ?_
    refine va_get (D := D) (ci := 1) (v := .int (zI (f 5))) (C := RX1) (T := TX1) (N := 10) hx hb hts hin1 hown hK hP 0 rfl rfl 5 (by decide) (hts (.fieldLink RX1 21 "PolyDrums$Track" "isMuted" "Z") (by decide +kernel)) (fun _ h9 => h9) rfl dX1_setting_70 ?_
    refine z_if_eq (tgt := 80) hx hb (by omega) dX1_setting_73 (by decide) (fun c_1 => ?_) (fun c_1 => ?_)
    · refine lv_iconst (v := zI (0)) hx hb dX1_setting_80 rfl ?_
      exact z_iret hx hb hr hlocks (by show _ = f 5; omega) dX1_setting_81
    · refine lv_iconst (v := zI (1)) hx hb dX1_setting_76 rfl ?_
      refine lv_goto (tgt := 81) hx hb dX1_setting_77 (by decide) ?_
      exact z_iret hx hb hr hlocks (by show _ = f 5; omega) dX1_setting_81
  · refine lv_tableIn (tgt := 82) hx hb dX1_setting_1 (by decide) (by decide) rfl (by decide) ?_
    refine lv_aload_n hx hb dX1_setting_82 rfl (lv_at hl 0 rfl) ?_
    refine va_get (D := D) (ci := 1) (v := .int (zI (f 6))) (C := RX1) (T := TX1) (N := 10) hx hb hts hin1 hown hK hP 0 rfl rfl 6 (by decide) (hts (.fieldLink RX1 25 "PolyDrums$Track" "isSolo" "Z") (by decide +kernel)) (fun _ h9 => h9) rfl dX1_setting_83 ?_
    refine z_if_eq (tgt := 93) hx hb (by omega) dX1_setting_86 (by decide) (fun c_2 => ?_) (fun c_2 => ?_)
    · refine lv_iconst (v := zI (0)) hx hb dX1_setting_93 rfl ?_
      exact z_iret hx hb hr hlocks (by show _ = f 6; omega) dX1_setting_94
    · refine lv_iconst (v := zI (1)) hx hb dX1_setting_89 rfl ?_
      refine lv_goto (tgt := 94) hx hb dX1_setting_90 (by decide) ?_
      exact z_iret hx hb hr hlocks (by show _ = f 6; omega) dX1_setting_94
  · refine lv_tableOut (tgt := 95) hx hb dX1_setting_1 (by decide) (by decide) ?_
    refine lv_aload_n hx hb dX1_setting_95 rfl (lv_at hl 0 rfl) ?_
    refine va_get (D := D) (ci := 1) (v := .int (zI (f 7))) (C := RX1) (T := TX1) (N := 10) hx hb hts hin1 hown hK hP 0 rfl rfl 7 (by decide) (hts (.fieldLink RX1 28 "PolyDrums$Track" "isAccent" "Z") (by decide +kernel)) (fun _ h9 => h9) rfl dX1_setting_96 ?_
    refine z_if_eq (tgt := 106) hx hb (by omega) dX1_setting_99 (by decide) (fun c_3 => ?_) (fun c_3 => ?_)
    · refine lv_iconst (v := zI (0)) hx hb dX1_setting_106 rfl ?_
      exact z_iret hx hb hr hlocks (by show _ = f 7; omega) dX1_setting_107
    · refine lv_iconst (v := zI (1)) hx hb dX1_setting_102 rfl ?_
      refine lv_goto (tgt := 107) hx hb dX1_setting_103 (by decide) ?_
      exact z_iret hx hb hr hlocks (by show _ = f 7; omega) dX1_setting_107

set_option maxHeartbeats 4000000 in
set_option maxRecDepth 100000 in
theorem kX1_putCell (l : Launch) (D : va_G) (G : Nat → ClassId) (ta ca pa : Nat) (f : Nat → Int) (cn : Nat → Int32) (k w : Int) (x : Int32) (hnd : [ta, ca].Nodup) (hk : 0 ≤ k ∧ k ≤ 31) (hw : 0 ≤ w ∧ w ≤ 3) : Met l yX1_putCell wsX1_putCell ({ frames := 1, cells := 0, slots := 0, locals := 22 }) (zP [.ref ta, .int (zI (k)), .int (zI (w)), .int (x)] D G (fun H => va_P D vwCl [(ta, .inr (1, [.int (zI (f 1)), .int (zI (f 0)), .int (zI (f 2)), .int (zI (f 3)), .int (zI (f 4)), .int (zI (f 5)), .int (zI (f 6)), .int (zI (f 7)), .ref ca, .ref pa])), (ca, .inl (G 0, 128, .inl (cn)))] H)) (zM none (fun H => va_P D vwCl [(ta, .inr (1, [.int (zI (f 1)), .int (zI (f 0)), .int (zI (f 2)), .int (zI (f 3)), .int (zI (f 4)), .int (zI (f 5)), .int (zI (f 6)), .int (zI (f 7)), .ref ca, .ref pa])), (ca, .inl (G 0, 128, .inl (upd cn (k * 4 + w).toNat x)))] H) (zA [ca])) 0 0 (zA [ca]) := by
  refine Met.ofW (cc := cX1_putCell) (maxL := 4) (ret := none) (by decide) rfl ?_
  intro p e s m args below meth c s₁ B hml hv
  obtain ⟨hav, hP, hK, hN⟩ := hv
  have hx := B.exec
  have hb := B.bytes
  have hr := B.returns
  have hts := atoms_spec (ws := wsX1_putCell) B.pre
  have hown : s.vm.findClass RX1 = some m.cls := findClass_of_methodNamed B.named
  have hlocks : meth.locks = false := B.notSynchronized
  have hin1 : ∀ w ∈ u_ws RX1 TX1 10, w ∈ wsX1_putCell := by decide +kernel
  have hS : va_S (zA [ca]) s.heap s.heap [] := va_S.rf
  have hnd' := hnd
  simp only [List.nodup_cons, List.mem_cons, List.not_mem_nil, or_false, List.nodup_nil, and_true, not_or, not_false_eq_true] at hnd'
  refine z_entry hav (Nat.le_of_ble_eq_true rfl) rfl (fun ls hl => ?_)
  have hl : lv_has ls 4 [(0, .ref ta), (1, .int (zI (k))), (2, .int (zI (w))), (3, .int (x))] := hl
  refine lv_aload_n hx hb dX1_putCell_0 rfl (lv_at hl 0 rfl) ?_
  refine va_get (D := D) (ci := 1) (v := .ref ca) (C := RX1) (T := TX1) (N := 10) hx hb hts hin1 hown hK hP 0 rfl rfl 8 (by decide) (hts (.fieldLink RX1 31 "PolyDrums$Track" "cells" "[I") (by decide +kernel)) (fun _ h9 => h9) rfl dX1_putCell_1 ?_
  refine lv_iload_n hx hb dX1_putCell_4 rfl (lv_at hl 1 rfl) ?_
  refine lv_iconst (v := zI (4)) hx hb dX1_putCell_5 rfl ?_
  refine z_imul hx hb dX1_putCell_6 ?_
  refine lv_iload_n hx hb dX1_putCell_7 rfl (lv_at hl 2 rfl) ?_
  refine z_iadd hx hb dX1_putCell_8 ?_
  refine lv_iload_n hx hb dX1_putCell_9 rfl (lv_at hl 3 rfl) ?_
  refine z_callM (va_runSN (As := [.ref ca, .int (zI (((k) * (4)) + (w))), .int (x)]) (rest := []) ⟨hx, hb, hml, hown, hts⟩ (kX2_write l D G ca 128 (cn) (((k) * (4)) + (w)) ((x)) (by simp) (by omega) (by omega)) ⟨va_cnB 3 hts gX1_putCell_X2_write_n52 rfl rfl rfl (hN.1 (RX1, 52, yX2_write) (by decide +kernel)) (hts (.initialized RX2) (by decide +kernel)) (by decide +kernel) ⟨Nat.le_of_ble_eq_true rfl, Nat.le_of_ble_eq_true rfl⟩, hts (.static yX2_write) (by decide +kernel), trivial⟩ (zPreS hK hN (hP.sub [1] rfl)) rfl rfl hl.1 rfl (lv_room (Nat.le_of_ble_eq_true rfl)) dX1_putCell_10 ⟨Nat.le_of_ble_eq_true rfl, Nat.le_of_ble_eq_true rfl⟩) hS (by intro q _ hq; simp only [zA, List.mem_cons, List.not_mem_nil, or_false] at hq ⊢ <;> omega) (by intro q hq; simp only [zA, List.mem_cons, List.not_mem_nil, or_false] at hq ⊢ <;> omega) (fun H1 locs1 hp1 hz1 hk1 hS1 => ?_)
  have hP : va_P D vwCl [(ta, .inr (1, [.int (zI (f 1)), .int (zI (f 0)), .int (zI (f 2)), .int (zI (f 3)), .int (zI (f 4)), .int (zI (f 5)), .int (zI (f 6)), .int (zI (f 7)), .ref ca, .ref pa])), (ca, .inl (G 0, 128, .inl (upd (cn) (((k) * (4)) + (w)).toNat ((x)))))] H1 := z_merge hP hk1 (w1 := [(ca, .inl (G 0, 128, .inl (upd (cn) (((k) * (4)) + (w)).toNat ((x)))))]) (wr := [(ta, .inr (1, [.int (zI (f 1)), .int (zI (f 0)), .int (zI (f 2)), .int (zI (f 3)), .int (zI (f 4)), .int (zI (f 5)), .int (zI (f 6)), .int (zI (f 7)), .ref ca, .ref pa]))]) hp1 [0] rfl (by intro q hq; simp only [List.map, List.mem_cons, List.not_mem_nil, or_false] at hq ⊢ <;> omega) [1, 0] rfl
  have hS := hS1
  clear hS1
  exact zm_vret hx hb hr hlocks hS (hP) dX1_putCell_13

set_option maxHeartbeats 4000000 in
set_option maxRecDepth 100000 in
theorem kX1_clearStep (l : Launch) (D : va_G) (G : Nat → ClassId) (ta ca pa : Nat) (f : Nat → Int) (cn : Nat → Int32) (k v : Int) (hnd : [ta, ca].Nodup) (hk : 0 ≤ k ∧ k ≤ 31) : Met l yX1_clearStep wsX1_clearStep ({ frames := 2, cells := 0, slots := 0, locals := 45 }) (zP [.ref ta, .int (zI (k)), .int (zI (v))] D G (fun H => va_P D vwCl [(ta, .inr (1, [.int (zI (f 1)), .int (zI (f 0)), .int (zI (f 2)), .int (zI (f 3)), .int (zI (f 4)), .int (zI (f 5)), .int (zI (f 6)), .int (zI (f 7)), .ref ca, .ref pa])), (ca, .inl (G 0, 128, .inl (cn)))] H)) (zM none (fun H => va_P D vwCl [(ta, .inr (1, [.int (zI (f 1)), .int (zI (f 0)), .int (zI (f 2)), .int (zI (f 3)), .int (zI (f 4)), .int (zI (f 5)), .int (zI (f 6)), .int (zI (f 7)), .ref ca, .ref pa])), (ca, .inl (G 0, 128, .inl (xClr cn k v)))] H) (zA [ca])) 0 0 (zA [ca]) := by
  refine Met.ofW (cc := cX1_clearStep) (maxL := 3) (ret := none) (by decide) rfl ?_
  intro p e s m args below meth c s₁ B hml hv
  obtain ⟨hav, hP, hK, hN⟩ := hv
  have hx := B.exec
  have hb := B.bytes
  have hr := B.returns
  have hts := atoms_spec (ws := wsX1_clearStep) B.pre
  have hown : s.vm.findClass RX1 = some m.cls := findClass_of_methodNamed B.named
  have hlocks : meth.locks = false := B.notSynchronized
  have hS : va_S (zA [ca]) s.heap s.heap [] := va_S.rf
  have hnd' := hnd
  simp only [List.nodup_cons, List.mem_cons, List.not_mem_nil, or_false, List.nodup_nil, and_true, not_or, not_false_eq_true] at hnd'
  refine z_entry hav (Nat.le_of_ble_eq_true rfl) rfl (fun ls hl => ?_)
  have hl : lv_has ls 3 [(0, .ref ta), (1, .int (zI (k))), (2, .int (zI (v)))] := hl
  refine lv_aload_n hx hb dX1_clearStep_0 rfl (lv_at hl 0 rfl) ?_
  refine lv_iload_n hx hb dX1_clearStep_1 rfl (lv_at hl 1 rfl) ?_
  refine lv_iconst (v := zI (0)) hx hb dX1_clearStep_2 rfl ?_
  refine lv_iload_n hx hb dX1_clearStep_3 rfl (lv_at hl 2 rfl) ?_
  refine z_callM (va_runV (As := [.int (zI (k)), .int (zI (0)), .int (zI (v))]) (rest := []) ⟨hx, hb, hml, hown, hts⟩ (kX1_putCell l D G ta ca pa f (cn) (k) (0) (zI (v)) (by simp only [List.nodup_cons, List.mem_cons, List.not_mem_nil, or_false, List.nodup_nil, and_true, not_or, not_false_eq_true]; omega) (by omega) (by omega)) (cwV 3 hts gX1_clearStep_X1_putCell rfl rfl rfl (by decide +kernel) ⟨Nat.le_of_ble_eq_true rfl, Nat.le_of_ble_eq_true rfl⟩) (zPreV (va_recv hK hP (ci := 1) (q0 := 0) rfl rfl) hK hN (hP.sub [0, 1] rfl)) rfl rfl hl.1 rfl (lv_room (Nat.le_of_ble_eq_true rfl)) dX1_clearStep_4 ⟨Nat.le_of_ble_eq_true rfl, Nat.le_of_ble_eq_true rfl⟩) hS (by intro q _ hq; simp only [zA, List.mem_cons, List.not_mem_nil, or_false] at hq ⊢ <;> omega) (by intro q hq; simp only [zA, List.mem_cons, List.not_mem_nil, or_false] at hq ⊢ <;> omega) (fun H1 locs1 hp1 hz1 hk1 hS1 => ?_)
  have hP : va_P D vwCl [(ta, .inr (1, [.int (zI (f 1)), .int (zI (f 0)), .int (zI (f 2)), .int (zI (f 3)), .int (zI (f 4)), .int (zI (f 5)), .int (zI (f 6)), .int (zI (f 7)), .ref ca, .ref pa])), (ca, .inl (G 0, 128, .inl (upd (cn) ((k) * 4 + 0).toNat (zI (v)))))] H1 := z_merge hP hk1 (w1 := [(ta, .inr (1, [.int (zI (f 1)), .int (zI (f 0)), .int (zI (f 2)), .int (zI (f 3)), .int (zI (f 4)), .int (zI (f 5)), .int (zI (f 6)), .int (zI (f 7)), .ref ca, .ref pa])), (ca, .inl (G 0, 128, .inl (upd (cn) ((k) * 4 + 0).toNat (zI (v)))))]) (wr := []) hp1 [] rfl (by intro q hq; simp only [List.map, List.mem_cons, List.not_mem_nil, or_false] at hq ⊢ <;> omega) [0, 1] rfl
  have hS := hS1
  clear hS1
  refine lv_aload_n hx hb dX1_clearStep_7 rfl (lv_at hl 0 rfl) ?_
  refine lv_iload_n hx hb dX1_clearStep_8 rfl (lv_at hl 1 rfl) ?_
  refine lv_iconst (v := zI (1)) hx hb dX1_clearStep_9 rfl ?_
  refine lv_iconst (v := zI (1)) hx hb dX1_clearStep_10 rfl ?_
  refine z_callM (va_runV (As := [.int (zI (k)), .int (zI (1)), .int (zI (1))]) (rest := []) ⟨hx, hb, hml, hown, hts⟩ (kX1_putCell l D G ta ca pa f (upd (cn) ((k) * 4 + 0).toNat (zI (v))) (k) (1) (zI (1)) (by simp only [List.nodup_cons, List.mem_cons, List.not_mem_nil, or_false, List.nodup_nil, and_true, not_or, not_false_eq_true]; omega) (by omega) (by omega)) (cwV 3 hts gX1_clearStep_X1_putCell rfl rfl rfl (by decide +kernel) ⟨Nat.le_of_ble_eq_true rfl, Nat.le_of_ble_eq_true rfl⟩) (zPreV (va_recv hK hP (ci := 1) (q0 := 0) rfl rfl) hK hN (hP.sub [0, 1] rfl)) rfl rfl hl.1 rfl (lv_room (Nat.le_of_ble_eq_true rfl)) dX1_clearStep_11 ⟨Nat.le_of_ble_eq_true rfl, Nat.le_of_ble_eq_true rfl⟩) hS (by intro q _ hq; simp only [zA, List.mem_cons, List.not_mem_nil, or_false] at hq ⊢ <;> omega) (by intro q hq; simp only [zA, List.mem_cons, List.not_mem_nil, or_false] at hq ⊢ <;> omega) (fun H1 locs1 hp1 hz1 hk1 hS1 => ?_)
  have hP : va_P D vwCl [(ta, .inr (1, [.int (zI (f 1)), .int (zI (f 0)), .int (zI (f 2)), .int (zI (f 3)), .int (zI (f 4)), .int (zI (f 5)), .int (zI (f 6)), .int (zI (f 7)), .ref ca, .ref pa])), (ca, .inl (G 0, 128, .inl (upd (upd (cn) ((k) * 4 + 0).toNat (zI (v))) ((k) * 4 + 1).toNat (zI (1)))))] H1 := z_merge hP hk1 (w1 := [(ta, .inr (1, [.int (zI (f 1)), .int (zI (f 0)), .int (zI (f 2)), .int (zI (f 3)), .int (zI (f 4)), .int (zI (f 5)), .int (zI (f 6)), .int (zI (f 7)), .ref ca, .ref pa])), (ca, .inl (G 0, 128, .inl (upd (upd (cn) ((k) * 4 + 0).toNat (zI (v))) ((k) * 4 + 1).toNat (zI (1)))))]) (wr := []) hp1 [] rfl (by intro q hq; simp only [List.map, List.mem_cons, List.not_mem_nil, or_false] at hq ⊢ <;> omega) [0, 1] rfl
  have hS := hS1
  clear hS1
  refine lv_aload_n hx hb dX1_clearStep_14 rfl (lv_at hl 0 rfl) ?_
  refine lv_iload_n hx hb dX1_clearStep_15 rfl (lv_at hl 1 rfl) ?_
  refine lv_iconst (v := zI (2)) hx hb dX1_clearStep_16 rfl ?_
  refine lv_iconst (v := zI (0)) hx hb dX1_clearStep_17 rfl ?_
  refine z_callM (va_runV (As := [.int (zI (k)), .int (zI (2)), .int (zI (0))]) (rest := []) ⟨hx, hb, hml, hown, hts⟩ (kX1_putCell l D G ta ca pa f (upd (upd (cn) ((k) * 4 + 0).toNat (zI (v))) ((k) * 4 + 1).toNat (zI (1))) (k) (2) (zI (0)) (by simp only [List.nodup_cons, List.mem_cons, List.not_mem_nil, or_false, List.nodup_nil, and_true, not_or, not_false_eq_true]; omega) (by omega) (by omega)) (cwV 3 hts gX1_clearStep_X1_putCell rfl rfl rfl (by decide +kernel) ⟨Nat.le_of_ble_eq_true rfl, Nat.le_of_ble_eq_true rfl⟩) (zPreV (va_recv hK hP (ci := 1) (q0 := 0) rfl rfl) hK hN (hP.sub [0, 1] rfl)) rfl rfl hl.1 rfl (lv_room (Nat.le_of_ble_eq_true rfl)) dX1_clearStep_18 ⟨Nat.le_of_ble_eq_true rfl, Nat.le_of_ble_eq_true rfl⟩) hS (by intro q _ hq; simp only [zA, List.mem_cons, List.not_mem_nil, or_false] at hq ⊢ <;> omega) (by intro q hq; simp only [zA, List.mem_cons, List.not_mem_nil, or_false] at hq ⊢ <;> omega) (fun H1 locs1 hp1 hz1 hk1 hS1 => ?_)
  have hP : va_P D vwCl [(ta, .inr (1, [.int (zI (f 1)), .int (zI (f 0)), .int (zI (f 2)), .int (zI (f 3)), .int (zI (f 4)), .int (zI (f 5)), .int (zI (f 6)), .int (zI (f 7)), .ref ca, .ref pa])), (ca, .inl (G 0, 128, .inl (upd (upd (upd (cn) ((k) * 4 + 0).toNat (zI (v))) ((k) * 4 + 1).toNat (zI (1))) ((k) * 4 + 2).toNat (zI (0)))))] H1 := z_merge hP hk1 (w1 := [(ta, .inr (1, [.int (zI (f 1)), .int (zI (f 0)), .int (zI (f 2)), .int (zI (f 3)), .int (zI (f 4)), .int (zI (f 5)), .int (zI (f 6)), .int (zI (f 7)), .ref ca, .ref pa])), (ca, .inl (G 0, 128, .inl (upd (upd (upd (cn) ((k) * 4 + 0).toNat (zI (v))) ((k) * 4 + 1).toNat (zI (1))) ((k) * 4 + 2).toNat (zI (0)))))]) (wr := []) hp1 [] rfl (by intro q hq; simp only [List.map, List.mem_cons, List.not_mem_nil, or_false] at hq ⊢ <;> omega) [0, 1] rfl
  have hS := hS1
  clear hS1
  refine lv_aload_n hx hb dX1_clearStep_21 rfl (lv_at hl 0 rfl) ?_
  refine lv_iload_n hx hb dX1_clearStep_22 rfl (lv_at hl 1 rfl) ?_
  refine lv_iconst (v := zI (3)) hx hb dX1_clearStep_23 rfl ?_
  refine lv_iconst (v := zI (1)) hx hb dX1_clearStep_24 rfl ?_
  refine z_callM (va_runV (As := [.int (zI (k)), .int (zI (3)), .int (zI (1))]) (rest := []) ⟨hx, hb, hml, hown, hts⟩ (kX1_putCell l D G ta ca pa f (upd (upd (upd (cn) ((k) * 4 + 0).toNat (zI (v))) ((k) * 4 + 1).toNat (zI (1))) ((k) * 4 + 2).toNat (zI (0))) (k) (3) (zI (1)) (by simp only [List.nodup_cons, List.mem_cons, List.not_mem_nil, or_false, List.nodup_nil, and_true, not_or, not_false_eq_true]; omega) (by omega) (by omega)) (cwV 3 hts gX1_clearStep_X1_putCell rfl rfl rfl (by decide +kernel) ⟨Nat.le_of_ble_eq_true rfl, Nat.le_of_ble_eq_true rfl⟩) (zPreV (va_recv hK hP (ci := 1) (q0 := 0) rfl rfl) hK hN (hP.sub [0, 1] rfl)) rfl rfl hl.1 rfl (lv_room (Nat.le_of_ble_eq_true rfl)) dX1_clearStep_25 ⟨Nat.le_of_ble_eq_true rfl, Nat.le_of_ble_eq_true rfl⟩) hS (by intro q _ hq; simp only [zA, List.mem_cons, List.not_mem_nil, or_false] at hq ⊢ <;> omega) (by intro q hq; simp only [zA, List.mem_cons, List.not_mem_nil, or_false] at hq ⊢ <;> omega) (fun H1 locs1 hp1 hz1 hk1 hS1 => ?_)
  have hP : va_P D vwCl [(ta, .inr (1, [.int (zI (f 1)), .int (zI (f 0)), .int (zI (f 2)), .int (zI (f 3)), .int (zI (f 4)), .int (zI (f 5)), .int (zI (f 6)), .int (zI (f 7)), .ref ca, .ref pa])), (ca, .inl (G 0, 128, .inl (upd (upd (upd (upd (cn) ((k) * 4 + 0).toNat (zI (v))) ((k) * 4 + 1).toNat (zI (1))) ((k) * 4 + 2).toNat (zI (0))) ((k) * 4 + 3).toNat (zI (1)))))] H1 := z_merge hP hk1 (w1 := [(ta, .inr (1, [.int (zI (f 1)), .int (zI (f 0)), .int (zI (f 2)), .int (zI (f 3)), .int (zI (f 4)), .int (zI (f 5)), .int (zI (f 6)), .int (zI (f 7)), .ref ca, .ref pa])), (ca, .inl (G 0, 128, .inl (upd (upd (upd (upd (cn) ((k) * 4 + 0).toNat (zI (v))) ((k) * 4 + 1).toNat (zI (1))) ((k) * 4 + 2).toNat (zI (0))) ((k) * 4 + 3).toNat (zI (1)))))]) (wr := []) hp1 [] rfl (by intro q hq; simp only [List.map, List.mem_cons, List.not_mem_nil, or_false] at hq ⊢ <;> omega) [0, 1] rfl
  have hS := hS1
  clear hS1
  exact zm_vret hx hb hr hlocks hS (hP) dX1_clearStep_28

set_option maxHeartbeats 4000000 in
set_option maxRecDepth 100000 in
theorem kX1_stepsWithForce (l : Launch) (D : va_G) (G : Nat → ClassId) (ta ca pa : Nat) (f : Nat → Int) (cn : Nat → Int32) (hf : TOK f) (hR : TR f cn) : Met l yX1_stepsWithForce wsX1_stepsWithForce ({ frames := 2, cells := 0, slots := 0, locals := 43 }) (zP [.ref ta] D G (fun H => va_P D vwCl [(ta, .inr (1, [.int (zI (f 1)), .int (zI (f 0)), .int (zI (f 2)), .int (zI (f 3)), .int (zI (f 4)), .int (zI (f 5)), .int (zI (f 6)), .int (zI (f 7)), .ref ca, .ref pa])), (ca, .inl (G 0, 128, .inl (cn)))] H)) (zQ (some (.int (zI (xLoud f (f 0).toNat))))) 0 0 (fun _ => False) := by
  refine Met.ofW (cc := cX1_stepsWithForce) (maxL := 3) (ret := (some .int)) (by decide) rfl ?_
  intro p e s m args below meth c s₁ B hml hv
  obtain ⟨hav, hP, hK, hN⟩ := hv
  have hx := B.exec
  have hb := B.bytes
  have hr := B.returns
  have hts := atoms_spec (ws := wsX1_stepsWithForce) B.pre
  have hown : s.vm.findClass RX1 = some m.cls := findClass_of_methodNamed B.named
  have hlocks : meth.locks = false := B.notSynchronized
  have hin1 : ∀ w ∈ u_ws RX1 TX1 10, w ∈ wsX1_stepsWithForce := by decide +kernel
  have hf1 : 1 ≤ f 0 ∧ f 0 ≤ 32 := by unfold TOK at hf; omega
  refine z_entry hav (Nat.le_of_ble_eq_true rfl) rfl (fun ls hl => ?_)
  have hl : lv_has ls 3 [(0, .ref ta)] := hl
  refine lv_iconst (v := zI (0)) hx hb dX1_stepsWithForce_0 rfl ?_
  refine lv_istore_n (lv' := [(1, .int (zI (0))), (0, .ref ta)]) hx hb dX1_stepsWithForce_1 rfl hl (by decide) rfl (fun ls hl => ?_)
  refine lv_iconst (v := zI (0)) hx hb dX1_stepsWithForce_2 rfl ?_
  refine lv_istore_n (lv' := [(2, .int (zI (0))), (1, .int (zI (0))), (0, .ref ta)]) hx hb dX1_stepsWithForce_3 rfl hl (by decide) rfl (fun ls hl => ?_)
  have loop_4 : ∀ (fu : Nat) (k : Int) (n : Int), (0 ≤ k ∧ k ≤ f 0) → (n = xLoud f k.toNat) → f 0 - k < (fu : Int) → ∀ (ls : Array Slot), lv_has ls 3 [(0, .ref ta), (1, .int (zI (n))), (2, .int (zI (k)))] → W p l e (headSpec wsX1_stepsWithForce ({ frames := 2, cells := 0, slots := 0, locals := 43 })).room s m args below meth c s.heap [] 0 0 (MQ below (zQ (some (.int (zI (xLoud f (f 0).toNat))))) args s 0 0 (fun _ => False)) (F0 m 4 ls []) := by
    intro fu
    induction fu with
    | zero =>
      intro k n hk0 hn hm
      exfalso; omega
    | succ fu ih =>
      intro k n hk0 hn hm ls hl
      have ih_4 := ih
      refine lv_iload_n hx hb dX1_stepsWithForce_4 rfl (lv_at hl 2 rfl) ?_
      refine lv_aload_n hx hb dX1_stepsWithForce_5 rfl (lv_at hl 0 rfl) ?_
      refine va_get (D := D) (ci := 1) (v := .int (zI (f 0))) (C := RX1) (T := TX1) (N := 10) hx hb hts hin1 hown hK hP 0 rfl rfl 1 (by decide) (hts (.fieldLink RX1 38 "PolyDrums$Track" "steps" "I") (by decide +kernel)) (fun _ h9 => h9) rfl dX1_stepsWithForce_6 ?_
      refine z_icmp_ge (tgt := 30) hx hb (by omega) dX1_stepsWithForce_9 (by decide) (fun c_1 => ?_) (fun c_1 => ?_)
      · refine lv_iload_n hx hb dX1_stepsWithForce_30 rfl (lv_at hl 1 rfl) ?_
        exact z_iret hx hb hr hlocks (by rw [hn, show k = f 0 by omega]) dX1_stepsWithForce_31
      · have hc1 := hf.2.2.2.2.2.2.2.2.2.2.2.2.2 k hk0.1 (by omega)
        have hb1 := xLoud_b f k.toNat
        refine lv_aload_n hx hb dX1_stepsWithForce_12 rfl (lv_at hl 0 rfl) ?_
        refine lv_iload_n hx hb dX1_stepsWithForce_13 rfl (lv_at hl 2 rfl) ?_
        refine lv_iconst (v := zI (0)) hx hb dX1_stepsWithForce_14 rfl ?_
        refine z_call (va_runV (As := [.int (zI (k)), .int (zI (0))]) (rest := []) ⟨hx, hb, hml, hown, hts⟩ (kX1_cell l D G ta ca pa f cn (k) (0) (by have := hf; unfold TOK at this; omega) hR (by omega) (by omega)) (cwV 2 hts gX1_stepsWithForce_X1_cell rfl rfl rfl (by decide +kernel) ⟨Nat.le_of_ble_eq_true rfl, Nat.le_of_ble_eq_true rfl⟩) (zPreV (va_recv hK hP (ci := 1) (q0 := 0) rfl rfl) hK hN (hP.sub [0, 1] rfl)) rfl rfl hl.1 rfl (lv_room (Nat.le_of_ble_eq_true rfl)) dX1_stepsWithForce_15 ⟨Nat.le_of_ble_eq_true rfl, Nat.le_of_ble_eq_true rfl⟩) ?_
        refine z_if_le (tgt := 24) hx hb (by omega) dX1_stepsWithForce_18 (by decide) (fun c_2 => ?_) (fun c_2 => ?_)
        · refine lv_iinc (v := zI (k + 1)) (lv' := [(2, .int (zI (k + 1))), (0, .ref ta), (1, .int (zI (n)))]) hx hb dX1_stepsWithForce_24 hl (k := 2) rfl (zI_add (k) (1)) (by decide) rfl (fun ls hl => ?_)
          refine lv_goto (tgt := 4) hx hb dX1_stepsWithForce_27 (by decide) ?_
          exact ih_4 (k + 1) (n) (by omega) (by rw [xLoud_s hk0.1]; split <;> omega) (by omega) _ (lv_sub hl [1, 2, 0] rfl)
        · refine lv_iinc (v := zI (n + 1)) (lv' := [(1, .int (zI (n + 1))), (0, .ref ta), (2, .int (zI (k)))]) hx hb dX1_stepsWithForce_21 hl (k := 1) rfl (zI_add (n) (1)) (by decide) rfl (fun ls hl => ?_)
          refine lv_iinc (v := zI (k + 1)) (lv' := [(2, .int (zI (k + 1))), (1, .int (zI (n + 1))), (0, .ref ta)]) hx hb dX1_stepsWithForce_24 hl (k := 2) rfl (zI_add (k) (1)) (by decide) rfl (fun ls hl => ?_)
          refine lv_goto (tgt := 4) hx hb dX1_stepsWithForce_27 (by decide) ?_
          exact ih_4 (k + 1) (n + 1) (by omega) (by rw [xLoud_s hk0.1]; split <;> omega) (by omega) _ (lv_sub hl [2, 1, 0] rfl)
  exact loop_4 (33) (0) (0) (by omega) (rfl) (by omega) ls (lv_sub hl [2, 1, 0] rfl)

set_option maxHeartbeats 4000000 in
set_option maxRecDepth 100000 in
theorem kX1_nearestStep (l : Launch) (D : va_G) (G : Nat → ClassId) (ta ca pa : Nat) (f : Nat → Int) (u : Int) (hf : TOK f) (hu : 0 ≤ u ∧ u ≤ 99999) : Met l yX1_nearestStep wsX1_nearestStep ({ frames := 1, cells := 0, slots := 0, locals := 40 }) (zP [.ref ta, .int (zI (u))] D G (fun H => va_P D vwCl [(ta, .inr (1, [.int (zI (f 1)), .int (zI (f 0)), .int (zI (f 2)), .int (zI (f 3)), .int (zI (f 4)), .int (zI (f 5)), .int (zI (f 6)), .int (zI (f 7)), .ref ca, .ref pa]))] H)) (zQ (some (.int (zI ((xNear f (xP f u) (f 0 - 1).toNat).1))))) 0 0 (fun _ => False) := by
  refine Met.ofW (cc := cX1_nearestStep) (maxL := 7) (ret := (some .int)) (by decide) rfl ?_
  intro p e s m args below meth c s₁ B hml hv
  obtain ⟨hav, hP, hK, hN⟩ := hv
  have hx := B.exec
  have hb := B.bytes
  have hr := B.returns
  have hts := atoms_spec (ws := wsX1_nearestStep) B.pre
  have hown : s.vm.findClass RX1 = some m.cls := findClass_of_methodNamed B.named
  have hlocks : meth.locks = false := B.notSynchronized
  have hin1 : ∀ w ∈ u_ws RX1 TX1 10, w ∈ wsX1_nearestStep := by decide +kernel
  have hr1 := x_round hf
  have hp1 := x_place hf u
  have hf1 : 1 ≤ f 0 ∧ f 0 ≤ 32 ∧ 1 ≤ f 1 ∧ f 1 ≤ 48 := by unfold TOK at hf; omega
  have hnb := xNear_b (f := f) (q := xP f u) hp1.1 hp1.2.1 (fun k _ => (xDelay_b hf k).1)
  refine z_entry hav (Nat.le_of_ble_eq_true rfl) rfl (fun ls hl => ?_)
  have hl : lv_has ls 7 [(0, .ref ta), (1, .int (zI (u)))] := hl
  refine lv_iload_n hx hb dX1_nearestStep_0 rfl (lv_at hl 1 rfl) ?_
  refine lv_aload_n hx hb dX1_nearestStep_1 rfl (lv_at hl 0 rfl) ?_
  refine z_call (va_runV (As := []) (rest := [.int (zI (u))]) ⟨hx, hb, hml, hown, hts⟩ (kX1_roundTicks l D G ta ca pa f) (cwV 0 hts gX1_nearestStep_X1_roundTicks rfl rfl rfl (by decide +kernel) ⟨Nat.le_of_ble_eq_true rfl, Nat.le_of_ble_eq_true rfl⟩) (zPreV (va_recv hK hP (ci := 1) (q0 := 0) rfl rfl) hK hN (hP.sub [0] rfl)) rfl rfl hl.1 rfl (lv_room (Nat.le_of_ble_eq_true rfl)) dX1_nearestStep_2 ⟨Nat.le_of_ble_eq_true rfl, Nat.le_of_ble_eq_true rfl⟩) ?_
  refine z_call (va_runSN (As := [.int (zI (u)), .int (zI (f 0 * f 1))]) (rest := []) ⟨hx, hb, hml, hown, hts⟩ (kX2_rest l D G (u) (f 0 * f 1) (by omega) (by omega)) ⟨va_cnB 2 hts gX1_nearestStep_X2_rest_n60 rfl rfl rfl (hN.1 (RX1, 60, yX2_rest) (by decide +kernel)) (hts (.initialized RX2) (by decide +kernel)) (by decide +kernel) ⟨Nat.le_of_ble_eq_true rfl, Nat.le_of_ble_eq_true rfl⟩, hts (.static yX2_rest) (by decide +kernel), trivial⟩ (zPreS hK hN (trivial)) rfl rfl hl.1 rfl (lv_room (Nat.le_of_ble_eq_true rfl)) dX1_nearestStep_5 ⟨Nat.le_of_ble_eq_true rfl, Nat.le_of_ble_eq_true rfl⟩) ?_
  refine z_val (y := xP f u) (rfl) ?_
  refine lv_istore_n (lv' := [(2, .int (zI (xP f u))), (0, .ref ta), (1, .int (zI (u)))]) hx hb dX1_nearestStep_8 rfl hl (by decide) rfl (fun ls hl => ?_)
  refine lv_iconst (v := zI (0)) hx hb dX1_nearestStep_9 rfl ?_
  refine lv_istore_n (lv' := [(3, .int (zI (0))), (2, .int (zI (xP f u))), (0, .ref ta), (1, .int (zI (u)))]) hx hb dX1_nearestStep_10 rfl hl (by decide) rfl (fun ls hl => ?_)
  refine lv_iload_n hx hb dX1_nearestStep_11 rfl (lv_at hl 1 rfl) ?_
  refine lv_aload_n hx hb dX1_nearestStep_12 rfl (lv_at hl 2 rfl) ?_
  refine z_call (va_runV (As := []) (rest := [.int (zI (xP f u))]) ⟨hx, hb, hml, hown, hts⟩ (kX1_roundTicks l D G ta ca pa f) (cwV 0 hts gX1_nearestStep_X1_roundTicks rfl rfl rfl (by decide +kernel) ⟨Nat.le_of_ble_eq_true rfl, Nat.le_of_ble_eq_true rfl⟩) (zPreV (va_recv hK hP (ci := 1) (q0 := 0) rfl rfl) hK hN (hP.sub [0] rfl)) rfl rfl hl.1 rfl (lv_room (Nat.le_of_ble_eq_true rfl)) dX1_nearestStep_13 ⟨Nat.le_of_ble_eq_true rfl, Nat.le_of_ble_eq_true rfl⟩) ?_
  refine lv_iload_n hx hb dX1_nearestStep_16 rfl (lv_at hl 1 rfl) ?_
  refine z_isub hx hb dX1_nearestStep_17 ?_
  refine z_min hx hb (hml.trans hl.1.symm) hown (hts (.methodLink RX1 80 Lib.Math.min.name) (by decide +kernel)) (hts (.static Lib.Math.min.name) (by decide +kernel)) (hts (.initialized "java/lang/Math") (by decide +kernel)) (hts (.code Lib.Math.min.name Lib.Math.min.code 2 (some .int)) (by decide +kernel)) (Nat.le_of_ble_eq_true rfl) (Nat.le_of_ble_eq_true rfl) (Nat.le_of_ble_eq_true rfl) (Nat.le_of_ble_eq_true rfl) (by omega) dX1_nearestStep_18 ?_
  refine lv_istore (lv' := [(4, .int (zI (if (f 0 * f 1) - (xP f u) < xP f u then (f 0 * f 1) - (xP f u) else xP f u))), (3, .int (zI (0))), (2, .int (zI (xP f u))), (0, .ref ta), (1, .int (zI (u)))]) hx hb dX1_nearestStep_21 hl (by decide) rfl (fun ls hl => ?_)
  refine lv_iconst (v := zI (1)) hx hb dX1_nearestStep_23 rfl ?_
  refine lv_istore (lv' := [(5, .int (zI (1))), (4, .int (zI (if (f 0 * f 1) - (xP f u) < xP f u then (f 0 * f 1) - (xP f u) else xP f u))), (3, .int (zI (0))), (2, .int (zI (xP f u))), (0, .ref ta), (1, .int (zI (u)))]) hx hb dX1_nearestStep_24 hl (by decide) rfl (fun ls hl => ?_)
  have loop_26 : ∀ (fu : Nat) (k : Int) (n : Int) (d : Int), (1 ≤ k ∧ k ≤ f 0) → (n = (xNear f (xP f u) (k - 1).toNat).1) → (d = (xNear f (xP f u) (k - 1).toNat).2) → f 0 - k < (fu : Int) → ∀ (ls : Array Slot), lv_has ls 7 [(0, .ref ta), (2, .int (zI (xP f u))), (3, .int (zI (n))), (4, .int (zI (d))), (5, .int (zI (k)))] → W p l e (headSpec wsX1_nearestStep ({ frames := 1, cells := 0, slots := 0, locals := 40 })).room s m args below meth c s.heap [] 0 0 (MQ below (zQ (some (.int (zI ((xNear f (xP f u) (f 0 - 1).toNat).1))))) args s 0 0 (fun _ => False)) (F0 m 26 ls []) := by
    intro fu
    induction fu with
    | zero =>
      intro k n d hk0 hn hd hm
      exfalso; omega
    | succ fu ih =>
      intro k n d hk0 hn hd hm ls hl
      have ih_26 := ih
      refine lv_iload hx hb dX1_nearestStep_26 (lv_at hl 4 rfl) ?_
      refine lv_aload_n hx hb dX1_nearestStep_28 rfl (lv_at hl 0 rfl) ?_
      refine va_get (D := D) (ci := 1) (v := .int (zI (f 0))) (C := RX1) (T := TX1) (N := 10) hx hb hts hin1 hown hK hP 0 rfl rfl 1 (by decide) (hts (.fieldLink RX1 38 "PolyDrums$Track" "steps" "I") (by decide +kernel)) (fun _ h9 => h9) rfl dX1_nearestStep_29 ?_
      refine z_icmp_ge (tgt := 76) hx hb (by omega) dX1_nearestStep_32 (by decide) (fun c_1 => ?_) (fun c_1 => ?_)
      · refine lv_iload_n hx hb dX1_nearestStep_76 rfl (lv_at hl 2 rfl) ?_
        exact z_iret hx hb hr hlocks (by rw [hn, show k = f 0 by omega]) dX1_nearestStep_77
      · have hd1 := xDelay_b hf k
        have hm1 := x_mulb 32 48 (show 0 ≤ k by omega) (by omega) (show 0 ≤ f 1 by omega) (by omega)
        have hb1 := hnb (k - 1).toNat
        have ho1 : 0 ≤ xOff f (xP f u) k ∧ xOff f (xP f u) k ≤ 100000 := by unfold xOff; split <;> omega
        refine lv_iload_n hx hb dX1_nearestStep_35 rfl (lv_at hl 1 rfl) ?_
        refine lv_iload hx hb dX1_nearestStep_36 (lv_at hl 4 rfl) ?_
        refine lv_aload_n hx hb dX1_nearestStep_38 rfl (lv_at hl 0 rfl) ?_
        refine va_get (D := D) (ci := 1) (v := .int (zI (f 1))) (C := RX1) (T := TX1) (N := 10) hx hb hts hin1 hown hK hP 0 rfl rfl 0 (by decide) (hts (.fieldLink RX1 41 "PolyDrums$Track" "stepTicks" "I") (by decide +kernel)) (fun _ h9 => h9) rfl dX1_nearestStep_39 ?_
        refine z_imul hx hb dX1_nearestStep_42 ?_
        refine lv_aload_n hx hb dX1_nearestStep_43 rfl (lv_at hl 0 rfl) ?_
        refine lv_iload hx hb dX1_nearestStep_44 (lv_at hl 4 rfl) ?_
        refine z_call (va_runV (As := [.int (zI (k))]) (rest := [.int (zI ((k) * (f 1))), .int (zI (xP f u))]) ⟨hx, hb, hml, hown, hts⟩ (kX1_delay l D G ta ca pa f (k) (by omega)) (cwV 1 hts gX1_nearestStep_X1_delay rfl rfl rfl (by decide +kernel) ⟨Nat.le_of_ble_eq_true rfl, Nat.le_of_ble_eq_true rfl⟩) (zPreV (va_recv hK hP (ci := 1) (q0 := 0) rfl rfl) hK hN (hP.sub [0] rfl)) rfl rfl hl.1 rfl (lv_room (Nat.le_of_ble_eq_true rfl)) dX1_nearestStep_46 ⟨Nat.le_of_ble_eq_true rfl, Nat.le_of_ble_eq_true rfl⟩) ?_
        refine z_iadd hx hb dX1_nearestStep_49 ?_
        refine z_isub hx hb dX1_nearestStep_50 ?_
        refine z_abs hx hb (hml.trans hl.1.symm) hown (hts (.methodLink RX1 89 Lib.Math.abs.name) (by decide +kernel)) (hts (.static Lib.Math.abs.name) (by decide +kernel)) (hts (.initialized "java/lang/Math") (by decide +kernel)) (hts (.code Lib.Math.abs.name Lib.Math.abs.code 1 (some .int)) (by decide +kernel)) (Nat.le_of_ble_eq_true rfl) (Nat.le_of_ble_eq_true rfl) (Nat.le_of_ble_eq_true rfl) (Nat.le_of_ble_eq_true rfl) (by omega) dX1_nearestStep_51 ?_
        refine z_val (y := xOff f (xP f u) k) (rfl) ?_
        refine lv_istore (lv' := [(6, .int (zI (xOff f (xP f u) k))), (0, .ref ta), (2, .int (zI (xP f u))), (3, .int (zI (n))), (4, .int (zI (d))), (5, .int (zI (k)))]) hx hb dX1_nearestStep_54 hl (by decide) rfl (fun ls hl => ?_)
        refine lv_iload hx hb dX1_nearestStep_56 (lv_at hl 0 rfl) ?_
        refine lv_iload hx hb dX1_nearestStep_58 (lv_at hl 4 rfl) ?_
        refine z_icmp_ge (tgt := 70) hx hb (by omega) dX1_nearestStep_60 (by decide) (fun c_2 => ?_) (fun c_2 => ?_)
        · refine lv_iinc (v := zI (k + 1)) (lv' := [(5, .int (zI (k + 1))), (6, .int (zI (xOff f (xP f u) k))), (0, .ref ta), (2, .int (zI (xP f u))), (3, .int (zI (n))), (4, .int (zI (d)))]) hx hb dX1_nearestStep_70 hl (k := 5) rfl (zI_add (k) (1)) (by decide) rfl (fun ls hl => ?_)
          refine lv_goto (tgt := 26) hx hb dX1_nearestStep_73 (by decide) ?_
          exact ih_26 (k + 1) (n) (d) (by omega) (by rw [show k + 1 - 1 = k by omega, xNear_s hk0.1]; split <;> omega) (by rw [show k + 1 - 1 = k by omega, xNear_s hk0.1]; split <;> omega) (by omega) _ (lv_sub hl [2, 3, 4, 5, 0] rfl)
        · refine lv_iload hx hb dX1_nearestStep_63 (lv_at hl 5 rfl) ?_
          refine lv_istore_n (lv' := [(3, .int (zI (k))), (6, .int (zI (xOff f (xP f u) k))), (0, .ref ta), (2, .int (zI (xP f u))), (4, .int (zI (d))), (5, .int (zI (k)))]) hx hb dX1_nearestStep_65 rfl hl (by decide) rfl (fun ls hl => ?_)
          refine lv_iload hx hb dX1_nearestStep_66 (lv_at hl 1 rfl) ?_
          refine lv_istore (lv' := [(4, .int (zI (xOff f (xP f u) k))), (3, .int (zI (k))), (6, .int (zI (xOff f (xP f u) k))), (0, .ref ta), (2, .int (zI (xP f u))), (5, .int (zI (k)))]) hx hb dX1_nearestStep_68 hl (by decide) rfl (fun ls hl => ?_)
          refine lv_iinc (v := zI (k + 1)) (lv' := [(5, .int (zI (k + 1))), (4, .int (zI (xOff f (xP f u) k))), (3, .int (zI (k))), (6, .int (zI (xOff f (xP f u) k))), (0, .ref ta), (2, .int (zI (xP f u)))]) hx hb dX1_nearestStep_70 hl (k := 5) rfl (zI_add (k) (1)) (by decide) rfl (fun ls hl => ?_)
          refine lv_goto (tgt := 26) hx hb dX1_nearestStep_73 (by decide) ?_
          exact ih_26 (k + 1) (k) (xOff f (xP f u) k) (by omega) (by rw [show k + 1 - 1 = k by omega, xNear_s hk0.1]; split <;> omega) (by rw [show k + 1 - 1 = k by omega, xNear_s hk0.1]; split <;> omega) (by omega) _ (lv_sub hl [4, 5, 2, 1, 0] rfl)
  exact loop_26 (33) (1) (0) (if (f 0 * f 1) - (xP f u) < xP f u then (f 0 * f 1) - (xP f u) else xP f u) (by omega) (rfl) (rfl) (by omega) ls (lv_sub hl [4, 3, 2, 1, 0] rfl)
end
section
theorem zz_look : True := trivial
end
