section
-- ===== PART A: goes FIRST, ahead of the names: the tables' words, and 'selects' of the private methods out of them =====
/-- a private method of a class that the tables say can be made, by its rows of tables_1 -/
def lw_okq (q : MethodName × Nat) : Prop := (q.1.cls ≠ "java/lang/invoke/MethodHandle" ∧ q.1.cls ≠ "java/lang/invoke/VarHandle") ∧ Cond.instantiable q.1.cls q.2 ∈ tables_1 ∧ Cond.privateMethod q.1 ∈ tables_1 ∧ Cond.instanceMethod q.1 ∈ tables_1
theorem lw_p0 : lw_okq (⟨"StandIns", "misuseOfPlainStep", "(Z)I"⟩, 18) := ⟨⟨by decide +kernel, by decide +kernel⟩, List.mem_of_getElem? (i := 15) (by decide +kernel), List.mem_of_getElem? (i := 311) (by decide +kernel), List.mem_of_getElem? (i := 312) (by decide +kernel)⟩
theorem lw_p1 : lw_okq (⟨"StandIns", "awaitsCall", "()Z"⟩, 18) := ⟨⟨by decide +kernel, by decide +kernel⟩, List.mem_of_getElem? (i := 15) (by decide +kernel), List.mem_of_getElem? (i := 315) (by decide +kernel), List.mem_of_getElem? (i := 316) (by decide +kernel)⟩
theorem lw_p2 : lw_okq (⟨"StandIns", "lacksAnswers", "()Z"⟩, 18) := ⟨⟨by decide +kernel, by decide +kernel⟩, List.mem_of_getElem? (i := 15) (by decide +kernel), List.mem_of_getElem? (i := 319) (by decide +kernel), List.mem_of_getElem? (i := 320) (by decide +kernel)⟩
theorem lw_p3 : lw_okq (⟨"StandIns", "latestTelling", "()LStandIns$Telling;"⟩, 18) := ⟨⟨by decide +kernel, by decide +kernel⟩, List.mem_of_getElem? (i := 15) (by decide +kernel), List.mem_of_getElem? (i := 323) (by decide +kernel), List.mem_of_getElem? (i := 324) (by decide +kernel)⟩
theorem lw_p4 : lw_okq (⟨"StandIns", "misuseIf", "(ZZZ)I"⟩, 18) := ⟨⟨by decide +kernel, by decide +kernel⟩, List.mem_of_getElem? (i := 15) (by decide +kernel), List.mem_of_getElem? (i := 330) (by decide +kernel), List.mem_of_getElem? (i := 331) (by decide +kernel)⟩
theorem lw_p5 : lw_okq (⟨"StandIns", "idleWith", "(I)I"⟩, 18) := ⟨⟨by decide +kernel, by decide +kernel⟩, List.mem_of_getElem? (i := 15) (by decide +kernel), List.mem_of_getElem? (i := 334) (by decide +kernel), List.mem_of_getElem? (i := 335) (by decide +kernel)⟩
theorem lw_p6 : lw_okq (⟨"StandIns$Stack", "hasRoomFor", "(I)Z"⟩, 2) := ⟨⟨by decide +kernel, by decide +kernel⟩, List.mem_of_getElem? (i := 25) (by decide +kernel), List.mem_of_getElem? (i := 349) (by decide +kernel), List.mem_of_getElem? (i := 350) (by decide +kernel)⟩
theorem lw_p7 : lw_okq (⟨"StandIns$Stack", "pop", "()LStandIns$Matcher;"⟩, 2) := ⟨⟨by decide +kernel, by decide +kernel⟩, List.mem_of_getElem? (i := 25) (by decide +kernel), List.mem_of_getElem? (i := 357) (by decide +kernel), List.mem_of_getElem? (i := 358) (by decide +kernel)⟩
theorem lw_p8 : lw_okq (⟨"StandIns$Stack", "push", "(LStandIns$Matcher;)V"⟩, 2) := ⟨⟨by decide +kernel, by decide +kernel⟩, List.mem_of_getElem? (i := 25) (by decide +kernel), List.mem_of_getElem? (i := 384) (by decide +kernel), List.mem_of_getElem? (i := 385) (by decide +kernel)⟩
theorem lw_p9 : lw_okq (⟨"StandIns", "isStandIn", "(I)Z"⟩, 18) := ⟨⟨by decide +kernel, by decide +kernel⟩, List.mem_of_getElem? (i := 15) (by decide +kernel), List.mem_of_getElem? (i := 392) (by decide +kernel), List.mem_of_getElem? (i := 393) (by decide +kernel)⟩
theorem lw_p10 : lw_okq (⟨"StandIns", "hasNoRoomForCallOf", "(I)Z"⟩, 18) := ⟨⟨by decide +kernel, by decide +kernel⟩, List.mem_of_getElem? (i := 15) (by decide +kernel), List.mem_of_getElem? (i := 397) (by decide +kernel), List.mem_of_getElem? (i := 398) (by decide +kernel)⟩
theorem lw_p11 : lw_okq (⟨"StandIns", "methodOf", "(II)LStandIns$Method;"⟩, 18) := ⟨⟨by decide +kernel, by decide +kernel⟩, List.mem_of_getElem? (i := 15) (by decide +kernel), List.mem_of_getElem? (i := 402) (by decide +kernel), List.mem_of_getElem? (i := 403) (by decide +kernel)⟩
theorem lw_p12 : lw_okq (⟨"StandIns", "misuseOfCall", "(ILStandIns$Method;)I"⟩, 18) := ⟨⟨by decide +kernel, by decide +kernel⟩, List.mem_of_getElem? (i := 15) (by decide +kernel), List.mem_of_getElem? (i := 406) (by decide +kernel), List.mem_of_getElem? (i := 407) (by decide +kernel)⟩
theorem lw_p13 : lw_okq (⟨"StandIns$Answers", "allDoFor", "(LStandIns$Method;)Z"⟩, 3) := ⟨⟨by decide +kernel, by decide +kernel⟩, List.mem_of_getElem? (i := 43) (by decide +kernel), List.mem_of_getElem? (i := 410) (by decide +kernel), List.mem_of_getElem? (i := 411) (by decide +kernel)⟩
theorem lw_p14 : lw_okq (⟨"StandIns$Method", "canDo", "(II)Z"⟩, 2) := ⟨⟨by decide +kernel, by decide +kernel⟩, List.mem_of_getElem? (i := 204) (by decide +kernel), List.mem_of_getElem? (i := 414) (by decide +kernel), List.mem_of_getElem? (i := 415) (by decide +kernel)⟩
theorem lw_p15 : lw_okq (⟨"StandIns", "matcherOf", "(III)LStandIns$Matcher;"⟩, 18) := ⟨⟨by decide +kernel, by decide +kernel⟩, List.mem_of_getElem? (i := 15) (by decide +kernel), List.mem_of_getElem? (i := 419) (by decide +kernel), List.mem_of_getElem? (i := 420) (by decide +kernel)⟩
def lw_privs_1 : List (MethodName × Nat) := [(⟨"StandIns", "misuseOfPlainStep", "(Z)I"⟩, 18), (⟨"StandIns", "awaitsCall", "()Z"⟩, 18), (⟨"StandIns", "lacksAnswers", "()Z"⟩, 18), (⟨"StandIns", "latestTelling", "()LStandIns$Telling;"⟩, 18), (⟨"StandIns", "misuseIf", "(ZZZ)I"⟩, 18), (⟨"StandIns", "idleWith", "(I)I"⟩, 18), (⟨"StandIns$Stack", "hasRoomFor", "(I)Z"⟩, 2), (⟨"StandIns$Stack", "pop", "()LStandIns$Matcher;"⟩, 2), (⟨"StandIns$Stack", "push", "(LStandIns$Matcher;)V"⟩, 2), (⟨"StandIns", "isStandIn", "(I)Z"⟩, 18), (⟨"StandIns", "hasNoRoomForCallOf", "(I)Z"⟩, 18), (⟨"StandIns", "methodOf", "(II)LStandIns$Method;"⟩, 18), (⟨"StandIns", "misuseOfCall", "(ILStandIns$Method;)I"⟩, 18), (⟨"StandIns$Answers", "allDoFor", "(LStandIns$Method;)Z"⟩, 3), (⟨"StandIns$Method", "canDo", "(II)Z"⟩, 2), (⟨"StandIns", "matcherOf", "(III)LStandIns$Matcher;"⟩, 18)]
theorem lw_r1 : ∀ q ∈ lw_privs_1, lw_okq q := List.forall_mem_cons.mpr ⟨lw_p0, List.forall_mem_cons.mpr ⟨lw_p1, List.forall_mem_cons.mpr ⟨lw_p2, List.forall_mem_cons.mpr ⟨lw_p3, List.forall_mem_cons.mpr ⟨lw_p4, List.forall_mem_cons.mpr ⟨lw_p5, List.forall_mem_cons.mpr ⟨lw_p6, List.forall_mem_cons.mpr ⟨lw_p7, List.forall_mem_cons.mpr ⟨lw_p8, List.forall_mem_cons.mpr ⟨lw_p9, List.forall_mem_cons.mpr ⟨lw_p10, List.forall_mem_cons.mpr ⟨lw_p11, List.forall_mem_cons.mpr ⟨lw_p12, List.forall_mem_cons.mpr ⟨lw_p13, List.forall_mem_cons.mpr ⟨lw_p14, List.forall_mem_cons.mpr ⟨lw_p15, fun _ h => absurd h List.not_mem_nil⟩⟩⟩⟩⟩⟩⟩⟩⟩⟩⟩⟩⟩⟩⟩⟩
theorem lw_p16 : lw_okq (⟨"StandIns", "tellPrepared", "()J"⟩, 18) := ⟨⟨by decide +kernel, by decide +kernel⟩, List.mem_of_getElem? (i := 15) (by decide +kernel), List.mem_of_getElem? (i := 423) (by decide +kernel), List.mem_of_getElem? (i := 424) (by decide +kernel)⟩
theorem lw_p17 : lw_okq (⟨"StandIns", "beginTelling", "()V"⟩, 18) := ⟨⟨by decide +kernel, by decide +kernel⟩, List.mem_of_getElem? (i := 15) (by decide +kernel), List.mem_of_getElem? (i := 427) (by decide +kernel), List.mem_of_getElem? (i := 428) (by decide +kernel)⟩
theorem lw_p18 : lw_okq (⟨"StandIns$Pattern", "copy", "(LStandIns$Pattern;)V"⟩, 4) := ⟨⟨by decide +kernel, by decide +kernel⟩, List.mem_of_getElem? (i := 180) (by decide +kernel), List.mem_of_getElem? (i := 431) (by decide +kernel), List.mem_of_getElem? (i := 432) (by decide +kernel)⟩
theorem lw_p19 : lw_okq (⟨"StandIns$Answers", "takeAllOf", "(LStandIns$Answers;)V"⟩, 3) := ⟨⟨by decide +kernel, by decide +kernel⟩, List.mem_of_getElem? (i := 43) (by decide +kernel), List.mem_of_getElem? (i := 435) (by decide +kernel), List.mem_of_getElem? (i := 436) (by decide +kernel)⟩
theorem lw_p20 : lw_okq (⟨"StandIns$Answers", "add", "(II)V"⟩, 3) := ⟨⟨by decide +kernel, by decide +kernel⟩, List.mem_of_getElem? (i := 43) (by decide +kernel), List.mem_of_getElem? (i := 439) (by decide +kernel), List.mem_of_getElem? (i := 440) (by decide +kernel)⟩
theorem lw_p21 : lw_okq (⟨"StandIns", "doCheck", "()J"⟩, 18) := ⟨⟨by decide +kernel, by decide +kernel⟩, List.mem_of_getElem? (i := 15) (by decide +kernel), List.mem_of_getElem? (i := 443) (by decide +kernel), List.mem_of_getElem? (i := 444) (by decide +kernel)⟩
theorem lw_p22 : lw_okq (⟨"StandIns", "findAbove", "(I)V"⟩, 18) := ⟨⟨by decide +kernel, by decide +kernel⟩, List.mem_of_getElem? (i := 15) (by decide +kernel), List.mem_of_getElem? (i := 447) (by decide +kernel), List.mem_of_getElem? (i := 448) (by decide +kernel)⟩
theorem lw_p23 : lw_okq (⟨"StandIns$Pattern", "matches", "(LStandIns$Note;)Z"⟩, 4) := ⟨⟨by decide +kernel, by decide +kernel⟩, List.mem_of_getElem? (i := 180) (by decide +kernel), List.mem_of_getElem? (i := 451) (by decide +kernel), List.mem_of_getElem? (i := 452) (by decide +kernel)⟩
theorem lw_p24 : lw_okq (⟨"StandIns$Finding", "add", "(II)V"⟩, 5) := ⟨⟨by decide +kernel, by decide +kernel⟩, List.mem_of_getElem? (i := 132) (by decide +kernel), List.mem_of_getElem? (i := 459) (by decide +kernel), List.mem_of_getElem? (i := 460) (by decide +kernel)⟩
theorem lw_p25 : lw_okq (⟨"StandIns", "passes", "()Z"⟩, 18) := ⟨⟨by decide +kernel, by decide +kernel⟩, List.mem_of_getElem? (i := 15) (by decide +kernel), List.mem_of_getElem? (i := 463) (by decide +kernel), List.mem_of_getElem? (i := 464) (by decide +kernel)⟩
theorem lw_p26 : lw_okq (⟨"StandIns$Notebook", "manyOf", "(I)I"⟩, 3) := ⟨⟨by decide +kernel, by decide +kernel⟩, List.mem_of_getElem? (i := 61) (by decide +kernel), List.mem_of_getElem? (i := 467) (by decide +kernel), List.mem_of_getElem? (i := 468) (by decide +kernel)⟩
theorem lw_p27 : lw_okq (⟨"StandIns", "seeAndCatch", "()V"⟩, 18) := ⟨⟨by decide +kernel, by decide +kernel⟩, List.mem_of_getElem? (i := 15) (by decide +kernel), List.mem_of_getElem? (i := 471) (by decide +kernel), List.mem_of_getElem? (i := 472) (by decide +kernel)⟩
theorem lw_p28 : lw_okq (⟨"StandIns$Catches", "add", "(I)V"⟩, 4) := ⟨⟨by decide +kernel, by decide +kernel⟩, List.mem_of_getElem? (i := 159) (by decide +kernel), List.mem_of_getElem? (i := 478) (by decide +kernel), List.mem_of_getElem? (i := 479) (by decide +kernel)⟩
theorem lw_p29 : lw_okq (⟨"StandIns", "noteAndAnswer", "(LStandIns$Method;II)J"⟩, 18) := ⟨⟨by decide +kernel, by decide +kernel⟩, List.mem_of_getElem? (i := 15) (by decide +kernel), List.mem_of_getElem? (i := 487) (by decide +kernel), List.mem_of_getElem? (i := 488) (by decide +kernel)⟩
theorem lw_p30 : lw_okq (⟨"StandIns$Notebook", "add", "(LStandIns$Pattern;II)LStandIns$Note;"⟩, 3) := ⟨⟨by decide +kernel, by decide +kernel⟩, List.mem_of_getElem? (i := 61) (by decide +kernel), List.mem_of_getElem? (i := 491) (by decide +kernel), List.mem_of_getElem? (i := 492) (by decide +kernel)⟩
theorem lw_p31 : lw_okq (⟨"StandIns", "tellingFor", "(LStandIns$Note;)I"⟩, 18) := ⟨⟨by decide +kernel, by decide +kernel⟩, List.mem_of_getElem? (i := 15) (by decide +kernel), List.mem_of_getElem? (i := 495) (by decide +kernel), List.mem_of_getElem? (i := 496) (by decide +kernel)⟩
def lw_privs_2 : List (MethodName × Nat) := [(⟨"StandIns", "tellPrepared", "()J"⟩, 18), (⟨"StandIns", "beginTelling", "()V"⟩, 18), (⟨"StandIns$Pattern", "copy", "(LStandIns$Pattern;)V"⟩, 4), (⟨"StandIns$Answers", "takeAllOf", "(LStandIns$Answers;)V"⟩, 3), (⟨"StandIns$Answers", "add", "(II)V"⟩, 3), (⟨"StandIns", "doCheck", "()J"⟩, 18), (⟨"StandIns", "findAbove", "(I)V"⟩, 18), (⟨"StandIns$Pattern", "matches", "(LStandIns$Note;)Z"⟩, 4), (⟨"StandIns$Finding", "add", "(II)V"⟩, 5), (⟨"StandIns", "passes", "()Z"⟩, 18), (⟨"StandIns$Notebook", "manyOf", "(I)I"⟩, 3), (⟨"StandIns", "seeAndCatch", "()V"⟩, 18), (⟨"StandIns$Catches", "add", "(I)V"⟩, 4), (⟨"StandIns", "noteAndAnswer", "(LStandIns$Method;II)J"⟩, 18), (⟨"StandIns$Notebook", "add", "(LStandIns$Pattern;II)LStandIns$Note;"⟩, 3), (⟨"StandIns", "tellingFor", "(LStandIns$Note;)I"⟩, 18)]
theorem lw_r2 : ∀ q ∈ lw_privs_2, lw_okq q := List.forall_mem_cons.mpr ⟨lw_p16, List.forall_mem_cons.mpr ⟨lw_p17, List.forall_mem_cons.mpr ⟨lw_p18, List.forall_mem_cons.mpr ⟨lw_p19, List.forall_mem_cons.mpr ⟨lw_p20, List.forall_mem_cons.mpr ⟨lw_p21, List.forall_mem_cons.mpr ⟨lw_p22, List.forall_mem_cons.mpr ⟨lw_p23, List.forall_mem_cons.mpr ⟨lw_p24, List.forall_mem_cons.mpr ⟨lw_p25, List.forall_mem_cons.mpr ⟨lw_p26, List.forall_mem_cons.mpr ⟨lw_p27, List.forall_mem_cons.mpr ⟨lw_p28, List.forall_mem_cons.mpr ⟨lw_p29, List.forall_mem_cons.mpr ⟨lw_p30, List.forall_mem_cons.mpr ⟨lw_p31, fun _ h => absurd h List.not_mem_nil⟩⟩⟩⟩⟩⟩⟩⟩⟩⟩⟩⟩⟩⟩⟩⟩
theorem lw_p32 : lw_okq (⟨"StandIns$Telling", "answerTo", "(LStandIns$Note;LStandIns$Method;)J"⟩, 5) := ⟨⟨by decide +kernel, by decide +kernel⟩, List.mem_of_getElem? (i := 219) (by decide +kernel), List.mem_of_getElem? (i := 499) (by decide +kernel), List.mem_of_getElem? (i := 500) (by decide +kernel)⟩
theorem lw_p33 : lw_okq (⟨"StandIns$Answers", "spokenTo", "(ILStandIns$Note;LStandIns$Method;)J"⟩, 3) := ⟨⟨by decide +kernel, by decide +kernel⟩, List.mem_of_getElem? (i := 43) (by decide +kernel), List.mem_of_getElem? (i := 503) (by decide +kernel), List.mem_of_getElem? (i := 504) (by decide +kernel)⟩
theorem lw_p34 : lw_okq (⟨"StandIns$Method", "realResult", "(LStandIns$Note;)I"⟩, 2) := ⟨⟨by decide +kernel, by decide +kernel⟩, List.mem_of_getElem? (i := 204) (by decide +kernel), List.mem_of_getElem? (i := 508) (by decide +kernel), List.mem_of_getElem? (i := 509) (by decide +kernel)⟩
theorem lw_p35 : lw_okq (⟨"StandIns$Notebook", "takeBackLast", "()V"⟩, 3) := ⟨⟨by decide +kernel, by decide +kernel⟩, List.mem_of_getElem? (i := 61) (by decide +kernel), List.mem_of_getElem? (i := 518) (by decide +kernel), List.mem_of_getElem? (i := 519) (by decide +kernel)⟩
theorem lw_p36 : lw_okq (⟨"StandIns$Notebook", "firstUnseenOf", "(I)I"⟩, 3) := ⟨⟨by decide +kernel, by decide +kernel⟩, List.mem_of_getElem? (i := 61) (by decide +kernel), List.mem_of_getElem? (i := 543) (by decide +kernel), List.mem_of_getElem? (i := 544) (by decide +kernel)⟩
theorem lw_p37 : lw_okq (⟨"StandIns$Catches", "beforeLatest", "(I)I"⟩, 4) := ⟨⟨by decide +kernel, by decide +kernel⟩, List.mem_of_getElem? (i := 159) (by decide +kernel), List.mem_of_getElem? (i := 567) (by decide +kernel), List.mem_of_getElem? (i := 568) (by decide +kernel)⟩
theorem lw_p38 : lw_okq (⟨"StandIns", "tellingsNeverUsed", "()I"⟩, 18) := ⟨⟨by decide +kernel, by decide +kernel⟩, List.mem_of_getElem? (i := 15) (by decide +kernel), List.mem_of_getElem? (i := 575) (by decide +kernel), List.mem_of_getElem? (i := 576) (by decide +kernel)⟩
theorem lw_p39 : lw_okq (⟨"StandInsModel", "other", "(Z)I"⟩, 39) := ⟨⟨by decide +kernel, by decide +kernel⟩, List.mem_of_getElem? (i := 579) (by decide +kernel), List.mem_of_getElem? (i := 711) (by decide +kernel), List.mem_of_getElem? (i := 712) (by decide +kernel)⟩
theorem lw_p40 : lw_okq (⟨"StandInsModel", "misuse", "(ZIZZ)I"⟩, 39) := ⟨⟨by decide +kernel, by decide +kernel⟩, List.mem_of_getElem? (i := 579) (by decide +kernel), List.mem_of_getElem? (i := 715) (by decide +kernel), List.mem_of_getElem? (i := 716) (by decide +kernel)⟩
theorem lw_p41 : lw_okq (⟨"StandInsModel", "single", "(III)V"⟩, 39) := ⟨⟨by decide +kernel, by decide +kernel⟩, List.mem_of_getElem? (i := 579) (by decide +kernel), List.mem_of_getElem? (i := 727) (by decide +kernel), List.mem_of_getElem? (i := 728) (by decide +kernel)⟩
theorem lw_p42 : lw_okq (⟨"StandInsModel", "copy", "(III)V"⟩, 39) := ⟨⟨by decide +kernel, by decide +kernel⟩, List.mem_of_getElem? (i := 579) (by decide +kernel), List.mem_of_getElem? (i := 731) (by decide +kernel), List.mem_of_getElem? (i := 732) (by decide +kernel)⟩
theorem lw_p43 : lw_okq (⟨"StandInsModel", "shape", "(II)I"⟩, 39) := ⟨⟨by decide +kernel, by decide +kernel⟩, List.mem_of_getElem? (i := 579) (by decide +kernel), List.mem_of_getElem? (i := 741) (by decide +kernel), List.mem_of_getElem? (i := 742) (by decide +kernel)⟩
theorem lw_p44 : lw_okq (⟨"StandInsModel", "willNotDo", "(III)Z"⟩, 39) := ⟨⟨by decide +kernel, by decide +kernel⟩, List.mem_of_getElem? (i := 579) (by decide +kernel), List.mem_of_getElem? (i := 745) (by decide +kernel), List.mem_of_getElem? (i := 746) (by decide +kernel)⟩
theorem lw_p45 : lw_okq (⟨"StandInsModel", "tell", "(III)V"⟩, 39) := ⟨⟨by decide +kernel, by decide +kernel⟩, List.mem_of_getElem? (i := 579) (by decide +kernel), List.mem_of_getElem? (i := 750) (by decide +kernel), List.mem_of_getElem? (i := 751) (by decide +kernel)⟩
theorem lw_p46 : lw_okq (⟨"StandInsModel", "keep", "(III)V"⟩, 39) := ⟨⟨by decide +kernel, by decide +kernel⟩, List.mem_of_getElem? (i := 579) (by decide +kernel), List.mem_of_getElem? (i := 754) (by decide +kernel), List.mem_of_getElem? (i := 755) (by decide +kernel)⟩
theorem lw_p47 : lw_okq (⟨"StandInsModel", "check", "(II)Z"⟩, 39) := ⟨⟨by decide +kernel, by decide +kernel⟩, List.mem_of_getElem? (i := 579) (by decide +kernel), List.mem_of_getElem? (i := 758) (by decide +kernel), List.mem_of_getElem? (i := 759) (by decide +kernel)⟩
def lw_privs_3 : List (MethodName × Nat) := [(⟨"StandIns$Telling", "answerTo", "(LStandIns$Note;LStandIns$Method;)J"⟩, 5), (⟨"StandIns$Answers", "spokenTo", "(ILStandIns$Note;LStandIns$Method;)J"⟩, 3), (⟨"StandIns$Method", "realResult", "(LStandIns$Note;)I"⟩, 2), (⟨"StandIns$Notebook", "takeBackLast", "()V"⟩, 3), (⟨"StandIns$Notebook", "firstUnseenOf", "(I)I"⟩, 3), (⟨"StandIns$Catches", "beforeLatest", "(I)I"⟩, 4), (⟨"StandIns", "tellingsNeverUsed", "()I"⟩, 18), (⟨"StandInsModel", "other", "(Z)I"⟩, 39), (⟨"StandInsModel", "misuse", "(ZIZZ)I"⟩, 39), (⟨"StandInsModel", "single", "(III)V"⟩, 39), (⟨"StandInsModel", "copy", "(III)V"⟩, 39), (⟨"StandInsModel", "shape", "(II)I"⟩, 39), (⟨"StandInsModel", "willNotDo", "(III)Z"⟩, 39), (⟨"StandInsModel", "tell", "(III)V"⟩, 39), (⟨"StandInsModel", "keep", "(III)V"⟩, 39), (⟨"StandInsModel", "check", "(II)Z"⟩, 39)]
theorem lw_r3 : ∀ q ∈ lw_privs_3, lw_okq q := List.forall_mem_cons.mpr ⟨lw_p32, List.forall_mem_cons.mpr ⟨lw_p33, List.forall_mem_cons.mpr ⟨lw_p34, List.forall_mem_cons.mpr ⟨lw_p35, List.forall_mem_cons.mpr ⟨lw_p36, List.forall_mem_cons.mpr ⟨lw_p37, List.forall_mem_cons.mpr ⟨lw_p38, List.forall_mem_cons.mpr ⟨lw_p39, List.forall_mem_cons.mpr ⟨lw_p40, List.forall_mem_cons.mpr ⟨lw_p41, List.forall_mem_cons.mpr ⟨lw_p42, List.forall_mem_cons.mpr ⟨lw_p43, List.forall_mem_cons.mpr ⟨lw_p44, List.forall_mem_cons.mpr ⟨lw_p45, List.forall_mem_cons.mpr ⟨lw_p46, List.forall_mem_cons.mpr ⟨lw_p47, fun _ h => absurd h List.not_mem_nil⟩⟩⟩⟩⟩⟩⟩⟩⟩⟩⟩⟩⟩⟩⟩⟩
theorem lw_p48 : lw_okq (⟨"StandInsModel", "matchesCall", "(IIII)Z"⟩, 39) := ⟨⟨by decide +kernel, by decide +kernel⟩, List.mem_of_getElem? (i := 579) (by decide +kernel), List.mem_of_getElem? (i := 762) (by decide +kernel), List.mem_of_getElem? (i := 763) (by decide +kernel)⟩
theorem lw_p49 : lw_okq (⟨"StandInsModel", "matches", "(II)Z"⟩, 39) := ⟨⟨by decide +kernel, by decide +kernel⟩, List.mem_of_getElem? (i := 579) (by decide +kernel), List.mem_of_getElem? (i := 766) (by decide +kernel), List.mem_of_getElem? (i := 767) (by decide +kernel)⟩
theorem lw_p50 : lw_okq (⟨"StandInsModel", "note", "(IIII)V"⟩, 39) := ⟨⟨by decide +kernel, by decide +kernel⟩, List.mem_of_getElem? (i := 579) (by decide +kernel), List.mem_of_getElem? (i := 772) (by decide +kernel), List.mem_of_getElem? (i := 773) (by decide +kernel)⟩
theorem lw_p51 : lw_okq (⟨"StandInsModel", "answered", "(I)J"⟩, 39) := ⟨⟨by decide +kernel, by decide +kernel⟩, List.mem_of_getElem? (i := 579) (by decide +kernel), List.mem_of_getElem? (i := 776) (by decide +kernel), List.mem_of_getElem? (i := 777) (by decide +kernel)⟩
theorem lw_p52 : lw_okq (⟨"StandInsModel", "real", "(III)I"⟩, 39) := ⟨⟨by decide +kernel, by decide +kernel⟩, List.mem_of_getElem? (i := 579) (by decide +kernel), List.mem_of_getElem? (i := 780) (by decide +kernel), List.mem_of_getElem? (i := 781) (by decide +kernel)⟩
def lw_privs_4 : List (MethodName × Nat) := [(⟨"StandInsModel", "matchesCall", "(IIII)Z"⟩, 39), (⟨"StandInsModel", "matches", "(II)Z"⟩, 39), (⟨"StandInsModel", "note", "(IIII)V"⟩, 39), (⟨"StandInsModel", "answered", "(I)J"⟩, 39), (⟨"StandInsModel", "real", "(III)I"⟩, 39)]
theorem lw_r4 : ∀ q ∈ lw_privs_4, lw_okq q := List.forall_mem_cons.mpr ⟨lw_p48, List.forall_mem_cons.mpr ⟨lw_p49, List.forall_mem_cons.mpr ⟨lw_p50, List.forall_mem_cons.mpr ⟨lw_p51, List.forall_mem_cons.mpr ⟨lw_p52, fun _ h => absurd h List.not_mem_nil⟩⟩⟩⟩⟩
def lw_privs : List (MethodName × Nat) := lw_privs_1 ++ (lw_privs_2 ++ (lw_privs_3 ++ (lw_privs_4)))
def lw_tbl : List Cond := k2_sels lw_privs ++ tables_1
theorem lw_privs_ok : ∀ q ∈ lw_privs, lw_okq q := by
  show ∀ q ∈ lw_privs_1 ++ (lw_privs_2 ++ (lw_privs_3 ++ (lw_privs_4))), lw_okq q
  exact List.forall_mem_append.mpr ⟨lw_r1, List.forall_mem_append.mpr ⟨lw_r2, List.forall_mem_append.mpr ⟨lw_r3, lw_r4⟩⟩⟩
def RxA : String := "StandIns"
def TxA : u_T := fun k => match k with
  | 0 => ("StandIns", "methods", "[LStandIns$Method;", true)
  | 1 => ("StandIns", "types", "[I", true)
  | 2 => ("StandIns", "kinds", "[I", true)
  | 3 => ("StandIns", "standIns", "I", false)
  | 4 => ("StandIns", "stack", "LStandIns$Stack;", true)
  | 5 => ("StandIns", "prepared", "LStandIns$Answers;", true)
  | 6 => ("StandIns", "notebook", "LStandIns$Notebook;", true)
  | 7 => ("StandIns", "tellings", "[LStandIns$Telling;", true)
  | 8 => ("StandIns", "tellingsMade", "I", false)
  | 9 => ("StandIns", "finding", "LStandIns$Finding;", true)
  | 10 => ("StandIns", "catches", "LStandIns$Catches;", true)
  | 11 => ("StandIns", "asked", "LStandIns$Pattern;", true)
  | 12 => ("StandIns", "state", "I", false)
  | 13 => ("StandIns", "awaited", "I", false)
  | 14 => ("StandIns", "mode", "I", false)
  | 15 => ("StandIns", "modeNumber", "I", false)
  | 16 => ("StandIns", "place", "I", false)
  | _ => ("StandIns", "misuses", "I", false)
def RxK : String := "StandIns$Stack"
def TxK : u_T := fun k => match k with
  | 0 => ("StandIns$Stack", "held", "[LStandIns$Matcher;", true)
  | _ => ("StandIns$Stack", "size", "I", false)
def RxB : String := "StandIns$Notebook"
def TxB : u_T := fun k => match k with
  | 0 => ("StandIns$Notebook", "notes", "[LStandIns$Note;", true)
  | 1 => ("StandIns$Notebook", "size", "I", false)
  | _ => ("StandIns$Notebook", "nextNumber", "I", false)
def RxF : String := "StandIns$Finding"
def TxF : u_T := fun k => match k with
  | 0 => ("StandIns$Finding", "places", "[I", true)
  | 1 => ("StandIns$Finding", "numbers", "[I", true)
  | 2 => ("StandIns$Finding", "size", "I", false)
  | 3 => ("StandIns$Finding", "done", "Z", false)
  | _ => ("StandIns$Finding", "passed", "Z", false)
def RxC : String := "StandIns$Catches"
def TxC : u_T := fun k => match k with
  | 0 => ("StandIns$Catches", "ring", "[I", true)
  | 1 => ("StandIns$Catches", "next", "I", false)
  | 2 => ("StandIns$Catches", "kept", "I", false)
  | _ => ("StandIns$Catches", "total", "I", false)
def RxD : String := "StandIns$Method"
def TxD : u_T := fun k => match k with
  | 0 => ("StandIns$Method", "parameters", "I", false)
  | _ => ("StandIns$Method", "gives", "Z", false)
def RxN : String := "StandIns$Note"
def TxN : u_T := fun k => match k with
  | 0 => ("StandIns$Note", "number", "I", false)
  | 1 => ("StandIns$Note", "standIn", "I", false)
  | 2 => ("StandIns$Note", "method", "I", false)
  | 3 => ("StandIns$Note", "a", "I", false)
  | 4 => ("StandIns$Note", "b", "I", false)
  | 5 => ("StandIns$Note", "seen", "Z", false)
  | _ => ("StandIns$Note", "answeredBy", "I", false)
def RxT : String := "StandIns$Telling"
def TxT : u_T := fun k => match k with
  | 0 => ("StandIns$Telling", "pattern", "LStandIns$Pattern;", true)
  | 1 => ("StandIns$Telling", "answers", "LStandIns$Answers;", true)
  | 2 => ("StandIns$Telling", "next", "I", false)
  | 3 => ("StandIns$Telling", "timesAnswered", "I", false)
  | _ => ("StandIns$Telling", "gone", "Z", false)
def RxP : String := "StandIns$Pattern"
def TxP : u_T := fun k => match k with
  | 0 => ("StandIns$Pattern", "standIn", "I", false)
  | 1 => ("StandIns$Pattern", "method", "I", false)
  | 2 => ("StandIns$Pattern", "first", "LStandIns$Matcher;", false)
  | _ => ("StandIns$Pattern", "second", "LStandIns$Matcher;", false)
def RxQ : String := "StandIns$Answers"
def TxQ : u_T := fun k => match k with
  | 0 => ("StandIns$Answers", "kinds", "[I", true)
  | 1 => ("StandIns$Answers", "values", "[I", true)
  | _ => ("StandIns$Answers", "size", "I", false)
def RxH : String := "StandIns$Matcher"
def TxH : u_T := fun k => match k with
  | 0 => ("StandIns$Matcher", "kind", "I", true)
  | 1 => ("StandIns$Matcher", "v", "I", true)
  | 2 => ("StandIns$Matcher", "lower", "LStandIns$Matcher;", true)
  | 3 => ("StandIns$Matcher", "upper", "LStandIns$Matcher;", true)
  | _ => ("StandIns$Matcher", "size", "I", true)
def RxM : String := "StandInsModel"
def TxM : u_T := fun k => match k with
  | 0 => ("StandInsModel", "many", "[I", true)
  | 1 => ("StandInsModel", "gives", "[Z", true)
  | 2 => ("StandInsModel", "typeOf", "[I", true)
  | 3 => ("StandInsModel", "kindOf", "[I", true)
  | 4 => ("StandInsModel", "standIns", "I", false)
  | 5 => ("StandInsModel", "size", "[I", true)
  | 6 => ("StandInsModel", "kinds", "[I", true)
  | 7 => ("StandInsModel", "values", "[I", true)
  | 8 => ("StandInsModel", "stack", "I", false)
  | 9 => ("StandInsModel", "state", "I", false)
  | 10 => ("StandInsModel", "who", "I", false)
  | 11 => ("StandInsModel", "mode", "I", false)
  | 12 => ("StandInsModel", "times", "I", false)
  | 13 => ("StandInsModel", "number", "[I", true)
  | 14 => ("StandInsModel", "by", "[I", true)
  | 15 => ("StandInsModel", "method", "[I", true)
  | 16 => ("StandInsModel", "as", "[I", true)
  | 17 => ("StandInsModel", "bs", "[I", true)
  | 18 => ("StandInsModel", "answeredBy", "[I", true)
  | 19 => ("StandInsModel", "seen", "[Z", true)
  | 20 => ("StandInsModel", "calls", "I", false)
  | 21 => ("StandInsModel", "next", "I", false)
  | 22 => ("StandInsModel", "toldOf", "[I", true)
  | 23 => ("StandInsModel", "toldMethod", "[I", true)
  | 24 => ("StandInsModel", "answers", "[I", true)
  | 25 => ("StandInsModel", "used", "[I", true)
  | 26 => ("StandInsModel", "answerKind", "[I", true)
  | 27 => ("StandInsModel", "answerValue", "[I", true)
  | 28 => ("StandInsModel", "gone", "[Z", true)
  | 29 => ("StandInsModel", "tellings", "I", false)
  | 30 => ("StandInsModel", "misuses", "I", false)
  | 31 => ("StandInsModel", "place", "I", false)
  | 32 => ("StandInsModel", "found", "[I", true)
  | 33 => ("StandInsModel", "foundNumber", "[I", true)
  | 34 => ("StandInsModel", "caught", "[I", true)
  | 35 => ("StandInsModel", "finds", "I", false)
  | 36 => ("StandInsModel", "catches", "I", false)
  | 37 => ("StandInsModel", "checked", "Z", false)
  | _ => ("StandInsModel", "passed", "Z", false)
def RxL : String := "StandInsLaw"
abbrev vwCl : List vw_C := [(RxA, TxA, 18), (RxK, TxK, 2), (RxB, TxB, 3), (RxF, TxF, 5), (RxC, TxC, 4), (RxD, TxD, 2), (RxN, TxN, 7), (RxT, TxT, 5), (RxP, TxP, 4), (RxQ, TxQ, 3), (RxH, TxH, 5), (RxM, TxM, 39)]
abbrev ixH : Nat := 10
def xHost : String := "StandIns"
abbrev bA_init : ByteArray := prog_1_method_1_code
def yA_init : MethodName := ⟨RxA, "<init>", "()V"⟩
abbrev bA_define : ByteArray := prog_1_method_2_code
def yA_define : MethodName := ⟨RxA, "define", "(IIIZ)I"⟩
abbrev bA_make : ByteArray := prog_1_method_3_code
def yA_make : MethodName := ⟨RxA, "make", "(II)I"⟩
abbrev bA_matcher : ByteArray := prog_1_method_4_code
def yA_matcher : MethodName := ⟨RxA, "matcher", "(II)I"⟩
abbrev bA_call : ByteArray := prog_1_method_5_code
def yA_call : MethodName := ⟨RxA, "call", "(IIII)J"⟩
abbrev bA_when : ByteArray := prog_1_method_6_code
def yA_when : MethodName := ⟨RxA, "when", "()I"⟩
abbrev bA_answer : ByteArray := prog_1_method_7_code
def yA_answer : MethodName := ⟨RxA, "answer", "(II)I"⟩
abbrev bA_told : ByteArray := prog_1_method_8_code
def yA_told : MethodName := ⟨RxA, "told", "(I)I"⟩
abbrev bA_check : ByteArray := prog_1_method_9_code
def yA_check : MethodName := ⟨RxA, "check", "(III)I"⟩
abbrev bA_noMore : ByteArray := prog_1_method_10_code
def yA_noMore : MethodName := ⟨RxA, "noMore", "(I)I"⟩
abbrev bA_restart : ByteArray := prog_1_method_11_code
def yA_restart : MethodName := ⟨RxA, "restart", "()I"⟩
abbrev bA_noted : ByteArray := prog_1_method_12_code
def yA_noted : MethodName := ⟨RxA, "noted", "(II)I"⟩
abbrev bA_telling : ByteArray := prog_1_method_13_code
def yA_telling : MethodName := ⟨RxA, "telling", "(II)I"⟩
abbrev bA_found : ByteArray := prog_1_method_14_code
def yA_found : MethodName := ⟨RxA, "found", "(I)I"⟩
abbrev bA_caught : ByteArray := prog_1_method_15_code
def yA_caught : MethodName := ⟨RxA, "caught", "(I)I"⟩
abbrev bA_count : ByteArray := prog_1_method_16_code
def yA_count : MethodName := ⟨RxA, "count", "(I)I"⟩
abbrev bA_isBelow : ByteArray := prog_1_method_17_code
def yA_isBelow : MethodName := ⟨RxA, "isBelow", "(II)Z"⟩
abbrev bA_isStandIn : ByteArray := prog_1_method_18_code
def yA_isStandIn : MethodName := ⟨RxA, "isStandIn", "(I)Z"⟩
abbrev bA_isAnswer : ByteArray := prog_1_method_19_code
def yA_isAnswer : MethodName := ⟨RxA, "isAnswer", "(II)Z"⟩
abbrev bA_methodOf : ByteArray := prog_1_method_20_code
def yA_methodOf : MethodName := ⟨RxA, "methodOf", "(II)LStandIns$Method;"⟩
abbrev bA_awaitsCall : ByteArray := prog_1_method_21_code
def yA_awaitsCall : MethodName := ⟨RxA, "awaitsCall", "()Z"⟩
abbrev bA_lacksAnswers : ByteArray := prog_1_method_22_code
def yA_lacksAnswers : MethodName := ⟨RxA, "lacksAnswers", "()Z"⟩
abbrev bA_misuseOfPlainStep : ByteArray := prog_1_method_23_code
def yA_misuseOfPlainStep : MethodName := ⟨RxA, "misuseOfPlainStep", "(Z)I"⟩
abbrev bA_misuseOfCall : ByteArray := prog_1_method_24_code
def yA_misuseOfCall : MethodName := ⟨RxA, "misuseOfCall", "(ILStandIns$Method;)I"⟩
abbrev bA_misuseIf : ByteArray := prog_1_method_25_code
def yA_misuseIf : MethodName := ⟨RxA, "misuseIf", "(ZZZ)I"⟩
abbrev bA_idleWith : ByteArray := prog_1_method_26_code
def yA_idleWith : MethodName := ⟨RxA, "idleWith", "(I)I"⟩
abbrev bA_latestTelling : ByteArray := prog_1_method_27_code
def yA_latestTelling : MethodName := ⟨RxA, "latestTelling", "()LStandIns$Telling;"⟩
abbrev bA_beginTelling : ByteArray := prog_1_method_28_code
def yA_beginTelling : MethodName := ⟨RxA, "beginTelling", "()V"⟩
abbrev bA_tellPrepared : ByteArray := prog_1_method_29_code
def yA_tellPrepared : MethodName := ⟨RxA, "tellPrepared", "()J"⟩
abbrev bA_tellingFor : ByteArray := prog_1_method_30_code
def yA_tellingFor : MethodName := ⟨RxA, "tellingFor", "(LStandIns$Note;)I"⟩
abbrev bA_tellingsNeverUsed : ByteArray := prog_1_method_31_code
def yA_tellingsNeverUsed : MethodName := ⟨RxA, "tellingsNeverUsed", "()I"⟩
abbrev bA_hasNoRoomForCallOf : ByteArray := prog_1_method_32_code
def yA_hasNoRoomForCallOf : MethodName := ⟨RxA, "hasNoRoomForCallOf", "(I)Z"⟩
abbrev bA_matcherOf : ByteArray := prog_1_method_33_code
def yA_matcherOf : MethodName := ⟨RxA, "matcherOf", "(III)LStandIns$Matcher;"⟩
abbrev bA_noteAndAnswer : ByteArray := prog_1_method_34_code
def yA_noteAndAnswer : MethodName := ⟨RxA, "noteAndAnswer", "(LStandIns$Method;II)J"⟩
abbrev bA_doCheck : ByteArray := prog_1_method_35_code
def yA_doCheck : MethodName := ⟨RxA, "doCheck", "()J"⟩
abbrev bA_findAbove : ByteArray := prog_1_method_36_code
def yA_findAbove : MethodName := ⟨RxA, "findAbove", "(I)V"⟩
abbrev bA_passes : ByteArray := prog_1_method_37_code
def yA_passes : MethodName := ⟨RxA, "passes", "()Z"⟩
abbrev bA_seeAndCatch : ByteArray := prog_1_method_38_code
def yA_seeAndCatch : MethodName := ⟨RxA, "seeAndCatch", "()V"⟩
abbrev bM_init : ByteArray := prog_13_method_1_code
def yM_init : MethodName := ⟨RxM, "<init>", "()V"⟩
abbrev bM_in : ByteArray := prog_13_method_2_code
def yM_in : MethodName := ⟨RxM, "in", "(III)Z"⟩
abbrev bM_shape : ByteArray := prog_13_method_3_code
def yM_shape : MethodName := ⟨RxM, "shape", "(II)I"⟩
abbrev bM_misuse : ByteArray := prog_13_method_4_code
def yM_misuse : MethodName := ⟨RxM, "misuse", "(ZIZZ)I"⟩
abbrev bM_other : ByteArray := prog_13_method_5_code
def yM_other : MethodName := ⟨RxM, "other", "(Z)I"⟩
abbrev bM_willNotDo : ByteArray := prog_13_method_6_code
def yM_willNotDo : MethodName := ⟨RxM, "willNotDo", "(III)Z"⟩
abbrev bM_define : ByteArray := prog_13_method_7_code
def yM_define : MethodName := ⟨RxM, "define", "(IIIZ)I"⟩
abbrev bM_make : ByteArray := prog_13_method_8_code
def yM_make : MethodName := ⟨RxM, "make", "(II)I"⟩
abbrev bM_copy : ByteArray := prog_13_method_9_code
def yM_copy : MethodName := ⟨RxM, "copy", "(III)V"⟩
abbrev bM_single : ByteArray := prog_13_method_10_code
def yM_single : MethodName := ⟨RxM, "single", "(III)V"⟩
abbrev bM_matcher : ByteArray := prog_13_method_11_code
def yM_matcher : MethodName := ⟨RxM, "matcher", "(II)I"⟩
abbrev bM_matches : ByteArray := prog_13_method_12_code
def yM_matches : MethodName := ⟨RxM, "matches", "(II)Z"⟩
abbrev bM_matchesCall : ByteArray := prog_13_method_13_code
def yM_matchesCall : MethodName := ⟨RxM, "matchesCall", "(IIII)Z"⟩
abbrev bM_real : ByteArray := prog_13_method_14_code
def yM_real : MethodName := ⟨RxM, "real", "(III)I"⟩
abbrev bM_call : ByteArray := prog_13_method_15_code
def yM_call : MethodName := ⟨RxM, "call", "(IIII)J"⟩
abbrev bM_keep : ByteArray := prog_13_method_16_code
def yM_keep : MethodName := ⟨RxM, "keep", "(III)V"⟩
abbrev bM_tell : ByteArray := prog_13_method_17_code
def yM_tell : MethodName := ⟨RxM, "tell", "(III)V"⟩
abbrev bM_note : ByteArray := prog_13_method_18_code
def yM_note : MethodName := ⟨RxM, "note", "(IIII)V"⟩
abbrev bM_answered : ByteArray := prog_13_method_19_code
def yM_answered : MethodName := ⟨RxM, "answered", "(I)J"⟩
abbrev bM_check_Z2 : ByteArray := prog_13_method_20_code
def yM_check_Z2 : MethodName := ⟨RxM, "check", "(II)Z"⟩
abbrev bM_when : ByteArray := prog_13_method_21_code
def yM_when : MethodName := ⟨RxM, "when", "()I"⟩
abbrev bM_answer : ByteArray := prog_13_method_22_code
def yM_answer : MethodName := ⟨RxM, "answer", "(II)I"⟩
abbrev bM_told : ByteArray := prog_13_method_23_code
def yM_told : MethodName := ⟨RxM, "told", "(I)I"⟩
abbrev bM_check_I3 : ByteArray := prog_13_method_24_code
def yM_check_I3 : MethodName := ⟨RxM, "check", "(III)I"⟩
abbrev bM_noMore : ByteArray := prog_13_method_25_code
def yM_noMore : MethodName := ⟨RxM, "noMore", "(I)I"⟩
abbrev bM_restart : ByteArray := prog_13_method_26_code
def yM_restart : MethodName := ⟨RxM, "restart", "()I"⟩
abbrev bM_noted : ByteArray := prog_13_method_27_code
def yM_noted : MethodName := ⟨RxM, "noted", "(II)I"⟩
abbrev bM_telling : ByteArray := prog_13_method_28_code
def yM_telling : MethodName := ⟨RxM, "telling", "(II)I"⟩
abbrev bM_found : ByteArray := prog_13_method_29_code
def yM_found : MethodName := ⟨RxM, "found", "(I)I"⟩
abbrev bM_caught : ByteArray := prog_13_method_30_code
def yM_caught : MethodName := ⟨RxM, "caught", "(I)I"⟩
abbrev bM_count : ByteArray := prog_13_method_31_code
def yM_count : MethodName := ⟨RxM, "count", "(I)I"⟩
abbrev bQ_init : ByteArray := prog_2_method_1_code
def yQ_init : MethodName := ⟨RxQ, "<init>", "()V"⟩
abbrev bQ_add : ByteArray := prog_2_method_2_code
def yQ_add : MethodName := ⟨RxQ, "add", "(II)V"⟩
abbrev bQ_takeAllOf : ByteArray := prog_2_method_3_code
def yQ_takeAllOf : MethodName := ⟨RxQ, "takeAllOf", "(LStandIns$Answers;)V"⟩
abbrev bQ_allDoFor : ByteArray := prog_2_method_4_code
def yQ_allDoFor : MethodName := ⟨RxQ, "allDoFor", "(LStandIns$Method;)Z"⟩
abbrev bQ_spokenTo : ByteArray := prog_2_method_5_code
def yQ_spokenTo : MethodName := ⟨RxQ, "spokenTo", "(ILStandIns$Note;LStandIns$Method;)J"⟩
abbrev bC_init : ByteArray := prog_3_method_1_code
def yC_init : MethodName := ⟨RxC, "<init>", "()V"⟩
abbrev bC_add : ByteArray := prog_3_method_2_code
def yC_add : MethodName := ⟨RxC, "add", "(I)V"⟩
abbrev bC_beforeLatest : ByteArray := prog_3_method_3_code
def yC_beforeLatest : MethodName := ⟨RxC, "beforeLatest", "(I)I"⟩
abbrev bF_init : ByteArray := prog_4_method_1_code
def yF_init : MethodName := ⟨RxF, "<init>", "()V"⟩
abbrev bF_add : ByteArray := prog_4_method_2_code
def yF_add : MethodName := ⟨RxF, "add", "(II)V"⟩
abbrev bH_init : ByteArray := prog_5_method_1_code
def yH_init : MethodName := ⟨RxH, "<init>", "(IILStandIns$Matcher;LStandIns$Matcher;)V"⟩
abbrev bH_takenBy : ByteArray := prog_5_method_2_code
def yH_takenBy : MethodName := ⟨RxH, "takenBy", "(I)I"⟩
abbrev bH_sizeOf : ByteArray := prog_5_method_3_code
def yH_sizeOf : MethodName := ⟨RxH, "sizeOf", "(LStandIns$Matcher;)I"⟩
abbrev bH_isCatch : ByteArray := prog_5_method_4_code
def yH_isCatch : MethodName := ⟨RxH, "isCatch", "(LStandIns$Matcher;)Z"⟩
abbrev bH_accepts : ByteArray := prog_5_method_5_code
def yH_accepts : MethodName := ⟨RxH, "accepts", "(LStandIns$Matcher;I)Z"⟩
abbrev bD_init : ByteArray := prog_6_method_1_code
def yD_init : MethodName := ⟨RxD, "<init>", "()V"⟩
abbrev bD_canDo : ByteArray := prog_6_method_2_code
def yD_canDo : MethodName := ⟨RxD, "canDo", "(II)Z"⟩
abbrev bD_realResult : ByteArray := prog_6_method_3_code
def yD_realResult : MethodName := ⟨RxD, "realResult", "(LStandIns$Note;)I"⟩
abbrev bN_init : ByteArray := prog_7_method_1_code
def yN_init : MethodName := ⟨RxN, "<init>", "()V"⟩
abbrev bB_init : ByteArray := prog_8_method_1_code
def yB_init : MethodName := ⟨RxB, "<init>", "()V"⟩
abbrev bB_add : ByteArray := prog_8_method_2_code
def yB_add : MethodName := ⟨RxB, "add", "(LStandIns$Pattern;II)LStandIns$Note;"⟩
abbrev bB_takeBackLast : ByteArray := prog_8_method_3_code
def yB_takeBackLast : MethodName := ⟨RxB, "takeBackLast", "()V"⟩
abbrev bB_manyOf : ByteArray := prog_8_method_4_code
def yB_manyOf : MethodName := ⟨RxB, "manyOf", "(I)I"⟩
abbrev bB_firstUnseenOf : ByteArray := prog_8_method_5_code
def yB_firstUnseenOf : MethodName := ⟨RxB, "firstUnseenOf", "(I)I"⟩
abbrev bP_init : ByteArray := prog_9_method_1_code
def yP_init : MethodName := ⟨RxP, "<init>", "()V"⟩
abbrev bP_copy : ByteArray := prog_9_method_2_code
def yP_copy : MethodName := ⟨RxP, "copy", "(LStandIns$Pattern;)V"⟩
abbrev bP_matches : ByteArray := prog_9_method_3_code
def yP_matches : MethodName := ⟨RxP, "matches", "(LStandIns$Note;)Z"⟩
abbrev bK_init : ByteArray := prog_10_method_1_code
def yK_init : MethodName := ⟨RxK, "<init>", "()V"⟩
abbrev bK_hasRoomFor : ByteArray := prog_10_method_2_code
def yK_hasRoomFor : MethodName := ⟨RxK, "hasRoomFor", "(I)Z"⟩
abbrev bK_push : ByteArray := prog_10_method_3_code
def yK_push : MethodName := ⟨RxK, "push", "(LStandIns$Matcher;)V"⟩
abbrev bK_pop : ByteArray := prog_10_method_4_code
def yK_pop : MethodName := ⟨RxK, "pop", "()LStandIns$Matcher;"⟩
abbrev bT_init : ByteArray := prog_11_method_1_code
def yT_init : MethodName := ⟨RxT, "<init>", "()V"⟩
abbrev bT_answerTo : ByteArray := prog_11_method_2_code
def yT_answerTo : MethodName := ⟨RxT, "answerTo", "(LStandIns$Note;LStandIns$Method;)J"⟩
def tb_okw (w : Cond) : Bool := match w with
  | .fieldLinkNest .. => true
  | .methodLinkNest .. => true
  | .arrayClass _ => true
  | .arrayOver (.object _) => true
  | w => w.onTables && w.keeps
def tb_onw (w : Cond) : Bool := match w with
  | .arrayClass _ => true
  | .arrayOver _ => true
  | w => w.onTables
def Tb : List Cond := lw_tbl.filter tb_okw
theorem tb_m {w : Cond} (h : w ∈ lw_tbl) (ok : tb_okw w = true) : w ∈ Tb := List.mem_filter.mpr ⟨h, ok⟩
theorem tb_0 {w : Cond} (h : w ∈ k2_sels lw_privs) (ok : tb_okw w = true := by rfl) : w ∈ Tb := tb_m (List.mem_append_left _ h) ok
theorem tb_1 {w : Cond} (h : w ∈ tables_1_1) (ok : tb_okw w = true := by rfl) : w ∈ Tb := tb_m (List.mem_append_right _ (List.mem_append_left _ h)) ok
theorem tb_2 {w : Cond} (h : w ∈ tables_1_2) (ok : tb_okw w = true := by rfl) : w ∈ Tb := tb_m (List.mem_append_right _ (List.mem_append_right _ (List.mem_append_left _ h))) ok
theorem tb_3 {w : Cond} (h : w ∈ tables_1_3) (ok : tb_okw w = true := by rfl) : w ∈ Tb := tb_m (List.mem_append_right _ (List.mem_append_right _ (List.mem_append_right _ (List.mem_append_left _ h)))) ok
theorem tb_4 {w : Cond} (h : w ∈ tables_1_4) (ok : tb_okw w = true := by rfl) : w ∈ Tb := tb_m (List.mem_append_right _ (List.mem_append_right _ (List.mem_append_right _ (List.mem_append_right _ h)))) ok
end
section
set_option maxRecDepth 100000 in
set_option maxHeartbeats 4000000 in
theorem tb_ok : ∀ w ∈ Tb, tb_okw w = true := fun w h => (List.mem_filter.mp h).2
set_option maxRecDepth 100000 in
set_option maxHeartbeats 4000000 in
theorem tb_on0 : ∀ w ∈ lw_tbl, tb_onw w = true := by decide +kernel
set_option maxRecDepth 100000 in
set_option maxHeartbeats 4000000 in
theorem tb_on : ∀ w ∈ Tb, tb_onw w = true := fun w h => tb_on0 w (List.mem_filter.mp h).1
set_option maxRecDepth 100000 in
set_option maxHeartbeats 4000000 in
theorem i_A0 : ∀ w ∈ u_ws RxA TxA 18, w ∈ lw_tbl ∧ tb_okw w = true := by decide +kernel
set_option maxRecDepth 100000 in
set_option maxHeartbeats 4000000 in
theorem i_A : ∀ w ∈ u_ws RxA TxA 18, w ∈ Tb := fun w h => tb_m (i_A0 w h).1 (i_A0 w h).2
set_option maxRecDepth 100000 in
set_option maxHeartbeats 4000000 in
theorem i_K0 : ∀ w ∈ u_ws RxK TxK 2, w ∈ lw_tbl ∧ tb_okw w = true := by decide +kernel
set_option maxRecDepth 100000 in
set_option maxHeartbeats 4000000 in
theorem i_K : ∀ w ∈ u_ws RxK TxK 2, w ∈ Tb := fun w h => tb_m (i_K0 w h).1 (i_K0 w h).2
set_option maxRecDepth 100000 in
set_option maxHeartbeats 4000000 in
theorem i_B0 : ∀ w ∈ u_ws RxB TxB 3, w ∈ lw_tbl ∧ tb_okw w = true := by decide +kernel
set_option maxRecDepth 100000 in
set_option maxHeartbeats 4000000 in
theorem i_B : ∀ w ∈ u_ws RxB TxB 3, w ∈ Tb := fun w h => tb_m (i_B0 w h).1 (i_B0 w h).2
set_option maxRecDepth 100000 in
set_option maxHeartbeats 4000000 in
theorem i_F0 : ∀ w ∈ u_ws RxF TxF 5, w ∈ lw_tbl ∧ tb_okw w = true := by decide +kernel
set_option maxRecDepth 100000 in
set_option maxHeartbeats 4000000 in
theorem i_F : ∀ w ∈ u_ws RxF TxF 5, w ∈ Tb := fun w h => tb_m (i_F0 w h).1 (i_F0 w h).2
set_option maxRecDepth 100000 in
set_option maxHeartbeats 4000000 in
theorem i_C0 : ∀ w ∈ u_ws RxC TxC 4, w ∈ lw_tbl ∧ tb_okw w = true := by decide +kernel
set_option maxRecDepth 100000 in
set_option maxHeartbeats 4000000 in
theorem i_C : ∀ w ∈ u_ws RxC TxC 4, w ∈ Tb := fun w h => tb_m (i_C0 w h).1 (i_C0 w h).2
set_option maxRecDepth 100000 in
set_option maxHeartbeats 4000000 in
theorem i_D0 : ∀ w ∈ u_ws RxD TxD 2, w ∈ lw_tbl ∧ tb_okw w = true := by decide +kernel
set_option maxRecDepth 100000 in
set_option maxHeartbeats 4000000 in
theorem i_D : ∀ w ∈ u_ws RxD TxD 2, w ∈ Tb := fun w h => tb_m (i_D0 w h).1 (i_D0 w h).2
set_option maxRecDepth 100000 in
set_option maxHeartbeats 4000000 in
theorem i_N0 : ∀ w ∈ u_ws RxN TxN 7, w ∈ lw_tbl ∧ tb_okw w = true := by decide +kernel
set_option maxRecDepth 100000 in
set_option maxHeartbeats 4000000 in
theorem i_N : ∀ w ∈ u_ws RxN TxN 7, w ∈ Tb := fun w h => tb_m (i_N0 w h).1 (i_N0 w h).2
set_option maxRecDepth 100000 in
set_option maxHeartbeats 4000000 in
theorem i_T0 : ∀ w ∈ u_ws RxT TxT 5, w ∈ lw_tbl ∧ tb_okw w = true := by decide +kernel
set_option maxRecDepth 100000 in
set_option maxHeartbeats 4000000 in
theorem i_T : ∀ w ∈ u_ws RxT TxT 5, w ∈ Tb := fun w h => tb_m (i_T0 w h).1 (i_T0 w h).2
set_option maxRecDepth 100000 in
set_option maxHeartbeats 4000000 in
theorem i_P0 : ∀ w ∈ u_ws RxP TxP 4, w ∈ lw_tbl ∧ tb_okw w = true := by decide +kernel
set_option maxRecDepth 100000 in
set_option maxHeartbeats 4000000 in
theorem i_P : ∀ w ∈ u_ws RxP TxP 4, w ∈ Tb := fun w h => tb_m (i_P0 w h).1 (i_P0 w h).2
set_option maxRecDepth 100000 in
set_option maxHeartbeats 4000000 in
theorem i_Q0 : ∀ w ∈ u_ws RxQ TxQ 3, w ∈ lw_tbl ∧ tb_okw w = true := by decide +kernel
set_option maxRecDepth 100000 in
set_option maxHeartbeats 4000000 in
theorem i_Q : ∀ w ∈ u_ws RxQ TxQ 3, w ∈ Tb := fun w h => tb_m (i_Q0 w h).1 (i_Q0 w h).2
set_option maxRecDepth 100000 in
set_option maxHeartbeats 4000000 in
theorem i_H0 : ∀ w ∈ u_ws RxH TxH 5, w ∈ lw_tbl ∧ tb_okw w = true := by decide +kernel
set_option maxRecDepth 100000 in
set_option maxHeartbeats 4000000 in
theorem i_H : ∀ w ∈ u_ws RxH TxH 5, w ∈ Tb := fun w h => tb_m (i_H0 w h).1 (i_H0 w h).2
set_option maxRecDepth 100000 in
set_option maxHeartbeats 4000000 in
theorem i_M0 : ∀ w ∈ u_ws RxM TxM 39, w ∈ lw_tbl ∧ tb_okw w = true := by decide +kernel
set_option maxRecDepth 100000 in
set_option maxHeartbeats 4000000 in
theorem i_M : ∀ w ∈ u_ws RxM TxM 39, w ∈ Tb := fun w h => tb_m (i_M0 w h).1 (i_M0 w h).2
def tb_ty (T : u_T) (k : Nat) : FieldType := (parseFieldDescriptor (T k).2.2.1).getD .int
set_option maxRecDepth 100000 in
set_option maxHeartbeats 4000000 in
theorem tb_lay {ci N : Nat} {Cn : String} {T : u_T} (hc : vwCl[ci]? = some (Cn, T, N)) : ∀ w ∈ u_ws Cn T N, w ∈ Tb := by
  match ci, hc with
  | 0, hc => cases hc; exact i_A
  | 1, hc => cases hc; exact i_K
  | 2, hc => cases hc; exact i_B
  | 3, hc => cases hc; exact i_F
  | 4, hc => cases hc; exact i_C
  | 5, hc => cases hc; exact i_D
  | 6, hc => cases hc; exact i_N
  | 7, hc => cases hc; exact i_T
  | 8, hc => cases hc; exact i_P
  | 9, hc => cases hc; exact i_Q
  | 10, hc => cases hc; exact i_H
  | 11, hc => cases hc; exact i_M
  | k + 12, hc => simp [vwCl] at hc
set_option maxRecDepth 100000 in
set_option maxHeartbeats 4000000 in
theorem tb_tyok {ci N : Nat} {Cn : String} {T : u_T} (hc : vwCl[ci]? = some (Cn, T, N)) : ∀ k, k < N → parseFieldDescriptor (T k).2.2.1 = some (tb_ty T k) := by
  match ci, hc with
  | 0, hc => cases hc; decide +kernel
  | 1, hc => cases hc; decide +kernel
  | 2, hc => cases hc; decide +kernel
  | 3, hc => cases hc; decide +kernel
  | 4, hc => cases hc; decide +kernel
  | 5, hc => cases hc; decide +kernel
  | 6, hc => cases hc; decide +kernel
  | 7, hc => cases hc; decide +kernel
  | 8, hc => cases hc; decide +kernel
  | 9, hc => cases hc; decide +kernel
  | 10, hc => cases hc; decide +kernel
  | 11, hc => cases hc; decide +kernel
  | k + 12, hc => simp [vwCl] at hc
set_option maxRecDepth 100000 in
set_option maxHeartbeats 4000000 in
theorem tb_nm {ci N : Nat} {Cn : String} {T : u_T} (hc : vwCl[ci]? = some (Cn, T, N)) : ∀ a, a < N → ∀ b, b < N → a ≠ b → (T a).2.1 ≠ (T b).2.1 := by
  match ci, hc with
  | 0, hc => cases hc; decide +kernel
  | 1, hc => cases hc; decide +kernel
  | 2, hc => cases hc; decide +kernel
  | 3, hc => cases hc; decide +kernel
  | 4, hc => cases hc; decide +kernel
  | 5, hc => cases hc; decide +kernel
  | 6, hc => cases hc; decide +kernel
  | 7, hc => cases hc; decide +kernel
  | 8, hc => cases hc; decide +kernel
  | 9, hc => cases hc; decide +kernel
  | 10, hc => cases hc; decide +kernel
  | 11, hc => cases hc; decide +kernel
  | k + 12, hc => simp [vwCl] at hc
set_option maxRecDepth 100000 in
set_option maxHeartbeats 4000000 in
theorem pd_I : parseFieldDescriptor "I" = some .int := by decide +kernel
set_option maxRecDepth 100000 in
set_option maxHeartbeats 4000000 in
theorem pd_Z : parseFieldDescriptor "Z" = some .boolean := by decide +kernel
set_option maxRecDepth 100000 in
set_option maxHeartbeats 4000000 in
theorem pd_H : parseFieldDescriptor "LStandIns$Matcher;" = some (.object "StandIns$Matcher") := by decide +kernel
set_option maxRecDepth 100000 in
set_option maxHeartbeats 4000000 in
theorem wO_inst : Cond.instanceMethod Lib.objectInit ∈ Tb := tb_1 (List.mem_of_getElem? (i := 20) rfl)
set_option maxRecDepth 100000 in
set_option maxHeartbeats 4000000 in
theorem wO_code : Cond.code Lib.objectInit ⟨#[0xb1]⟩ 1 none ∈ Tb := tb_1 (List.mem_of_getElem? (i := 21) rfl)
set_option maxRecDepth 100000 in
set_option maxHeartbeats 4000000 in
theorem wO_math : Cond.initialized "java/lang/Math" ∈ Tb := tb_1 (List.mem_of_getElem? (i := 12) rfl)
set_option maxRecDepth 100000 in
set_option maxHeartbeats 4000000 in
theorem wO_max1 : Cond.static Lib.Math.max.name ∈ Tb := tb_2 (List.mem_of_getElem? (i := 87) rfl)
set_option maxRecDepth 100000 in
set_option maxHeartbeats 4000000 in
theorem wO_max2 : Cond.code Lib.Math.max.name Lib.Math.max.code 2 (some .int) ∈ Tb := tb_2 (List.mem_of_getElem? (i := 88) rfl)
set_option maxRecDepth 100000 in
set_option maxHeartbeats 4000000 in
theorem wO_min1 : Cond.static Lib.Math.min.name ∈ Tb := tb_3 (List.mem_of_getElem? (i := 2) rfl)
set_option maxRecDepth 100000 in
set_option maxHeartbeats 4000000 in
theorem wO_min2 : Cond.code Lib.Math.min.name Lib.Math.min.code 2 (some .int) ∈ Tb := tb_3 (List.mem_of_getElem? (i := 3) rfl)
set_option maxRecDepth 100000 in
set_option maxHeartbeats 4000000 in
theorem wH_inst : Cond.instantiable RxH 5 ∈ Tb := tb_2 (List.mem_of_getElem? (i := 121) rfl)
set_option maxRecDepth 100000 in
set_option maxHeartbeats 4000000 in
theorem wH_init : Cond.initialized RxH ∈ Tb := tb_1 (List.mem_of_getElem? (i := 13) rfl)
end
section
/-! The world of both systems: cells at places, a state of numbers and references; rows that walk it. -/
abbrev xE : Type := (Nat → ClassId) × (Nat → Nat → Nat) × (Nat → Nat → Nat) × (Nat → ClassId)
abbrev xS : Type := (Nat → Nat → Nat → Int32) × (Nat → Nat → Nat → Option Nat) × List Nat × Nat
abbrev yS : Type := Nat → Nat → Nat → Int32
def u3 {α : Type} (I : Nat → Nat → Nat → α) (r k j : Nat) (v : α) : Nat → Nat → Nat → α := fun r' k' j' => if r' = r ∧ k' = k ∧ j' = j then v else I r' k' j'
def u1 {α : Type} (f : Nat → α) (j : Nat) (v : α) : Nat → α := fun j' => if j' = j then v else f j'
theorem u3_self {α : Type} {I : Nat → Nat → Nat → α} {r k j : Nat} {v : α} : u3 I r k j v r k = u1 (I r k) j v := by
  funext j'
  unfold u3 u1
  by_cases h : j' = j
  · rw [if_pos ⟨rfl, rfl, h⟩, if_pos h]
  · rw [if_neg (fun q => h q.2.2), if_neg h]
def x_si (σ : xS) (r k j : Nat) (v : Int32) : xS := (u3 σ.1 r k j v, σ.2)
def x_sp (σ : xS) (r k j : Nat) (v : Option Nat) : xS := (σ.1, u3 σ.2.1 r k j v, σ.2.2)
def y_si (τ : yS) (r k j : Nat) (v : Int32) : yS := u3 τ r k j v
def x_nw (σ : xS) : xS := (fun r k j => if r = 21 ∧ k = σ.2.2.2 then 0 else σ.1 r k j, fun r k j => if r = 21 ∧ k = σ.2.2.2 then none else σ.2.1 r k j, σ.2.2.1 ++ [σ.2.2.2], σ.2.2.2 + 1)
def xl {α β : Type} (a : α) (f : α → β) : β := f a
def xp {α β : Type} (a : Option α) (f : α → Option β) : Option β := match a with
  | none => none
  | some x => f x
def xb {α β γ : Type} (a : Option (α × β)) (f : α → β → Option γ) : Option γ := match a with
  | none => none
  | some x => f x.1 x.2
def xd (L : List Nat) (o : Option Nat) : Option Nat := match o with
  | none => none
  | some a => if a ∈ L then some a else none
def xo (L : List Nat) (o : Option Nat) : Bool := match o with
  | none => true
  | some a => decide (a ∈ L)
theorem x_l {α β : Type} {a : α} {f : α → β} {y : β} (h : xl a f = y) : ∃ z, z = a ∧ f z = y := ⟨a, rfl, h⟩
theorem x_p {α β : Type} {a : Option α} {f : α → Option β} {y : β} (h : xp a f = some y) : ∃ z, a = some z ∧ f z = some y := by
  cases a with
  | none => cases h
  | some z => exact ⟨z, rfl, h⟩
theorem x_b {α β γ : Type} {a : Option (α × β)} {f : α → β → Option γ} {y : γ} (h : xb a f = some y) : ∃ r s, a = some (r, s) ∧ f r s = some y := by
  cases a with
  | none => cases h
  | some z => exact ⟨z.1, z.2, rfl, h⟩
theorem x_g {c : Prop} {d : Decidable c} {β : Type} {x : Option β} {y : β} (h : @ite (Option β) c d x none = some y) : c ∧ x = some y := by
  by_cases hc : c
  · rw [if_pos hc] at h; exact ⟨hc, h⟩
  · rw [if_neg hc] at h; cases h
theorem x_ip {c : Prop} {d : Decidable c} {β : Type} {a b y : β} (hc : c) (h : @ite β c d a b = y) : a = y := by
  rw [if_pos hc] at h; exact h
theorem x_in {c : Prop} {d : Decidable c} {β : Type} {a b y : β} (hc : ¬ c) (h : @ite β c d a b = y) : b = y := by
  rw [if_neg hc] at h; exact h
theorem x_lt {i : Int32} {n : Nat} (h : ¬ (i < 0 ∨ n ≤ i.toNatClampNeg)) : i.toNatClampNeg < n := Nat.not_le.mp fun q => h (Or.inr q)
theorem x_d {L : List Nat} {o : Option Nat} {a : Nat} (h : xd L o = some a) : o = some a ∧ a ∈ L := by
  cases o with
  | none => cases h
  | some b =>
    unfold xd at h
    dsimp only at h
    obtain ⟨h1, h2⟩ := x_g h
    cases h2
    exact ⟨rfl, h1⟩
theorem x_cat (o : Option Nat) : (va_rf o).category = 1 := by cases o <;> rfl
theorem x_cati (a : Int32) : (Value.int a).category = 1 := rfl
theorem x_catr (a : Nat) : (Value.ref a).category = 1 := rfl
theorem x_catl (a : Int64) : (Value.long a).category = 2 := rfl
theorem x_nz {v : Int32} (h : v = 0 ∨ v = 1) : narrow .boolean (.int v) = .int v := by
  rcases h with rfl | rfl <;> rfl
-- places
def x_dec (q : Nat) : Nat × Nat := if q < 14 then (q, 0) else if q < 26 then (14, q - 14) else if q < 66 then (15, q - 26) else if q < 82 then (16, q - 66) else if q < 99 then (17, q - 82) else if q < 116 then (18, q - 99) else if q < 133 then (19, q - 116) else if q < 150 then (20, q - 133) else (q - 120, 0)
def x_pl (r k : Nat) : Nat := if r < 14 then r else if r = 14 then 14 + k else if r = 15 then 26 + k else if r = 16 then 66 + k else if r = 17 then 82 + k else if r = 18 then 99 + k else if r = 19 then 116 + k else if r = 20 then 133 + k else r + 120
def xat (r k : Nat) : Prop := x_dec (x_pl r k) = (r, k) ∧ x_pl r k < 175
theorem x_pl_dec {q : Nat} (h : q < 175) : x_pl (x_dec q).1 (x_dec q).2 = q := by
  unfold x_dec
  by_cases h1 : q < 14
  · rw [if_pos h1]; simp [x_pl, h1]
  rw [if_neg h1]
  by_cases h2 : q < 26
  · rw [if_pos h2]; simp [x_pl]; omega
  rw [if_neg h2]
  by_cases h3 : q < 66
  · rw [if_pos h3]; simp [x_pl]; omega
  rw [if_neg h3]
  by_cases h4 : q < 82
  · rw [if_pos h4]; simp [x_pl]; omega
  rw [if_neg h4]
  by_cases h5 : q < 99
  · rw [if_pos h5]; simp [x_pl]; omega
  rw [if_neg h5]
  by_cases h6 : q < 116
  · rw [if_pos h6]; simp [x_pl]; omega
  rw [if_neg h6]
  by_cases h7 : q < 133
  · rw [if_pos h7]; simp [x_pl]; omega
  rw [if_neg h7]
  by_cases h8 : q < 150
  · rw [if_pos h8]; simp [x_pl]; omega
  rw [if_neg h8]
  show x_pl (q - 120) 0 = q
  unfold x_pl
  rw [if_neg (by omega), if_neg (by omega), if_neg (by omega), if_neg (by omega), if_neg (by omega), if_neg (by omega), if_neg (by omega), if_neg (by omega)]
  omega
theorem x_dec_ne {q r k : Nat} (h : q < 175) (hq : q ≠ x_pl r k) : ¬ ((x_dec q).1 = r ∧ (x_dec q).2 = k) := fun e => hq (by rw [← x_pl_dec h, e.1, e.2])
theorem at_0 : xat 0 0 := ⟨by decide, by decide⟩
theorem at_1 : xat 1 0 := ⟨by decide, by decide⟩
theorem at_2 : xat 2 0 := ⟨by decide, by decide⟩
theorem at_3 : xat 3 0 := ⟨by decide, by decide⟩
theorem at_4 : xat 4 0 := ⟨by decide, by decide⟩
theorem at_5 : xat 5 0 := ⟨by decide, by decide⟩
theorem at_6 : xat 6 0 := ⟨by decide, by decide⟩
theorem at_7 : xat 7 0 := ⟨by decide, by decide⟩
theorem at_8 : xat 8 0 := ⟨by decide, by decide⟩
theorem at_9 : xat 9 0 := ⟨by decide, by decide⟩
theorem at_10 : xat 10 0 := ⟨by decide, by decide⟩
theorem at_11 : xat 11 0 := ⟨by decide, by decide⟩
theorem at_12 : xat 12 0 := ⟨by decide, by decide⟩
theorem at_13 : xat 13 0 := ⟨by decide, by decide⟩
theorem at_30 : xat 30 0 := ⟨by decide, by decide⟩
theorem at_31 : xat 31 0 := ⟨by decide, by decide⟩
theorem at_32 : xat 32 0 := ⟨by decide, by decide⟩
theorem at_33 : xat 33 0 := ⟨by decide, by decide⟩
theorem at_34 : xat 34 0 := ⟨by decide, by decide⟩
theorem at_35 : xat 35 0 := ⟨by decide, by decide⟩
theorem at_36 : xat 36 0 := ⟨by decide, by decide⟩
theorem at_37 : xat 37 0 := ⟨by decide, by decide⟩
theorem at_38 : xat 38 0 := ⟨by decide, by decide⟩
theorem at_39 : xat 39 0 := ⟨by decide, by decide⟩
theorem at_40 : xat 40 0 := ⟨by decide, by decide⟩
theorem at_41 : xat 41 0 := ⟨by decide, by decide⟩
theorem at_42 : xat 42 0 := ⟨by decide, by decide⟩
theorem at_43 : xat 43 0 := ⟨by decide, by decide⟩
theorem at_44 : xat 44 0 := ⟨by decide, by decide⟩
theorem at_45 : xat 45 0 := ⟨by decide, by decide⟩
theorem at_46 : xat 46 0 := ⟨by decide, by decide⟩
theorem at_47 : xat 47 0 := ⟨by decide, by decide⟩
theorem at_48 : xat 48 0 := ⟨by decide, by decide⟩
theorem at_49 : xat 49 0 := ⟨by decide, by decide⟩
theorem at_50 : xat 50 0 := ⟨by decide, by decide⟩
theorem at_51 : xat 51 0 := ⟨by decide, by decide⟩
theorem at_52 : xat 52 0 := ⟨by decide, by decide⟩
theorem at_53 : xat 53 0 := ⟨by decide, by decide⟩
theorem at_54 : xat 54 0 := ⟨by decide, by decide⟩
theorem at_14 {k : Nat} (h : k < 12) : xat 14 k := by
  show x_dec (14 + k) = (14, k) ∧ 14 + k < 175
  unfold x_dec
  rw [if_neg (by omega), if_pos (by omega)]
  exact ⟨by rw [show 14 + k - 14 = k by omega], by omega⟩
theorem at_15 {k : Nat} (h : k < 40) : xat 15 k := by
  show x_dec (26 + k) = (15, k) ∧ 26 + k < 175
  unfold x_dec
  rw [if_neg (by omega), if_neg (by omega), if_pos (by omega)]
  exact ⟨by rw [show 26 + k - 26 = k by omega], by omega⟩
theorem at_16 {k : Nat} (h : k < 16) : xat 16 k := by
  show x_dec (66 + k) = (16, k) ∧ 66 + k < 175
  unfold x_dec
  rw [if_neg (by omega), if_neg (by omega), if_neg (by omega), if_pos (by omega)]
  exact ⟨by rw [show 66 + k - 66 = k by omega], by omega⟩
theorem at_17 {k : Nat} (h : k < 17) : xat 17 k := by
  show x_dec (82 + k) = (17, k) ∧ 82 + k < 175
  unfold x_dec
  rw [if_neg (by omega), if_neg (by omega), if_neg (by omega), if_neg (by omega), if_pos (by omega)]
  exact ⟨by rw [show 82 + k - 82 = k by omega], by omega⟩
theorem at_18 {k : Nat} (h : k < 17) : xat 18 k := by
  show x_dec (99 + k) = (18, k) ∧ 99 + k < 175
  unfold x_dec
  rw [if_neg (by omega), if_neg (by omega), if_neg (by omega), if_neg (by omega), if_neg (by omega), if_pos (by omega)]
  exact ⟨by rw [show 99 + k - 99 = k by omega], by omega⟩
theorem at_19 {k : Nat} (h : k < 17) : xat 19 k := by
  show x_dec (116 + k) = (19, k) ∧ 116 + k < 175
  unfold x_dec
  rw [if_neg (by omega), if_neg (by omega), if_neg (by omega), if_neg (by omega), if_neg (by omega), if_neg (by omega), if_pos (by omega)]
  exact ⟨by rw [show 116 + k - 116 = k by omega], by omega⟩
theorem at_20 {k : Nat} (h : k < 17) : xat 20 k := by
  show x_dec (133 + k) = (20, k) ∧ 133 + k < 175
  unfold x_dec
  rw [if_neg (by omega), if_neg (by omega), if_neg (by omega), if_neg (by omega), if_neg (by omega), if_neg (by omega), if_neg (by omega), if_pos (by omega)]
  exact ⟨by rw [show 133 + k - 133 = k by omega], by omega⟩
theorem x_dec21 {q : Nat} (h : q < 175) : (x_dec q).1 ≠ 21 := by
  unfold x_dec
  repeat' split
  all_goals simp
  all_goals omega
def x_fsH (f : Nat → Int32) (g : Nat → Option Nat) : List Value := [.int (f 0), .int (f 1), va_rf (g 2), va_rf (g 3), .int (f 4)]
def x_cellX (E : xE) (r k : Nat) (f : Nat → Int32) (g : Nat → Option Nat) : va_E := (if r = 0 then .inr (0, [.ref (E.2.2.1 1 0), .ref (E.2.2.1 2 0), .ref (E.2.2.1 3 0), .int (f 3), .ref (E.2.2.1 4 0), .ref (E.2.2.1 18 16), .ref (E.2.2.1 6 0), .ref (E.2.2.1 8 0), .int (f 8), .ref (E.2.2.1 9 0), .ref (E.2.2.1 12 0), .ref (E.2.2.1 17 16), .int (f 12), .int (f 13), .int (f 14), .int (f 15), .int (f 16), .int (f 17)]) else if r = 1 then .inl (E.2.2.2 2, 12, .inr (.inr (.inr (.inr (fun i => some (E.2.2.1 14 i)))))) else if r = 2 then .inl (E.2.2.2 0, 6, .inl f) else if r = 3 then .inl (E.2.2.2 0, 6, .inl f) else if r = 4 then .inr (1, [.ref (E.2.2.1 5 0), .int (f 1)]) else if r = 5 then .inl (E.2.2.2 5, 6, .inr (.inr (.inr (.inr g)))) else if r = 6 then .inr (2, [.ref (E.2.2.1 7 0), .int (f 1), .int (f 2)]) else if r = 7 then .inl (E.2.2.2 3, 40, .inr (.inr (.inr (.inr (fun i => some (E.2.2.1 15 i)))))) else if r = 8 then .inl (E.2.2.2 4, 16, .inr (.inr (.inr (.inr (fun i => some (E.2.2.1 16 i)))))) else if r = 9 then .inr (3, [.ref (E.2.2.1 10 0), .ref (E.2.2.1 11 0), .int (f 2), .int (f 3), .int (f 4)]) else if r = 10 then .inl (E.2.2.2 0, 40, .inl f) else if r = 11 then .inl (E.2.2.2 0, 40, .inl f) else if r = 12 then .inr (4, [.ref (E.2.2.1 13 0), .int (f 1), .int (f 2), .int (f 3)]) else if r = 13 then .inl (E.2.2.2 0, 12, .inl f) else if r = 14 then .inr (5, [.int (f 0), .int (f 1)]) else if r = 15 then .inr (6, [.int (f 0), .int (f 1), .int (f 2), .int (f 3), .int (f 4), .int (f 5), .int (f 6)]) else if r = 16 then .inr (7, [.ref (E.2.2.1 17 k), .ref (E.2.2.1 18 k), .int (f 2), .int (f 3), .int (f 4)]) else if r = 17 then .inr (8, [.int (f 0), .int (f 1), va_rf (g 2), va_rf (g 3)]) else if r = 18 then .inr (9, [.ref (E.2.2.1 19 k), .ref (E.2.2.1 20 k), .int (f 2)]) else if r = 19 then .inl (E.2.2.2 0, 4, .inl f) else if r = 20 then .inl (E.2.2.2 0, 4, .inl f) else .inr (ixH, x_fsH f g))
def x_cellY (E : xE) (r : Nat) (f : Nat → Int32) : va_E := (if r = 30 then .inr (11, [.ref (E.2.2.1 31 0), .ref (E.2.2.1 32 0), .ref (E.2.2.1 33 0), .ref (E.2.2.1 34 0), .int (f 4), .ref (E.2.2.1 35 0), .ref (E.2.2.1 36 0), .ref (E.2.2.1 37 0), .int (f 8), .int (f 9), .int (f 10), .int (f 11), .int (f 12), .ref (E.2.2.1 38 0), .ref (E.2.2.1 39 0), .ref (E.2.2.1 40 0), .ref (E.2.2.1 41 0), .ref (E.2.2.1 42 0), .ref (E.2.2.1 43 0), .ref (E.2.2.1 44 0), .int (f 20), .int (f 21), .ref (E.2.2.1 45 0), .ref (E.2.2.1 46 0), .ref (E.2.2.1 47 0), .ref (E.2.2.1 48 0), .ref (E.2.2.1 49 0), .ref (E.2.2.1 50 0), .ref (E.2.2.1 51 0), .int (f 29), .int (f 30), .int (f 31), .ref (E.2.2.1 52 0), .ref (E.2.2.1 53 0), .ref (E.2.2.1 54 0), .int (f 35), .int (f 36), .int (f 37), .int (f 38)]) else if r = 31 then .inl (E.2.2.2 0, 12, .inl f) else if r = 32 then .inl (E.2.2.2 1, 12, .inl f) else if r = 33 then .inl (E.2.2.2 0, 6, .inl f) else if r = 34 then .inl (E.2.2.2 0, 6, .inl f) else if r = 35 then .inl (E.2.2.2 0, 120, .inl f) else if r = 36 then .inl (E.2.2.2 0, 960, .inl f) else if r = 37 then .inl (E.2.2.2 0, 960, .inl f) else if r = 38 then .inl (E.2.2.2 0, 40, .inl f) else if r = 39 then .inl (E.2.2.2 0, 40, .inl f) else if r = 40 then .inl (E.2.2.2 0, 40, .inl f) else if r = 41 then .inl (E.2.2.2 0, 40, .inl f) else if r = 42 then .inl (E.2.2.2 0, 40, .inl f) else if r = 43 then .inl (E.2.2.2 0, 40, .inl f) else if r = 44 then .inl (E.2.2.2 1, 40, .inl f) else if r = 45 then .inl (E.2.2.2 0, 16, .inl f) else if r = 46 then .inl (E.2.2.2 0, 16, .inl f) else if r = 47 then .inl (E.2.2.2 0, 17, .inl f) else if r = 48 then .inl (E.2.2.2 0, 16, .inl f) else if r = 49 then .inl (E.2.2.2 0, 68, .inl f) else if r = 50 then .inl (E.2.2.2 0, 68, .inl f) else if r = 51 then .inl (E.2.2.2 1, 16, .inl f) else if r = 52 then .inl (E.2.2.2 0, 40, .inl f) else if r = 53 then .inl (E.2.2.2 0, 40, .inl f) else .inl (E.2.2.2 0, 12, .inl f))
def x_cell (E : xE) (r k : Nat) (f : Nat → Int32) (g : Nat → Option Nat) : va_E := if r < 30 then x_cellX E r k f g else x_cellY E r f
def xTys (E : xE) : List (ClassId × FieldType) := [(E.2.2.2 0, .int), (E.2.2.2 1, .boolean), (E.2.2.2 2, .object RxD), (E.2.2.2 3, .object RxN), (E.2.2.2 4, .object RxT), (E.2.2.2 5, .object RxH)]
theorem x_bornH : ∀ j, j < 5 → defaultValue (tb_ty TxH j) = vp_V (x_fsH (fun _ => 0) (fun _ => none)) j := by
  intro j hj
  match j, hj with
  | 0, _ => rw [show tb_ty TxH 0 = .int from by decide +kernel]; rfl
  | 1, _ => rw [show tb_ty TxH 1 = .int from by decide +kernel]; rfl
  | 2, _ => rw [show tb_ty TxH 2 = .object "StandIns$Matcher" from by decide +kernel]; rfl
  | 3, _ => rw [show tb_ty TxH 3 = .object "StandIns$Matcher" from by decide +kernel]; rfl
  | 4, _ => rw [show tb_ty TxH 4 = .int from by decide +kernel]; rfl
  | k + 5, h => omega
def x_rd (σ : xS) (τ : yS) (r k : Nat) : Nat → Int32 := if r < 30 then σ.1 r k else τ r k
def x_st (E : xE) (σ : xS) (τ : yS) (q : Nat) : Nat × va_E := (E.2.2.1 (x_dec q).1 (x_dec q).2, x_cell E (x_dec q).1 (x_dec q).2 (x_rd σ τ (x_dec q).1 (x_dec q).2) (σ.2.1 (x_dec q).1 (x_dec q).2))
def x_pool (E : xE) (σ : xS) : Nat → va_E := fun a => x_cell E 21 a (σ.1 21 a) (σ.2.1 21 a)
def x_ws (E : xE) (σ : xS) (τ : yS) : va_W := (List.range 175).map (x_st E σ τ) ++ va_pl σ.2.2.1 (x_pool E σ)
theorem x_at {E : xE} {σ : xS} {τ : yS} {r k : Nat} (h : xat r k) : (x_ws E σ τ)[x_pl r k]? = some (E.2.2.1 r k, x_cell E r k (x_rd σ τ r k) (σ.2.1 r k)) := by
  unfold x_ws
  rw [List.getElem?_append_left (by rw [List.length_map, List.length_range]; exact h.2), List.getElem?_map, List.getElem?_range h.2]
  show some (x_st E σ τ (x_pl r k)) = _
  unfold x_st
  rw [h.1]
theorem x_atX {E : xE} {σ : xS} {τ : yS} {r k : Nat} {c : va_E} (h : xat r k) (hr : r < 30) (hc : x_cell E r k (σ.1 r k) (σ.2.1 r k) = c) : (x_ws E σ τ)[x_pl r k]? = some (E.2.2.1 r k, c) := by
  rw [x_at h, x_rd, if_pos hr, hc]
theorem x_atY {E : xE} {σ : xS} {τ : yS} {r k : Nat} {c : va_E} (h : xat r k) (hr : 30 ≤ r) (hc : x_cell E r k (τ r k) (σ.2.1 r k) = c) : (x_ws E σ τ)[x_pl r k]? = some (E.2.2.1 r k, c) := by
  rw [x_at h, x_rd, if_neg (by omega), hc]
theorem x_upd {E : xE} {σ σ' : xS} {τ τ' : yS} {r k : Nat} {c : va_E} (h : xat r k) (hL : σ'.2.2.1 = σ.2.2.1) (hp : ∀ a, x_pool E σ' a = x_pool E σ a) (ho : ∀ q : Nat, q < 175 → q ≠ x_pl r k → x_st E σ' τ' q = x_st E σ τ q) (hc : x_cell E r k (x_rd σ' τ' r k) (σ'.2.1 r k) = c) : (x_ws E σ τ).set (x_pl r k) (E.2.2.1 r k, c) = x_ws E σ' τ' := by
  have e0 : x_st E σ' τ' (x_pl r k) = (E.2.2.1 r k, c) := by
    unfold x_st
    rw [h.1, hc]
  unfold x_ws
  rw [List.set_append_left _ _ (by rw [List.length_map, List.length_range]; exact h.2), hL, va_pl_congr hp]
  congr 1
  refine List.ext_getElem? (fun i => ?_)
  by_cases hi : i = x_pl r k
  · subst hi
    rw [List.getElem?_set_self (by rw [List.length_map, List.length_range]; exact h.2), List.getElem?_map, List.getElem?_range h.2]
    show _ = some (x_st E σ' τ' (x_pl r k))
    rw [e0]
  · rw [List.getElem?_set_ne (Ne.symm hi), List.getElem?_map, List.getElem?_map]
    by_cases hl : i < 175
    · rw [List.getElem?_range hl]
      show some (x_st E σ τ i) = some (x_st E σ' τ' i)
      rw [ho i hl hi]
    · rw [List.getElem?_eq_none (by rw [List.length_range]; omega)]
      rfl
theorem u3_row {α : Type} {I : Nat → Nat → Nat → α} {r k j r' k' : Nat} {v : α} (h : ¬ (r' = r ∧ k' = k)) : u3 I r k j v r' k' = I r' k' := by
  funext j'
  unfold u3
  rw [if_neg (fun q => h ⟨q.1, q.2.1⟩)]
theorem x_st_eq {E : xE} {σ σ' : xS} {τ τ' : yS} {q : Nat} (h1 : x_rd σ' τ' (x_dec q).1 (x_dec q).2 = x_rd σ τ (x_dec q).1 (x_dec q).2) (h2 : σ'.2.1 (x_dec q).1 (x_dec q).2 = σ.2.1 (x_dec q).1 (x_dec q).2) : x_st E σ' τ' q = x_st E σ τ q := by
  unfold x_st
  rw [h1, h2]
theorem x_updI {E : xE} {σ : xS} {τ : yS} {r k j : Nat} {v : Int32} {c : va_E} (h : xat r k) (hr : r < 21) (hc : x_cell E r k (u1 (σ.1 r k) j v) (σ.2.1 r k) = c) : (x_ws E σ τ).set (x_pl r k) (E.2.2.1 r k, c) = x_ws E (x_si σ r k j v) τ := by
  refine x_upd h rfl (fun a => ?_) (fun q hq hn => x_st_eq ?_ rfl) (by rw [x_rd, if_pos (by omega), show (x_si σ r k j v).1 r k = u1 (σ.1 r k) j v from u3_self]; exact hc)
  · unfold x_pool
    show x_cell E 21 a (u3 σ.1 r k j v 21 a) _ = _
    rw [u3_row (r' := 21) (k' := a) (fun e => by omega)]
    rfl
  · unfold x_rd
    show (if _ then u3 σ.1 r k j v _ _ else _) = _
    rw [u3_row (r' := (x_dec q).1) (k' := (x_dec q).2) (x_dec_ne hq hn)]
theorem x_updP {E : xE} {σ : xS} {τ : yS} {r k j : Nat} {v : Option Nat} {c : va_E} (h : xat r k) (hr : r < 21) (hc : x_cell E r k (σ.1 r k) (u1 (σ.2.1 r k) j v) = c) : (x_ws E σ τ).set (x_pl r k) (E.2.2.1 r k, c) = x_ws E (x_sp σ r k j v) τ := by
  refine x_upd h rfl (fun a => ?_) (fun q hq hn => x_st_eq rfl ?_) (by rw [x_rd, if_pos (by omega), show (x_sp σ r k j v).2.1 r k = u1 (σ.2.1 r k) j v from u3_self]; exact hc)
  · unfold x_pool
    show x_cell E 21 a _ (u3 σ.2.1 r k j v 21 a) = _
    rw [u3_row (r' := 21) (k' := a) (fun e => by omega)]
    rfl
  · show u3 σ.2.1 r k j v _ _ = _
    rw [u3_row (r' := (x_dec q).1) (k' := (x_dec q).2) (x_dec_ne hq hn)]
theorem x_updY {E : xE} {σ : xS} {τ : yS} {r k j : Nat} {v : Int32} {c : va_E} (h : xat r k) (hr : 30 ≤ r) (hc : x_cell E r k (u1 (τ r k) j v) (σ.2.1 r k) = c) : (x_ws E σ τ).set (x_pl r k) (E.2.2.1 r k, c) = x_ws E σ (y_si τ r k j v) := by
  refine x_upd h rfl (fun a => rfl) (fun q hq hn => x_st_eq ?_ rfl) (by rw [x_rd, if_neg (by omega), show y_si τ r k j v r k = u1 (τ r k) j v from u3_self]; exact hc)
  unfold x_rd
  show (if _ then _ else u3 τ r k j v _ _) = _
  rw [u3_row (r' := (x_dec q).1) (k' := (x_dec q).2) (x_dec_ne hq hn)]
theorem x_rdM {σ : xS} {τ : yS} {q k j : Nat} {v : Int32} (h : (x_dec q).1 ≠ 21) : x_rd (x_si σ 21 k j v) τ (x_dec q).1 (x_dec q).2 = x_rd σ τ (x_dec q).1 (x_dec q).2 := by
  unfold x_rd
  show (if _ then u3 σ.1 21 k j v _ _ else _) = _
  rw [u3_row (r' := (x_dec q).1) (k' := (x_dec q).2) (fun e => h e.1)]
end
section
/-! Contracts and rows over the world. -/
abbrev xG (E : xE) : va_G := (E.1, E.2.1)
def TbOK (U : State) : Prop := ∀ w ∈ Tb, va_Nw w U
theorem TbOK.warm {s U : State} (hW : s.WarmedH U.vm) (h : TbOK s) : TbOK U := by
  intro w hw
  have h0 := h w hw
  have hk := tb_ok w hw
  unfold tb_okw at hk
  split at hk
  · exact va_Nw.warmF hW h0
  · exact va_Nw.warmM hW h0
  · exact word_at hW (Or.inr ⟨_, rfl⟩) h0
  · exact va_AO.moved hW.alike h0
  · exact word_at hW (Or.inl hk) h0
theorem tb_use {w : Cond} (hw : w ∈ Tb) {B : Array Value} {U : State} (h : va_Nw w U) : w.before B U = true := by
  have hk := tb_on w hw
  unfold tb_onw at hk
  split at hk
  · exact h
  · exact h
  · exact va_Nw.use hk h
theorem tb_of {w : Cond} (hw : w ∈ Tb) {B : Array Value} {U : State} (h : w.before B U = true) : va_Nw w U := by
  have hk := tb_on w hw
  unfold tb_onw at hk
  split at hk
  · exact h
  · exact h
  · exact va_Nw.of hk h
theorem TbOK.calling {U : State} {g : JFrame} {mk : MethodId} {B : Array Value} (h : TbOK U) : TbOK (U.calling g mk B) := by
  intro w hw
  have h0 := h w hw
  have hk := tb_on w hw
  unfold tb_onw at hk
  split at hk
  · exact h0
  · exact h0
  · exact va_Nw.same hk (u := U) rfl h0
def xRm (d mc ms : Nat) : Room := { frames := d, cells := mc, slots := ms, locals := 100 * d }
def xPre (E : xE) (σ : xS) (τ : yS) : State → Prop := fun U => U.heap.size = σ.2.2.2 ∧ va_P (xG E) vwCl (x_ws E σ τ) U.heap ∧ (va_K (xG E) vwCl (xTys E) U ∧ TbOK U) ∧ va_D (fun _ => True) (x_ws E σ τ)
def xQ (E : xE) (A : Nat → Prop) (rv : Option Value) (σ : xS) (τ : yS) : Array Value → State → Outcome → State → Prop := fun _ st oc t => oc = .returned rv ∧ (va_P (xG E) vwCl (x_ws E σ τ) t.heap ∧ va_D A (x_ws E σ τ) ∧ t.heap.size = σ.2.2.2) ∧ va_F A st t
def xA (E : xE) (σ : xS) (τ : yS) : Nat → Prop := va_A (x_ws E σ τ) σ.2.2.2
def xM (l : Launch) (E : xE) (y : MethodName) (cc : ByteArray) (nL : Nat) (ret : Option FieldType) (d mc ms : Nat) (av : List Value) (σ : xS) (τ : yS) (rv : Option Value) (σ' : xS) (τ' : yS) : Prop :=
  Met l y [.code y cc nL ret] (xRm d mc ms) (va_Pc av (xPre E σ τ)) (xQ E (xA E σ τ) rv σ' τ') mc ms (xA E σ τ)
def xC (p : Program) (s : State) (m : MethodId) (args : Array Value) (meth : Method) (c : Code) (R : Room) (E : xE) (A : Nat → Prop) (cc : ByteArray) (nL : Nat) (y : MethodName) (ret : Option FieldType) (d mc ms : Nat) : Prop :=
  p.tables.exec = Jvm.exec ∧ c.code = cc ∧ c.maxLocals = nL ∧ s.vm.findClass y.cls = some m.cls ∧ meth.name = y.name ∧ (TbOK s ∧ va_K (xG E) vwCl (xTys E) s) ∧ (∀ q, s.heap.size ≤ q → A q) ∧ meth.sig.returnType = ret ∧ meth.locks = false ∧ d ≤ R.frames ∧ 100 * d ≤ R.locals ∧ mc ≤ R.cells ∧ ms ≤ R.slots
def xW (E : xE) (A : Nat → Prop) (s : State) (σ : xS) (τ : yS) (H : Heap) (locs : List Loc) : Prop := va_P (xG E) vwCl (x_ws E σ τ) H ∧ va_D A (x_ws E σ τ) ∧ va_S A s.heap H locs ∧ H.size = σ.2.2.2
section XR
variable {p : Program} {l : Launch} {e : Env} {R : Room} {s : State} {m : MethodId} {args : Array Value} {below : List Frame} {meth : Method} {c : Code} {H : Heap} {locs : List Loc} {cells slots : Nat} {Q : State → Prop}
variable {E : xE} {A : Nat → Prop} {cc : ByteArray} {nL : Nat} {y : MethodName} {ret : Option FieldType} {d mc ms : Nat} {σ : xS} {τ : yS} {pc : Nat} {ls : Array Slot} {rest : List Value}
theorem xC.own (C : xC p s m args meth c R E A cc nL y ret d mc ms) : s.vm.findClass y.cls = some m.cls := C.2.2.2.1
theorem xC.K (C : xC p s m args meth c R E A cc nL y ret d mc ms) : va_K (xG E) vwCl (xTys E) s := C.2.2.2.2.2.1.2
theorem xC.T (C : xC p s m args meth c R E A cc nL y ret d mc ms) : TbOK s := C.2.2.2.2.2.1.1
theorem xC.A0 (C : xC p s m args meth c R E A cc nL y ret d mc ms) : ∀ q, s.heap.size ≤ q → A q := C.2.2.2.2.2.2.1
theorem xC.re (C : xC p s m args meth c R E A cc nL y ret d mc ms) : meth.sig.returnType = ret := C.2.2.2.2.2.2.2.1
theorem xC.lk (C : xC p s m args meth c R E A cc nL y ret d mc ms) : meth.locks = false := C.2.2.2.2.2.2.2.2.1
theorem xC.rm (C : xC p s m args meth c R E A cc nL y ret d mc ms) : d ≤ R.frames ∧ 100 * d ≤ R.locals ∧ mc ≤ R.cells ∧ ms ≤ R.slots := C.2.2.2.2.2.2.2.2.2
theorem xC.tb (C : xC p s m args meth c R E A cc nL y ret d mc ms) {w : Cond} (h : w ∈ Tb) : w.before args s = true := tb_use h (C.T w h)
theorem x_met {av : List Value} {rv : Option Value} {σ' : xS} {τ' : yS} (hy : plainName y.cls = true) (hn : (lg_sl av).length ≤ nL)
    (body : ∀ (p : Program) (e : Env) (R : Room) (s : State) (m : MethodId) (args : Array Value) (below : List Frame) (meth : Method) (c : Code) (A : Nat → Prop) (ls : Array Slot) (H : Heap) (locs : List Loc), xC p s m args meth c R E A cc nL y ret d mc ms → xW E A s σ τ H locs → lv_has ls nL (lv_args 0 av) → W p l e R s m args below meth c H locs 0 0 (MQ below (xQ E A rv σ' τ') args s mc ms A) (F0 m 0 ls [])) : xM l E y cc nL ret d mc ms av σ τ rv σ' τ' := by
  refine Met.ofW (cc := cc) (maxL := nL) (ret := ret) hy rfl ?_
  intro p e s m args below meth c s₁ B hml hv
  obtain ⟨rfl, hsz, hP, ⟨hK, hT⟩, hD0⟩ := hv
  have hl := lv_entry av (n := nL) hn
  rw [lg_entry_eq]
  generalize (lg_sl av ++ List.replicate (nL - (lg_sl av).length) Slot.unset).toArray = ls at hl ⊢
  refine body p e (xRm d mc ms) s m av.toArray below meth c (xA E σ τ) ls s.heap [] ⟨B.exec, B.bytes, hml, findClass_of_methodNamed B.named, (name_of_methodNamed B.named B.method).1, ⟨hT, hK⟩, fun q h => Or.inr (by rw [← hsz]; exact h), B.returns, B.notSynchronized, Nat.le_refl _, Nat.le_refl _, Nat.le_refl _, Nat.le_refl _⟩ ⟨hP, hD0.self, va_S.rf, hsz⟩ hl
-- the end of a method
theorem x_qend {rv : Option Value} (hw : xW E A s σ τ H locs) : ∀ t : State, t.heap = H → s.WarmedH t.vm → xQ E A rv σ τ args s (.returned rv) t := by
  intro t ht hW
  obtain ⟨hP, hD, hS, hz⟩ := hw
  exact ⟨rfl, ⟨by rw [ht]; exact hP, hD, by rw [ht]; exact hz⟩, hS.F ht⟩
theorem x_iret {v : Int32} (C : xC p s m args meth c R E A cc nL y (some .int) d mc ms) (hw : xW E A s σ τ H locs) (hdg : decode cc pc = .ok (.ireturn, 1)) : W p l e R s m args below meth c H locs cells slots (MQ below (xQ E A (some (.int v)) σ τ) args s cells slots A) (F0 m pc ls [.int v]) :=
  W.iret C.1 C.2.1 C.re (x_qend hw) hw.2.2.1.2.2 hdg C.lk
theorem x_zret {v : Int32} (C : xC p s m args meth c R E A cc nL y (some .boolean) d mc ms) (hw : xW E A s σ τ H locs) (hz : narrow .boolean (.int v) = .int v) (hdg : decode cc pc = .ok (.ireturn, 1)) : W p l e R s m args below meth c H locs cells slots (MQ below (xQ E A (some (.int v)) σ τ) args s cells slots A) (F0 m pc ls [.int v]) :=
  W.zret C.1 C.2.1 C.re hz (x_qend hw) hw.2.2.1.2.2 hdg C.lk
theorem x_lret {v : Int64} (C : xC p s m args meth c R E A cc nL y (some .long) d mc ms) (hw : xW E A s σ τ H locs) (hdg : decode cc pc = .ok (.lreturn, 1)) : W p l e R s m args below meth c H locs cells slots (MQ below (xQ E A (some (.long v)) σ τ) args s cells slots A) (F0 m pc ls [.long v]) :=
  W.lret C.1 C.2.1 C.re (x_qend hw) hw.2.2.1.2.2 hdg C.lk
theorem x_vret (C : xC p s m args meth c R E A cc nL y none d mc ms) (hw : xW E A s σ τ H locs) (hdg : decode cc pc = .ok (.return_, 1)) : W p l e R s m args below meth c H locs cells slots (MQ below (xQ E A none σ τ) args s cells slots A) (F0 m pc ls []) :=
  W.vret C.1 C.2.1 C.re (x_qend hw) hw.2.2.1.2.2 hdg C.lk
theorem x_aret {v : Value} {cn : String} (C : xC p s m args meth c R E A cc nL y (some (.object cn)) d mc ms) (hw : xW E A s σ τ H locs) (hv : v = .null ∨ ∃ a, v = .ref a) (hdg : decode cc pc = .ok (.areturn, 1)) : W p l e R s m args below meth c H locs cells slots (MQ below (xQ E A (some v) σ τ) args s cells slots A) (F0 m pc ls [v]) :=
  W.aret C.1 C.2.1 C.re (Or.inl ⟨cn, rfl⟩) hv (x_qend hw) hw.2.2.1.2.2 hdg C.lk
-- locals and nulls
theorem x_null (hx : p.tables.exec = Jvm.exec) (hb : c.code = cc) (hdg : decode cc pc = .ok (.aconst_null, 1)) (k : W p l e R s m args below meth c H locs cells slots Q (F0 m (pc + 1) ls (va_rf none :: rest))) : W p l e R s m args below meth c H locs cells slots Q (F0 m pc ls rest) := lv_null hx hb hdg k
theorem x_aload_n (hx : p.tables.exec = Jvm.exec) (hb : c.code = cc) {k : Fin 4} {i : Nat} {o : Option Nat} (hdg : decode cc pc = .ok (.aload_n k, 1)) (hi : (k : Nat) = i) (hl : ls[i]? = some (.val (va_rf o)))
    (kk : W p l e R s m args below meth c H locs cells slots Q (F0 m (pc + 1) ls (va_rf o :: rest))) : W p l e R s m args below meth c H locs cells slots Q (F0 m pc ls rest) := by
  cases o with
  | none => exact lv_aload_nN hx hb hdg hi hl kk
  | some a => exact lv_aload_n hx hb hdg hi hl kk
theorem x_aload (hx : p.tables.exec = Jvm.exec) (hb : c.code = cc) {i : Nat} {o : Option Nat} (hdg : decode cc pc = .ok (.aload i, 2)) (hl : ls[i]? = some (.val (va_rf o)))
    (kk : W p l e R s m args below meth c H locs cells slots Q (F0 m (pc + 2) ls (va_rf o :: rest))) : W p l e R s m args below meth c H locs cells slots Q (F0 m pc ls rest) := by
  cases o with
  | none => exact lv_aloadN hx hb hdg hl kk
  | some a => exact lv_aload hx hb hdg hl kk
theorem x_astore_n (hx : p.tables.exec = Jvm.exec) (hb : c.code = cc) {k : Fin 4} {i nL : Nat} {o : Option Nat} {lv lv' : List (Nat × Value)} (hdg : decode cc pc = .ok (.astore_n k, 1)) (hi : (k : Nat) = i) (h : lv_has ls nL lv) (hn : i < nL) (hl : (i, va_rf o) :: lv.filter (fun q => !(q.1 == i) && !(q.1 + 1 == i && q.2.category == 2)) = lv')
    (kk : ∀ ls' : Array Slot, lv_has ls' nL lv' → W p l e R s m args below meth c H locs cells slots Q (F0 m (pc + 1) ls' rest)) : W p l e R s m args below meth c H locs cells slots Q (F0 m pc ls (va_rf o :: rest)) := by
  cases o with
  | none => exact lv_astore_nN hx hb hdg hi h hn hl kk
  | some a => exact lv_astore_n hx hb hdg hi h hn hl kk
theorem x_astore (hx : p.tables.exec = Jvm.exec) (hb : c.code = cc) {i nL : Nat} {o : Option Nat} {lv lv' : List (Nat × Value)} (hdg : decode cc pc = .ok (.astore i, 2)) (h : lv_has ls nL lv) (hn : i < nL) (hl : (i, va_rf o) :: lv.filter (fun q => !(q.1 == i) && !(q.1 + 1 == i && q.2.category == 2)) = lv')
    (kk : ∀ ls' : Array Slot, lv_has ls' nL lv' → W p l e R s m args below meth c H locs cells slots Q (F0 m (pc + 2) ls' rest)) : W p l e R s m args below meth c H locs cells slots Q (F0 m pc ls (va_rf o :: rest)) := by
  cases o with
  | none => exact lv_astoreN hx hb hdg h hn hl kk
  | some a => exact lv_astore hx hb hdg h hn hl kk
theorem x_ifnull (hx : p.tables.exec = Jvm.exec) (hb : c.code = cc) {o : Option Nat} {off : Int} {tgt : Nat} (hdg : decode cc pc = .ok (.ifnull off, 3)) (ht : (pc : Int) + off = (tgt : Int))
    (kt : o = none → W p l e R s m args below meth c H locs cells slots Q (F0 m tgt ls rest)) (kf : ¬ o = none → W p l e R s m args below meth c H locs cells slots Q (F0 m (pc + 3) ls rest)) : W p l e R s m args below meth c H locs cells slots Q (F0 m pc ls (va_rf o :: rest)) := by
  cases o with
  | none => exact lv_ifnullN hx hb hdg ht (kt rfl)
  | some a => exact lv_ifnull hx hb hdg (kf (fun h => by cases h))
theorem x_ifnonnull (hx : p.tables.exec = Jvm.exec) (hb : c.code = cc) {o : Option Nat} {off : Int} {tgt : Nat} (hdg : decode cc pc = .ok (.ifnonnull off, 3)) (ht : (pc : Int) + off = (tgt : Int))
    (kt : o = none → W p l e R s m args below meth c H locs cells slots Q (F0 m (pc + 3) ls rest)) (kf : ¬ o = none → W p l e R s m args below meth c H locs cells slots Q (F0 m tgt ls rest)) : W p l e R s m args below meth c H locs cells slots Q (F0 m pc ls (va_rf o :: rest)) := by
  cases o with
  | none => exact lv_ifnonnullN hx hb hdg (kt rfl)
  | some a => exact lv_ifnonnull hx hb hdg ht (kf (fun h => by cases h))
-- fields, read
theorem x_get (C : xC p s m args meth c R E A cc nL y ret d mc ms) (hw : xW E A s σ τ H locs) (r k j : Nat) {v : Value} {ci N index : Nat} {fs : List Value} {Cn : String} {T : u_T} (hp : xat r k) (hcell : x_cell E r k (σ.1 r k) (σ.2.1 r k) = .inr (ci, fs)) (hc : vwCl[ci]? = some (Cn, T, N)) (hj : j < N ∧ r < 30) (hl : Cond.fieldLink y.cls index (T j).1 (T j).2.1 (T j).2.2.1 ∈ Tb) (hv : fs[j]? = some v) (hdg : decode cc pc = .ok (.getfield index, 3))
    (kk : W p l e R s m args below meth c H locs cells slots Q (F0 m (pc + 3) ls (v :: rest))) : W p l e R s m args below meth c H locs cells slots Q (F0 m pc ls (.ref (E.2.2.1 r k) :: rest)) :=
  va_get C.1 C.2.1 (Ts := Tb) (fun _ h => C.tb h) (tb_lay hc) C.own C.K hw.1 (x_pl r k) (x_atX hp hj.2 hcell) hc j hj.1 (C.tb hl) (fun _ h => h) hv hdg kk
theorem y_get (C : xC p s m args meth c R E A cc nL y ret d mc ms) (hw : xW E A s σ τ H locs) (r k j : Nat) {v : Value} {ci N index : Nat} {fs : List Value} {Cn : String} {T : u_T} (hp : xat r k) (hcell : x_cell E r k (τ r k) (σ.2.1 r k) = .inr (ci, fs)) (hc : vwCl[ci]? = some (Cn, T, N)) (hj : j < N ∧ 30 ≤ r) (hl : Cond.fieldLink y.cls index (T j).1 (T j).2.1 (T j).2.2.1 ∈ Tb) (hv : fs[j]? = some v) (hdg : decode cc pc = .ok (.getfield index, 3))
    (kk : W p l e R s m args below meth c H locs cells slots Q (F0 m (pc + 3) ls (v :: rest))) : W p l e R s m args below meth c H locs cells slots Q (F0 m pc ls (.ref (E.2.2.1 r k) :: rest)) :=
  va_get C.1 C.2.1 (Ts := Tb) (fun _ h => C.tb h) (tb_lay hc) C.own C.K hw.1 (x_pl r k) (x_atY hp hj.2 hcell) hc j hj.1 (C.tb hl) (fun _ h => h) hv hdg kk
theorem x_getN (C : xC p s m args meth c R E A cc nL y ret d mc ms) (hw : xW E A s σ τ H locs) (r k j : Nat) {v : Value} {ci N index : Nat} {fs : List Value} {Cn : String} {T : u_T} (hp : xat r k) (hcell : x_cell E r k (σ.1 r k) (σ.2.1 r k) = .inr (ci, fs)) (hc : vwCl[ci]? = some (Cn, T, N)) (hj : j < N ∧ r < 30) (hl : Cond.fieldLinkNest y.cls index (T j).1 (T j).2.1 (T j).2.2.1 xHost ∈ Tb) (hv : fs[j]? = some v) (hdg : decode cc pc = .ok (.getfield index, 3))
    (kk : W p l e R s m args below meth c H locs cells slots Q (F0 m (pc + 3) ls (v :: rest))) : W p l e R s m args below meth c H locs cells slots Q (F0 m pc ls (.ref (E.2.2.1 r k) :: rest)) :=
  va_getN C.1 C.2.1 (Ts := Tb) (fun _ h => C.tb h) (tb_lay hc) C.own C.K hw.1 (x_pl r k) (x_atX hp hj.2 hcell) hc j hj.1 (C.tb hl) (fun _ h => h) hv hdg kk
-- fields of the pool, read
theorem x_getM (C : xC p s m args meth c R E A cc nL y ret d mc ms) (hw : xW E A s σ τ H locs) {o : Option Nat} {a : Nat} (ha : xd σ.2.2.1 o = some a) (j : Nat) {v : Value} {index : Nat} (hj : j < 5) (hl : Cond.fieldLink y.cls index (TxH j).1 (TxH j).2.1 (TxH j).2.2.1 ∈ Tb) (hv : (x_fsH (σ.1 21 a) (σ.2.1 21 a))[j]? = some v) (hdg : decode cc pc = .ok (.getfield index, 3))
    (kk : W p l e R s m args below meth c H locs cells slots Q (F0 m (pc + 3) ls (v :: rest))) : W p l e R s m args below meth c H locs cells slots Q (F0 m pc ls (va_rf o :: rest)) := by
  obtain ⟨rfl, hm⟩ := x_d ha
  obtain ⟨q0, hq⟩ := va_pl_get (X := (List.range 175).map (x_st E σ τ)) (f := x_pool E σ) hm
  exact va_get C.1 C.2.1 (Ts := Tb) (fun _ h => C.tb h) (tb_lay (ci := ixH) rfl) C.own C.K hw.1 q0 hq rfl j hj (C.tb hl) (fun _ h => h) hv hdg kk
theorem x_getMN (C : xC p s m args meth c R E A cc nL y ret d mc ms) (hw : xW E A s σ τ H locs) {o : Option Nat} {a : Nat} (ha : xd σ.2.2.1 o = some a) (j : Nat) {v : Value} {index : Nat} (hj : j < 5) (hl : Cond.fieldLinkNest y.cls index (TxH j).1 (TxH j).2.1 (TxH j).2.2.1 xHost ∈ Tb) (hv : (x_fsH (σ.1 21 a) (σ.2.1 21 a))[j]? = some v) (hdg : decode cc pc = .ok (.getfield index, 3))
    (kk : W p l e R s m args below meth c H locs cells slots Q (F0 m (pc + 3) ls (v :: rest))) : W p l e R s m args below meth c H locs cells slots Q (F0 m pc ls (va_rf o :: rest)) := by
  obtain ⟨rfl, hm⟩ := x_d ha
  obtain ⟨q0, hq⟩ := va_pl_get (X := (List.range 175).map (x_st E σ τ)) (f := x_pool E σ) hm
  exact va_getN C.1 C.2.1 (Ts := Tb) (fun _ h => C.tb h) (tb_lay (ci := ixH) rfl) C.own C.K hw.1 q0 hq rfl j hj (C.tb hl) (fun _ h => h) hv hdg kk
-- fields, written: any world, any place
theorem x_putG (C : xC p s m args meth c R E A cc nL y ret d mc ms) {ws : va_W} {a ci N index j : Nat} {fs : List Value} {Cn : String} {T : u_T} {ty : FieldType} {v : Value} (hP : va_P (xG E) vwCl ws H) (hD : va_D A ws) (hS : va_S A s.heap H locs) (q0 : Nat) (he : ws[q0]? = some (a, .inr (ci, fs))) (hc : vwCl[ci]? = some (Cn, T, N)) (hj : j < N) (hl : Cond.fieldLink y.cls index (T j).1 (T j).2.1 (T j).2.2.1 ∈ Tb) (hfin : (T j).2.2.2 = false) (hd : parseFieldDescriptor (T j).2.2.1 = some ty) (hn : narrow ty v = v) (hfit : fits ty v = true) (hlen : j < fs.length) (hdg : decode cc pc = .ok (.putfield index, 3))
    (kk : ∀ (H1 : Heap) (locs1 : List Loc), va_P (xG E) vwCl (ws.set q0 (a, .inr (ci, fs.set j v))) H1 → va_D A (ws.set q0 (a, .inr (ci, fs.set j v))) → va_S A s.heap H1 locs1 → H1.size = H.size → W p l e R s m args below meth c H1 locs1 cells slots Q (F0 m (pc + 3) ls rest)) : W p l e R s m args below meth c H locs cells slots Q (F0 m pc ls (v :: .ref a :: rest)) := by
  have hap := va_apart (own := y.cls) (fun _ h => C.tb h) (tb_lay hc) (tb_ty T) (tb_tyok hc) (tb_nm hc) C.K hc
  obtain ⟨r, h1, cell, q1, q2, q3, q4⟩ := hP q0 _ he
  have hr : r = (Cn, T, N) := Option.some.inj (h1.symm.trans hc)
  subst hr
  obtain ⟨hS', hfc, kC, hkC, hkind⟩ := C.K.1 ci _ hc
  obtain ⟨cf, kf, fi, f, hi, hsl⟩ := hS' j hj
  have hlay : (u_lay Cn T j).before args s = true := C.tb (tb_lay hc _ (u_in_lay hj))
  unfold u_lay at hlay
  rw [if_neg (by rw [hfin]; decide)] at hlay
  have hst := (u_facts hfc hkC (Or.inl hlay) hi).1
  have h6 := u_store hfc hkC hkind hlay hi hd hn hfit
  refine W.putK C.1 C.2.1 (f := f) ⟨C.own, C.tb hl, ⟨_, _, _, hi⟩, hst⟩ (by rw [q2]; exact h6) q1 q3 (by rw [hsl]; exact k2_hasslot (q4 j hj)) rfl rfl hdg fun H' e1 e2 e3 => ?_
  rw [hsl] at e1 ⊢
  exact kk H' _ (hP.set hD he ⟨_, hc, t_OB.to (V := updV (vp_V fs) j v) ⟨_, e1, q2, q3, t_set q4 hap hj v⟩ (fun i _ => vp_updV_set hlen v i)⟩ e3) (hD.set he) (hS.put e2 e3 (hD.2 q0 _ he)) e2
theorem x_putGN (C : xC p s m args meth c R E A cc nL y ret d mc ms) {ws : va_W} {a ci N index j : Nat} {fs : List Value} {Cn : String} {T : u_T} {ty : FieldType} {v : Value} (hP : va_P (xG E) vwCl ws H) (hD : va_D A ws) (hS : va_S A s.heap H locs) (q0 : Nat) (he : ws[q0]? = some (a, .inr (ci, fs))) (hc : vwCl[ci]? = some (Cn, T, N)) (hj : j < N) (hl : Cond.fieldLinkNest y.cls index (T j).1 (T j).2.1 (T j).2.2.1 xHost ∈ Tb) (hfin : (T j).2.2.2 = false) (hd : parseFieldDescriptor (T j).2.2.1 = some ty) (hn : narrow ty v = v) (hfit : fits ty v = true) (hlen : j < fs.length) (hdg : decode cc pc = .ok (.putfield index, 3))
    (kk : ∀ (H1 : Heap) (locs1 : List Loc), va_P (xG E) vwCl (ws.set q0 (a, .inr (ci, fs.set j v))) H1 → va_D A (ws.set q0 (a, .inr (ci, fs.set j v))) → va_S A s.heap H1 locs1 → H1.size = H.size → W p l e R s m args below meth c H1 locs1 cells slots Q (F0 m (pc + 3) ls rest)) : W p l e R s m args below meth c H locs cells slots Q (F0 m pc ls (v :: .ref a :: rest)) := by
  have hap := va_apart (own := y.cls) (fun _ h => C.tb h) (tb_lay hc) (tb_ty T) (tb_tyok hc) (tb_nm hc) C.K hc
  obtain ⟨r, h1, cell, q1, q2, q3, q4⟩ := hP q0 _ he
  have hr : r = (Cn, T, N) := Option.some.inj (h1.symm.trans hc)
  subst hr
  obtain ⟨hS', hfc, kC, hkC, hkind⟩ := C.K.1 ci _ hc
  obtain ⟨cf, kf, fi, f, hi, hsl⟩ := hS' j hj
  have hlay : (u_lay Cn T j).before args s = true := C.tb (tb_lay hc _ (u_in_lay hj))
  unfold u_lay at hlay
  rw [if_neg (by rw [hfin]; decide)] at hlay
  have hst := (u_facts hfc hkC (Or.inl hlay) hi).1
  have h6 := u_store hfc hkC hkind hlay hi hd hn hfit
  refine va_WputK C.1 C.2.1 (f := f) C.own (C.tb hl) hi hst (by rw [q2]; exact h6) q1 q3 (by rw [hsl]; exact k2_hasslot (q4 j hj)) rfl rfl hdg fun H' e1 e2 e3 => ?_
  rw [hsl] at e1 ⊢
  exact kk H' _ (hP.set hD he ⟨_, hc, t_OB.to (V := updV (vp_V fs) j v) ⟨_, e1, q2, q3, t_set q4 hap hj v⟩ (fun i _ => vp_updV_set hlen v i)⟩ e3) (hD.set he) (hS.put e2 e3 (hD.2 q0 _ he)) e2
theorem x_putGF (C : xC p s m args meth c R E A cc nL y ret d mc ms) (hin : y.name = "<init>") {ws : va_W} {a ci N index j : Nat} {fs : List Value} {Cn : String} {T : u_T} {ty : FieldType} {v : Value} (hP : va_P (xG E) vwCl ws H) (hD : va_D A ws) (hS : va_S A s.heap H locs) (q0 : Nat) (he : ws[q0]? = some (a, .inr (ci, fs))) (hc : vwCl[ci]? = some (Cn, T, N)) (hj : j < N) (hl : Cond.fieldLink y.cls index (T j).1 (T j).2.1 (T j).2.2.1 ∈ Tb) (hfin : (T j).2.2.2 = true) (hdecl : (T j).1 = y.cls) (hd : parseFieldDescriptor (T j).2.2.1 = some ty) (hn : narrow ty v = v) (hfit : fits ty v = true) (hlen : j < fs.length) (hdg : decode cc pc = .ok (.putfield index, 3))
    (kk : ∀ (H1 : Heap) (locs1 : List Loc), va_P (xG E) vwCl (ws.set q0 (a, .inr (ci, fs.set j v))) H1 → va_D A (ws.set q0 (a, .inr (ci, fs.set j v))) → va_S A s.heap H1 locs1 → H1.size = H.size → W p l e R s m args below meth c H1 locs1 cells slots Q (F0 m (pc + 3) ls rest)) : W p l e R s m args below meth c H locs cells slots Q (F0 m pc ls (v :: .ref a :: rest)) := by
  have hap := va_apart (own := y.cls) (fun _ h => C.tb h) (tb_lay hc) (tb_ty T) (tb_tyok hc) (tb_nm hc) C.K hc
  obtain ⟨r, h1, cell, q1, q2, q3, q4⟩ := hP q0 _ he
  have hr : r = (Cn, T, N) := Option.some.inj (h1.symm.trans hc)
  subst hr
  obtain ⟨hS', hfc, kC, hkC, hkind⟩ := C.K.1 ci _ hc
  obtain ⟨cf, kf, fi, f, hi, hsl⟩ := hS' j hj
  have hlay : (u_lay Cn T j).before args s = true := C.tb (tb_lay hc _ (u_in_lay hj))
  unfold u_lay at hlay
  rw [if_pos hfin] at hlay
  have hst := (u_facts hfc hkC (Or.inr hlay) hi).1
  have hcf : m.cls = cf := by
    obtain ⟨_, _, c', _, _, _, -, -, hf', -, -, -, hown2, -⟩ := Cond.laysFinal_spec hlay
    have e1 : c' = cf := by have := hi.symm.trans hf'; simp at this; exact this.1.symm
    rw [hdecl] at hown2
    rw [← e1]; exact Option.some.inj (C.own.symm.trans hown2)
  have h6 := u_fits hfc hkC hkind (Or.inr hlay) hi hd hn hfit
  refine W.putFinK C.1 C.2.1 C.own (C.tb hl) hi hst hcf (C.2.2.2.2.1.trans hin) (by rw [q2]; exact h6) q1 q3 (by rw [hsl]; exact k2_hasslot (q4 j hj)) rfl rfl hdg fun H' e1 e2 e3 => ?_
  rw [hsl] at e1 ⊢
  exact kk H' _ (hP.set hD he ⟨_, hc, t_OB.to (V := updV (vp_V fs) j v) ⟨_, e1, q2, q3, t_set q4 hap hj v⟩ (fun i _ => vp_updV_set hlen v i)⟩ e3) (hD.set he) (hS.put e2 e3 (hD.2 q0 _ he)) e2
theorem x_nrf {cn : String} (o : Option Nat) : narrow (.object cn) (va_rf o) = va_rf o ∧ fits (.object cn) (va_rf o) = true := by cases o <;> exact ⟨rfl, rfl⟩
theorem x_fz {v : Int32} (h : v = 0 ∨ v = 1) : fits .boolean (.int v) = true := by rcases h with rfl | rfl <;> rfl
-- written, of the class
theorem x_puti (C : xC p s m args meth c R E A cc nL y ret d mc ms) (hw : xW E A s σ τ H locs) (r k j : Nat) {v : Int32} {ci N index : Nat} {fs : List Value} {Cn : String} {T : u_T} (hp : xat r k) (hcell : x_cell E r k (σ.1 r k) (σ.2.1 r k) = .inr (ci, fs)) (hc : vwCl[ci]? = some (Cn, T, N)) (hcell' : x_cell E r k (u1 (σ.1 r k) j v) (σ.2.1 r k) = .inr (ci, fs.set j (.int v))) (hT : (T j).2.2.1 = "I" ∧ (T j).2.2.2 = false) (hj : j < N ∧ r < 21) (hlen : j < fs.length) (hl : Cond.fieldLink y.cls index (T j).1 (T j).2.1 (T j).2.2.1 ∈ Tb) (hdg : decode cc pc = .ok (.putfield index, 3))
    (kk : ∀ (H : Heap) (locs : List Loc), xW E A s (x_si σ r k j v) τ H locs → W p l e R s m args below meth c H locs cells slots Q (F0 m (pc + 3) ls rest)) : W p l e R s m args below meth c H locs cells slots Q (F0 m pc ls (.int v :: .ref (E.2.2.1 r k) :: rest)) := by
  obtain ⟨hP, hD, hS, hz9⟩ := hw
  have hj2 := hj.2
  refine x_putG C hP hD hS (x_pl r k) (x_atX hp (by omega) hcell) hc hj.1 hl hT.2 (by rw [hT.1]; exact pd_I) rfl rfl hlen hdg (fun H1 locs1 h1 h2 h3 h4 => ?_)
  rw [x_updI hp (by omega) hcell'] at h1 h2
  exact kk H1 locs1 ⟨h1, h2, h3, h4.trans hz9⟩
theorem x_putiN (C : xC p s m args meth c R E A cc nL y ret d mc ms) (hw : xW E A s σ τ H locs) (r k j : Nat) {v : Int32} {ci N index : Nat} {fs : List Value} {Cn : String} {T : u_T} (hp : xat r k) (hcell : x_cell E r k (σ.1 r k) (σ.2.1 r k) = .inr (ci, fs)) (hc : vwCl[ci]? = some (Cn, T, N)) (hcell' : x_cell E r k (u1 (σ.1 r k) j v) (σ.2.1 r k) = .inr (ci, fs.set j (.int v))) (hT : (T j).2.2.1 = "I" ∧ (T j).2.2.2 = false) (hj : j < N ∧ r < 21) (hlen : j < fs.length) (hl : Cond.fieldLinkNest y.cls index (T j).1 (T j).2.1 (T j).2.2.1 xHost ∈ Tb) (hdg : decode cc pc = .ok (.putfield index, 3))
    (kk : ∀ (H : Heap) (locs : List Loc), xW E A s (x_si σ r k j v) τ H locs → W p l e R s m args below meth c H locs cells slots Q (F0 m (pc + 3) ls rest)) : W p l e R s m args below meth c H locs cells slots Q (F0 m pc ls (.int v :: .ref (E.2.2.1 r k) :: rest)) := by
  obtain ⟨hP, hD, hS, hz9⟩ := hw
  have hj2 := hj.2
  refine x_putGN C hP hD hS (x_pl r k) (x_atX hp (by omega) hcell) hc hj.1 hl hT.2 (by rw [hT.1]; exact pd_I) rfl rfl hlen hdg (fun H1 locs1 h1 h2 h3 h4 => ?_)
  rw [x_updI hp (by omega) hcell'] at h1 h2
  exact kk H1 locs1 ⟨h1, h2, h3, h4.trans hz9⟩
theorem x_putz (C : xC p s m args meth c R E A cc nL y ret d mc ms) (hw : xW E A s σ τ H locs) (r k j : Nat) {v : Int32} {ci N index : Nat} {fs : List Value} {Cn : String} {T : u_T} (hp : xat r k) (hz : v = 0 ∨ v = 1) (hcell : x_cell E r k (σ.1 r k) (σ.2.1 r k) = .inr (ci, fs)) (hc : vwCl[ci]? = some (Cn, T, N)) (hcell' : x_cell E r k (u1 (σ.1 r k) j v) (σ.2.1 r k) = .inr (ci, fs.set j (.int v))) (hT : (T j).2.2.1 = "Z" ∧ (T j).2.2.2 = false) (hj : j < N ∧ r < 21) (hlen : j < fs.length) (hl : Cond.fieldLink y.cls index (T j).1 (T j).2.1 (T j).2.2.1 ∈ Tb) (hdg : decode cc pc = .ok (.putfield index, 3))
    (kk : ∀ (H : Heap) (locs : List Loc), xW E A s (x_si σ r k j v) τ H locs → W p l e R s m args below meth c H locs cells slots Q (F0 m (pc + 3) ls rest)) : W p l e R s m args below meth c H locs cells slots Q (F0 m pc ls (.int v :: .ref (E.2.2.1 r k) :: rest)) := by
  obtain ⟨hP, hD, hS, hz9⟩ := hw
  have hj2 := hj.2
  refine x_putG C hP hD hS (x_pl r k) (x_atX hp (by omega) hcell) hc hj.1 hl hT.2 (by rw [hT.1]; exact pd_Z) (x_nz hz) (x_fz hz) hlen hdg (fun H1 locs1 h1 h2 h3 h4 => ?_)
  rw [x_updI hp (by omega) hcell'] at h1 h2
  exact kk H1 locs1 ⟨h1, h2, h3, h4.trans hz9⟩
theorem x_putzN (C : xC p s m args meth c R E A cc nL y ret d mc ms) (hw : xW E A s σ τ H locs) (r k j : Nat) {v : Int32} {ci N index : Nat} {fs : List Value} {Cn : String} {T : u_T} (hp : xat r k) (hz : v = 0 ∨ v = 1) (hcell : x_cell E r k (σ.1 r k) (σ.2.1 r k) = .inr (ci, fs)) (hc : vwCl[ci]? = some (Cn, T, N)) (hcell' : x_cell E r k (u1 (σ.1 r k) j v) (σ.2.1 r k) = .inr (ci, fs.set j (.int v))) (hT : (T j).2.2.1 = "Z" ∧ (T j).2.2.2 = false) (hj : j < N ∧ r < 21) (hlen : j < fs.length) (hl : Cond.fieldLinkNest y.cls index (T j).1 (T j).2.1 (T j).2.2.1 xHost ∈ Tb) (hdg : decode cc pc = .ok (.putfield index, 3))
    (kk : ∀ (H : Heap) (locs : List Loc), xW E A s (x_si σ r k j v) τ H locs → W p l e R s m args below meth c H locs cells slots Q (F0 m (pc + 3) ls rest)) : W p l e R s m args below meth c H locs cells slots Q (F0 m pc ls (.int v :: .ref (E.2.2.1 r k) :: rest)) := by
  obtain ⟨hP, hD, hS, hz9⟩ := hw
  have hj2 := hj.2
  refine x_putGN C hP hD hS (x_pl r k) (x_atX hp (by omega) hcell) hc hj.1 hl hT.2 (by rw [hT.1]; exact pd_Z) (x_nz hz) (x_fz hz) hlen hdg (fun H1 locs1 h1 h2 h3 h4 => ?_)
  rw [x_updI hp (by omega) hcell'] at h1 h2
  exact kk H1 locs1 ⟨h1, h2, h3, h4.trans hz9⟩
theorem x_puto (C : xC p s m args meth c R E A cc nL y ret d mc ms) (hw : xW E A s σ τ H locs) (r k j : Nat) {v : Option Nat} {ci N index : Nat} {fs : List Value} {Cn : String} {T : u_T} (hp : xat r k) (hcell : x_cell E r k (σ.1 r k) (σ.2.1 r k) = .inr (ci, fs)) (hc : vwCl[ci]? = some (Cn, T, N)) (hcell' : x_cell E r k (σ.1 r k) (u1 (σ.2.1 r k) j v) = .inr (ci, fs.set j (va_rf v))) (hT : (T j).2.2.1 = "LStandIns$Matcher;" ∧ (T j).2.2.2 = false) (hj : j < N ∧ r < 21) (hlen : j < fs.length) (hl : Cond.fieldLink y.cls index (T j).1 (T j).2.1 (T j).2.2.1 ∈ Tb) (hdg : decode cc pc = .ok (.putfield index, 3))
    (kk : ∀ (H : Heap) (locs : List Loc), xW E A s (x_sp σ r k j v) τ H locs → W p l e R s m args below meth c H locs cells slots Q (F0 m (pc + 3) ls rest)) : W p l e R s m args below meth c H locs cells slots Q (F0 m pc ls (va_rf v :: .ref (E.2.2.1 r k) :: rest)) := by
  obtain ⟨hP, hD, hS, hz9⟩ := hw
  have hj2 := hj.2
  refine x_putG C hP hD hS (x_pl r k) (x_atX hp (by omega) hcell) hc hj.1 hl hT.2 (by rw [hT.1]; exact pd_H) (x_nrf v).1 (x_nrf v).2 hlen hdg (fun H1 locs1 h1 h2 h3 h4 => ?_)
  rw [x_updP hp (by omega) hcell'] at h1 h2
  exact kk H1 locs1 ⟨h1, h2, h3, h4.trans hz9⟩
theorem x_putoN (C : xC p s m args meth c R E A cc nL y ret d mc ms) (hw : xW E A s σ τ H locs) (r k j : Nat) {v : Option Nat} {ci N index : Nat} {fs : List Value} {Cn : String} {T : u_T} (hp : xat r k) (hcell : x_cell E r k (σ.1 r k) (σ.2.1 r k) = .inr (ci, fs)) (hc : vwCl[ci]? = some (Cn, T, N)) (hcell' : x_cell E r k (σ.1 r k) (u1 (σ.2.1 r k) j v) = .inr (ci, fs.set j (va_rf v))) (hT : (T j).2.2.1 = "LStandIns$Matcher;" ∧ (T j).2.2.2 = false) (hj : j < N ∧ r < 21) (hlen : j < fs.length) (hl : Cond.fieldLinkNest y.cls index (T j).1 (T j).2.1 (T j).2.2.1 xHost ∈ Tb) (hdg : decode cc pc = .ok (.putfield index, 3))
    (kk : ∀ (H : Heap) (locs : List Loc), xW E A s (x_sp σ r k j v) τ H locs → W p l e R s m args below meth c H locs cells slots Q (F0 m (pc + 3) ls rest)) : W p l e R s m args below meth c H locs cells slots Q (F0 m pc ls (va_rf v :: .ref (E.2.2.1 r k) :: rest)) := by
  obtain ⟨hP, hD, hS, hz9⟩ := hw
  have hj2 := hj.2
  refine x_putGN C hP hD hS (x_pl r k) (x_atX hp (by omega) hcell) hc hj.1 hl hT.2 (by rw [hT.1]; exact pd_H) (x_nrf v).1 (x_nrf v).2 hlen hdg (fun H1 locs1 h1 h2 h3 h4 => ?_)
  rw [x_updP hp (by omega) hcell'] at h1 h2
  exact kk H1 locs1 ⟨h1, h2, h3, h4.trans hz9⟩
theorem y_puti (C : xC p s m args meth c R E A cc nL y ret d mc ms) (hw : xW E A s σ τ H locs) (r k j : Nat) {v : Int32} {ci N index : Nat} {fs : List Value} {Cn : String} {T : u_T} (hp : xat r k) (hcell : x_cell E r k (τ r k) (σ.2.1 r k) = .inr (ci, fs)) (hc : vwCl[ci]? = some (Cn, T, N)) (hcell' : x_cell E r k (u1 (τ r k) j v) (σ.2.1 r k) = .inr (ci, fs.set j (.int v))) (hT : (T j).2.2.1 = "I" ∧ (T j).2.2.2 = false) (hj : j < N ∧ 30 ≤ r) (hlen : j < fs.length) (hl : Cond.fieldLink y.cls index (T j).1 (T j).2.1 (T j).2.2.1 ∈ Tb) (hdg : decode cc pc = .ok (.putfield index, 3))
    (kk : ∀ (H : Heap) (locs : List Loc), xW E A s σ (y_si τ r k j v) H locs → W p l e R s m args below meth c H locs cells slots Q (F0 m (pc + 3) ls rest)) : W p l e R s m args below meth c H locs cells slots Q (F0 m pc ls (.int v :: .ref (E.2.2.1 r k) :: rest)) := by
  obtain ⟨hP, hD, hS, hz9⟩ := hw
  have hj2 := hj.2
  refine x_putG C hP hD hS (x_pl r k) (x_atY hp hj.2 hcell) hc hj.1 hl hT.2 (by rw [hT.1]; exact pd_I) rfl rfl hlen hdg (fun H1 locs1 h1 h2 h3 h4 => ?_)
  rw [x_updY hp (by omega) hcell'] at h1 h2
  exact kk H1 locs1 ⟨h1, h2, h3, h4.trans hz9⟩
theorem y_putz (C : xC p s m args meth c R E A cc nL y ret d mc ms) (hw : xW E A s σ τ H locs) (r k j : Nat) {v : Int32} {ci N index : Nat} {fs : List Value} {Cn : String} {T : u_T} (hp : xat r k) (hz : v = 0 ∨ v = 1) (hcell : x_cell E r k (τ r k) (σ.2.1 r k) = .inr (ci, fs)) (hc : vwCl[ci]? = some (Cn, T, N)) (hcell' : x_cell E r k (u1 (τ r k) j v) (σ.2.1 r k) = .inr (ci, fs.set j (.int v))) (hT : (T j).2.2.1 = "Z" ∧ (T j).2.2.2 = false) (hj : j < N ∧ 30 ≤ r) (hlen : j < fs.length) (hl : Cond.fieldLink y.cls index (T j).1 (T j).2.1 (T j).2.2.1 ∈ Tb) (hdg : decode cc pc = .ok (.putfield index, 3))
    (kk : ∀ (H : Heap) (locs : List Loc), xW E A s σ (y_si τ r k j v) H locs → W p l e R s m args below meth c H locs cells slots Q (F0 m (pc + 3) ls rest)) : W p l e R s m args below meth c H locs cells slots Q (F0 m pc ls (.int v :: .ref (E.2.2.1 r k) :: rest)) := by
  obtain ⟨hP, hD, hS, hz9⟩ := hw
  have hj2 := hj.2
  refine x_putG C hP hD hS (x_pl r k) (x_atY hp hj.2 hcell) hc hj.1 hl hT.2 (by rw [hT.1]; exact pd_Z) (x_nz hz) (x_fz hz) hlen hdg (fun H1 locs1 h1 h2 h3 h4 => ?_)
  rw [x_updY hp (by omega) hcell'] at h1 h2
  exact kk H1 locs1 ⟨h1, h2, h3, h4.trans hz9⟩
theorem x_putFiM (C : xC p s m args meth c R E A cc nL y ret d mc ms) (hw : xW E A s σ τ H locs) (k j : Nat) {v : Int32} {index : Nat} (hm : k ∈ σ.2.2.1) (hin : y.name = "<init>") (hcl : (TxH j).1 = y.cls) (hcell' : x_fsH (u1 (σ.1 21 k) j v) (σ.2.1 21 k) = (x_fsH (σ.1 21 k) (σ.2.1 21 k)).set j (.int v)) (hT : (TxH j).2.2.1 = "I" ∧ (TxH j).2.2.2 = true) (hj : j < 5) (hl : Cond.fieldLink y.cls index (TxH j).1 (TxH j).2.1 (TxH j).2.2.1 ∈ Tb) (hdg : decode cc pc = .ok (.putfield index, 3))
    (kk : ∀ (H : Heap) (locs : List Loc), xW E A s (x_si σ 21 k j v) τ H locs → W p l e R s m args below meth c H locs cells slots Q (F0 m (pc + 3) ls rest)) : W p l e R s m args below meth c H locs cells slots Q (F0 m pc ls (.int v :: .ref k :: rest)) := by
  obtain ⟨hP, hD, hS, hz9⟩ := hw
  obtain ⟨q0, hq⟩ := va_pl_get (X := (List.range 175).map (x_st E σ τ)) (f := x_pool E σ) hm
  refine x_putGF C hin hP hD hS q0 hq rfl hj hl hT.2 hcl (by rw [hT.1]; exact pd_I) rfl rfl hj hdg (fun H1 locs1 h1 h2 h3 h4 => ?_)
  have hset : (x_ws E σ τ).set q0 (k, .inr (ixH, (x_fsH (σ.1 21 k) (σ.2.1 21 k)).set j (.int v))) = x_ws E (x_si σ 21 k j v) τ := by
    have e1 : (List.range 175).map (x_st E σ τ) = (List.range 175).map (x_st E (x_si σ 21 k j v) τ) := by
      refine List.map_congr_left (fun q hq1 => (x_st_eq ?_ ?_).symm)
      · exact x_rdM (x_dec21 (List.mem_range.mp hq1))
      · rfl
    have e2 : va_pl σ.2.2.1 (va_up (x_pool E σ) k (.inr (ixH, (x_fsH (σ.1 21 k) (σ.2.1 21 k)).set j (.int v)))) = va_pl σ.2.2.1 (x_pool E (x_si σ 21 k j v)) := by
      refine va_pl_congr (fun a => ?_)
      unfold va_up x_pool
      by_cases ha : a = k
      · subst ha
        rw [if_pos rfl]
        show _ = Sum.inr (ixH, x_fsH ((x_si σ 21 a j v).1 21 a) ((x_si σ 21 a j v).2.1 21 a))
        rw [show (x_si σ 21 a j v).1 21 a = u1 (σ.1 21 a) j v from u3_self]
        show _ = Sum.inr (ixH, x_fsH (u1 (σ.1 21 a) j v) (σ.2.1 21 a))
        rw [hcell']
      · rw [if_neg ha]
        show x_cell E 21 a (σ.1 21 a) (σ.2.1 21 a) = x_cell E 21 a (u3 σ.1 21 k j v 21 a) (σ.2.1 21 a)
        rw [u3_row (r' := 21) (k' := a) (fun e => ha e.2)]
    show ((List.range 175).map (x_st E σ τ) ++ va_pl σ.2.2.1 (x_pool E σ)).set q0 _ = (List.range 175).map (x_st E (x_si σ 21 k j v) τ) ++ va_pl σ.2.2.1 (x_pool E (x_si σ 21 k j v))
    rw [va_pl_set hD hm hq, e2, e1]
  rw [hset] at h1 h2
  exact kk H1 locs1 ⟨h1, h2, h3, h4.trans hz9⟩
theorem x_putFoM (C : xC p s m args meth c R E A cc nL y ret d mc ms) (hw : xW E A s σ τ H locs) (k j : Nat) {v : Option Nat} {index : Nat} (hm : k ∈ σ.2.2.1) (hin : y.name = "<init>") (hcl : (TxH j).1 = y.cls) (hcell' : x_fsH (σ.1 21 k) (u1 (σ.2.1 21 k) j v) = (x_fsH (σ.1 21 k) (σ.2.1 21 k)).set j (va_rf v)) (hT : (TxH j).2.2.1 = "LStandIns$Matcher;" ∧ (TxH j).2.2.2 = true) (hj : j < 5) (hl : Cond.fieldLink y.cls index (TxH j).1 (TxH j).2.1 (TxH j).2.2.1 ∈ Tb) (hdg : decode cc pc = .ok (.putfield index, 3))
    (kk : ∀ (H : Heap) (locs : List Loc), xW E A s (x_sp σ 21 k j v) τ H locs → W p l e R s m args below meth c H locs cells slots Q (F0 m (pc + 3) ls rest)) : W p l e R s m args below meth c H locs cells slots Q (F0 m pc ls (va_rf v :: .ref k :: rest)) := by
  obtain ⟨hP, hD, hS, hz9⟩ := hw
  obtain ⟨q0, hq⟩ := va_pl_get (X := (List.range 175).map (x_st E σ τ)) (f := x_pool E σ) hm
  refine x_putGF C hin hP hD hS q0 hq rfl hj hl hT.2 hcl (by rw [hT.1]; exact pd_H) (x_nrf v).1 (x_nrf v).2 hj hdg (fun H1 locs1 h1 h2 h3 h4 => ?_)
  have hset : (x_ws E σ τ).set q0 (k, .inr (ixH, (x_fsH (σ.1 21 k) (σ.2.1 21 k)).set j (va_rf v))) = x_ws E (x_sp σ 21 k j v) τ := by
    have e1 : (List.range 175).map (x_st E σ τ) = (List.range 175).map (x_st E (x_sp σ 21 k j v) τ) := by
      refine List.map_congr_left (fun q hq1 => (x_st_eq ?_ ?_).symm)
      · rfl
      · exact u3_row (fun e => x_dec21 (List.mem_range.mp hq1) e.1)
    have e2 : va_pl σ.2.2.1 (va_up (x_pool E σ) k (.inr (ixH, (x_fsH (σ.1 21 k) (σ.2.1 21 k)).set j (va_rf v)))) = va_pl σ.2.2.1 (x_pool E (x_sp σ 21 k j v)) := by
      refine va_pl_congr (fun a => ?_)
      unfold va_up x_pool
      by_cases ha : a = k
      · subst ha
        rw [if_pos rfl]
        show _ = Sum.inr (ixH, x_fsH ((x_sp σ 21 a j v).1 21 a) ((x_sp σ 21 a j v).2.1 21 a))
        rw [show (x_sp σ 21 a j v).2.1 21 a = u1 (σ.2.1 21 a) j v from u3_self]
        show _ = Sum.inr (ixH, x_fsH (σ.1 21 a) (u1 (σ.2.1 21 a) j v))
        rw [hcell']
      · rw [if_neg ha]
        show x_cell E 21 a (σ.1 21 a) (σ.2.1 21 a) = x_cell E 21 a (σ.1 21 a) (u3 σ.2.1 21 k j v 21 a)
        rw [u3_row (r' := 21) (k' := a) (fun e => ha e.2)]
    show ((List.range 175).map (x_st E σ τ) ++ va_pl σ.2.2.1 (x_pool E σ)).set q0 _ = (List.range 175).map (x_st E (x_sp σ 21 k j v) τ) ++ va_pl σ.2.2.1 (x_pool E (x_sp σ 21 k j v))
    rw [va_pl_set hD hm hq, e2, e1]
  rw [hset] at h1 h2
  exact kk H1 locs1 ⟨h1, h2, h3, h4.trans hz9⟩
-- arrays
theorem x_ild (C : xC p s m args meth c R E A cc nL y ret d mc ms) (hw : xW E A s σ τ H locs) (r k : Nat) {n : Nat} (hp : xat r k) (hcell : x_cell E r k (σ.1 r k) (σ.2.1 r k) = .inl (E.2.2.2 0, n, .inl (σ.1 r k))) {i : Int32} (hin : ¬ (i < 0 ∨ n ≤ i.toNatClampNeg)) (hdg : decode cc pc = .ok (.iaload, 1))
    (kk : W p l e R s m args below meth c H locs cells slots Q (F0 m (pc + 1) ls (.int (σ.1 r k i.toNatClampNeg) :: rest))) (hr : r < 30 := by decide) : W p l e R s m args below meth c H locs cells slots Q (F0 m pc ls (.int i :: .ref (E.2.2.1 r k) :: rest)) :=
  va_iald C.1 C.2.1 C.K hw.1 (x_pl r k) 0 (x_atX hp hr hcell) rfl hin hdg kk
theorem y_ild (C : xC p s m args meth c R E A cc nL y ret d mc ms) (hw : xW E A s σ τ H locs) (r k : Nat) {n : Nat} (hp : xat r k) (hcell : x_cell E r k (τ r k) (σ.2.1 r k) = .inl (E.2.2.2 0, n, .inl (τ r k))) {i : Int32} (hin : ¬ (i < 0 ∨ n ≤ i.toNatClampNeg)) (hdg : decode cc pc = .ok (.iaload, 1))
    (kk : W p l e R s m args below meth c H locs cells slots Q (F0 m (pc + 1) ls (.int (τ r k i.toNatClampNeg) :: rest))) (hr : 30 ≤ r := by decide) : W p l e R s m args below meth c H locs cells slots Q (F0 m pc ls (.int i :: .ref (E.2.2.1 r k) :: rest)) :=
  va_iald C.1 C.2.1 C.K hw.1 (x_pl r k) 0 (x_atY hp hr hcell) rfl hin hdg kk
theorem y_zld (C : xC p s m args meth c R E A cc nL y ret d mc ms) (hw : xW E A s σ τ H locs) (r k : Nat) {n : Nat} (hp : xat r k) (hcell : x_cell E r k (τ r k) (σ.2.1 r k) = .inl (E.2.2.2 1, n, .inl (τ r k))) {i : Int32} (hin : ¬ (i < 0 ∨ n ≤ i.toNatClampNeg)) (hdg : decode cc pc = .ok (.baload, 1))
    (kk : W p l e R s m args below meth c H locs cells slots Q (F0 m (pc + 1) ls (.int (τ r k i.toNatClampNeg) :: rest))) (hr : 30 ≤ r := by decide) : W p l e R s m args below meth c H locs cells slots Q (F0 m pc ls (.int i :: .ref (E.2.2.1 r k) :: rest)) :=
  va_zald C.1 C.2.1 C.K hw.1 (x_pl r k) 1 (x_atY hp hr hcell) rfl hin hdg kk
theorem x_aldG (C : xC p s m args meth c R E A cc nL y ret d mc ms) (hw : xW E A s σ τ H locs) (r t0 : Nat) {n : Nat} {cA : ClassId} {Cn : String} {g : Nat → Option Nat} (hp : xat r 0) (hcell : x_cell E r 0 (σ.1 r 0) (σ.2.1 r 0) = .inl (cA, n, .inr (.inr (.inr (.inr g))))) (ht : (xTys E)[t0]? = some (cA, .object Cn)) (hr : r < 30) {i : Int32} (hin : ¬ (i < 0 ∨ n ≤ i.toNatClampNeg)) (hdg : decode cc pc = .ok (.aaload, 1))
    (kk : W p l e R s m args below meth c H locs cells slots Q (F0 m (pc + 1) ls (va_rf (g i.toNatClampNeg) :: rest))) : W p l e R s m args below meth c H locs cells slots Q (F0 m pc ls (.int i :: .ref (E.2.2.1 r 0) :: rest)) :=
  va_aldq C.1 C.2.1 C.K hw.1 (x_pl r 0) t0 (x_atX hp hr hcell) ht hin hdg kk
theorem x_ald1 (C : xC p s m args meth c R E A cc nL y ret d mc ms) (hw : xW E A s σ τ H locs) {i : Int32} (hin : ¬ (i < 0 ∨ 12 ≤ i.toNatClampNeg)) (hdg : decode cc pc = .ok (.aaload, 1)) (kk : W p l e R s m args below meth c H locs cells slots Q (F0 m (pc + 1) ls (.ref (E.2.2.1 14 i.toNatClampNeg) :: rest))) : W p l e R s m args below meth c H locs cells slots Q (F0 m pc ls (.int i :: .ref (E.2.2.1 1 0) :: rest)) :=
  x_aldG C hw 1 2 at_1 rfl rfl (by decide) hin hdg kk
theorem x_ald7 (C : xC p s m args meth c R E A cc nL y ret d mc ms) (hw : xW E A s σ τ H locs) {i : Int32} (hin : ¬ (i < 0 ∨ 40 ≤ i.toNatClampNeg)) (hdg : decode cc pc = .ok (.aaload, 1)) (kk : W p l e R s m args below meth c H locs cells slots Q (F0 m (pc + 1) ls (.ref (E.2.2.1 15 i.toNatClampNeg) :: rest))) : W p l e R s m args below meth c H locs cells slots Q (F0 m pc ls (.int i :: .ref (E.2.2.1 7 0) :: rest)) :=
  x_aldG C hw 7 3 at_7 rfl rfl (by decide) hin hdg kk
theorem x_ald8 (C : xC p s m args meth c R E A cc nL y ret d mc ms) (hw : xW E A s σ τ H locs) {i : Int32} (hin : ¬ (i < 0 ∨ 16 ≤ i.toNatClampNeg)) (hdg : decode cc pc = .ok (.aaload, 1)) (kk : W p l e R s m args below meth c H locs cells slots Q (F0 m (pc + 1) ls (.ref (E.2.2.1 16 i.toNatClampNeg) :: rest))) : W p l e R s m args below meth c H locs cells slots Q (F0 m pc ls (.int i :: .ref (E.2.2.1 8 0) :: rest)) :=
  x_aldG C hw 8 4 at_8 rfl rfl (by decide) hin hdg kk
theorem x_oald (C : xC p s m args meth c R E A cc nL y ret d mc ms) (hw : xW E A s σ τ H locs) {i : Int32} (hin : ¬ (i < 0 ∨ 6 ≤ i.toNatClampNeg)) (hdg : decode cc pc = .ok (.aaload, 1)) (kk : W p l e R s m args below meth c H locs cells slots Q (F0 m (pc + 1) ls (va_rf (σ.2.1 5 0 i.toNatClampNeg) :: rest))) : W p l e R s m args below meth c H locs cells slots Q (F0 m pc ls (.int i :: .ref (E.2.2.1 5 0) :: rest)) :=
  x_aldG C hw 5 5 at_5 rfl rfl (by decide) hin hdg kk
theorem x_alen (C : xC p s m args meth c R E A cc nL y ret d mc ms) (hw : xW E A s σ τ H locs) (r k t0 : Nat) {v : Int32} {cA : ClassId} {x : vp_A} {ty : FieldType} (hp : xat r k) (hcell : x_cell E r k (σ.1 r k) (σ.2.1 r k) = .inl (cA, x)) (ht : (xTys E)[t0]? = some (cA, ty)) (hr : r < 30) (hv : Int32.ofNat x.1 = v) (hdg : decode cc pc = .ok (.arraylength, 1))
    (kk : W p l e R s m args below meth c H locs cells slots Q (F0 m (pc + 1) ls (.int v :: rest))) : W p l e R s m args below meth c H locs cells slots Q (F0 m pc ls (.ref (E.2.2.1 r k) :: rest)) :=
  va_alen C.1 C.2.1 C.K hw.1 (x_pl r k) t0 (x_atX hp hr hcell) ht hv hdg kk
theorem x_ist (C : xC p s m args meth c R E A cc nL y ret d mc ms) (hw : xW E A s σ τ H locs) (r k : Nat) {n : Nat} {i x : Int32} (hp : xat r k) (hcell : x_cell E r k (σ.1 r k) (σ.2.1 r k) = .inl (E.2.2.2 0, n, .inl (σ.1 r k))) (hcell' : x_cell E r k (u1 (σ.1 r k) i.toNatClampNeg x) (σ.2.1 r k) = .inl (E.2.2.2 0, n, .inl (u1 (σ.1 r k) i.toNatClampNeg x))) (hin : ¬ (i < 0 ∨ n ≤ i.toNatClampNeg)) (hdg : decode cc pc = .ok (.iastore, 1))
    (kk : ∀ (H : Heap) (locs : List Loc), xW E A s (x_si σ r k i.toNatClampNeg x) τ H locs → W p l e R s m args below meth c H locs cells slots Q (F0 m (pc + 1) ls rest)) (hr : r < 21 := by decide) : W p l e R s m args below meth c H locs cells slots Q (F0 m pc ls (.int x :: .int i :: .ref (E.2.2.1 r k) :: rest)) := by
  obtain ⟨hP, hD, hS, hz9⟩ := hw
  have ha := x_atX (τ := τ) hp (by omega) hcell
  refine W.iast C.1 C.2.1 (hP _ _ ha) ((C.K.2 0 _ rfl).1 n (fun j => .int (σ.1 r k j))) (fun q => by cases q) (by show ¬ (i < 0 ∨ (arrV _ _ _).slots.size ≤ _); rw [arrV_size]; exact hin) rfl rfl hdg fun H1 e1 z1 oq => ?_
  have h1 := hP.set (e := .inl (E.2.2.2 0, n, .inl (u1 (σ.1 r k) i.toNatClampNeg x))) hD ha (by
    show H1[_]? = some (vp_cell _ _)
    rw [e1, vp_cell_i, vp_cell_i, arrV_store]
    congr 2
    funext q
    by_cases hq : q = i.toNatClampNeg
    · subst hq; simp [updV, u1]
    · simp [updV, u1, hq]) oq
  have h2 := hD.set (e := .inl (E.2.2.2 0, n, .inl (u1 (σ.1 r k) i.toNatClampNeg x))) ha
  rw [x_updI hp hr hcell'] at h1 h2
  exact kk H1 _ ⟨h1, h2, hS.put z1 oq (hD.2 _ _ ha), z1.trans hz9⟩
theorem y_ist (C : xC p s m args meth c R E A cc nL y ret d mc ms) (hw : xW E A s σ τ H locs) (r k : Nat) {n : Nat} {i x : Int32} (hp : xat r k) (hcell : x_cell E r k (τ r k) (σ.2.1 r k) = .inl (E.2.2.2 0, n, .inl (τ r k))) (hcell' : x_cell E r k (u1 (τ r k) i.toNatClampNeg x) (σ.2.1 r k) = .inl (E.2.2.2 0, n, .inl (u1 (τ r k) i.toNatClampNeg x))) (hin : ¬ (i < 0 ∨ n ≤ i.toNatClampNeg)) (hdg : decode cc pc = .ok (.iastore, 1))
    (kk : ∀ (H : Heap) (locs : List Loc), xW E A s σ (y_si τ r k i.toNatClampNeg x) H locs → W p l e R s m args below meth c H locs cells slots Q (F0 m (pc + 1) ls rest)) (hr : 30 ≤ r := by decide) : W p l e R s m args below meth c H locs cells slots Q (F0 m pc ls (.int x :: .int i :: .ref (E.2.2.1 r k) :: rest)) := by
  obtain ⟨hP, hD, hS, hz9⟩ := hw
  have ha := x_atY (σ := σ) hp hr hcell
  refine W.iast C.1 C.2.1 (hP _ _ ha) ((C.K.2 0 _ rfl).1 n (fun j => .int (τ r k j))) (fun q => by cases q) (by show ¬ (i < 0 ∨ (arrV _ _ _).slots.size ≤ _); rw [arrV_size]; exact hin) rfl rfl hdg fun H1 e1 z1 oq => ?_
  have h1 := hP.set (e := .inl (E.2.2.2 0, n, .inl (u1 (τ r k) i.toNatClampNeg x))) hD ha (by
    show H1[_]? = some (vp_cell _ _)
    rw [e1, vp_cell_i, vp_cell_i, arrV_store]
    congr 2
    funext q
    by_cases hq : q = i.toNatClampNeg
    · subst hq; simp [updV, u1]
    · simp [updV, u1, hq]) oq
  have h2 := hD.set (e := .inl (E.2.2.2 0, n, .inl (u1 (τ r k) i.toNatClampNeg x))) ha
  rw [x_updY hp hr hcell'] at h1 h2
  exact kk H1 _ ⟨h1, h2, hS.put z1 oq (hD.2 _ _ ha), z1.trans hz9⟩
theorem y_zst (C : xC p s m args meth c R E A cc nL y ret d mc ms) (hw : xW E A s σ τ H locs) (r k : Nat) {n : Nat} {i x : Int32} (hp : xat r k) (hx01 : x = 0 ∨ x = 1) (hcell : x_cell E r k (τ r k) (σ.2.1 r k) = .inl (E.2.2.2 1, n, .inl (τ r k))) (hcell' : x_cell E r k (u1 (τ r k) i.toNatClampNeg x) (σ.2.1 r k) = .inl (E.2.2.2 1, n, .inl (u1 (τ r k) i.toNatClampNeg x))) (hin : ¬ (i < 0 ∨ n ≤ i.toNatClampNeg)) (hdg : decode cc pc = .ok (.bastore, 1))
    (kk : ∀ (H : Heap) (locs : List Loc), xW E A s σ (y_si τ r k i.toNatClampNeg x) H locs → W p l e R s m args below meth c H locs cells slots Q (F0 m (pc + 1) ls rest)) (hr : 30 ≤ r := by decide) : W p l e R s m args below meth c H locs cells slots Q (F0 m pc ls (.int x :: .int i :: .ref (E.2.2.1 r k) :: rest)) := by
  obtain ⟨hP, hD, hS, hz9⟩ := hw
  have ha := x_atY (σ := σ) hp hr hcell
  refine W.zast C.1 C.2.1 (hP _ _ ha) ((C.K.2 1 _ rfl).1 n (fun j => .int (τ r k j))) (fun q => by cases q) (by show ¬ (i < 0 ∨ (arrV _ _ _).slots.size ≤ _); rw [arrV_size]; exact hin) rfl rfl hdg fun H1 e1 z1 oq => ?_
  rw [x_nz hx01] at e1
  have h1 := hP.set (e := .inl (E.2.2.2 1, n, .inl (u1 (τ r k) i.toNatClampNeg x))) hD ha (by
    show H1[_]? = some (vp_cell _ _)
    rw [e1, vp_cell_i, vp_cell_i, arrV_store]
    congr 2
    funext q
    by_cases hq : q = i.toNatClampNeg
    · subst hq; simp [updV, u1]
    · simp [updV, u1, hq]) oq
  have h2 := hD.set (e := .inl (E.2.2.2 1, n, .inl (u1 (τ r k) i.toNatClampNeg x))) ha
  rw [x_updY hp hr hcell'] at h1 h2
  exact kk H1 _ ⟨h1, h2, hS.put z1 oq (hD.2 _ _ ha), z1.trans hz9⟩
theorem x_oast (C : xC p s m args meth c R E A cc nL y ret d mc ms) (hw : xW E A s σ τ H locs) {i : Int32} {o : Option Nat} (ho : xo σ.2.2.1 o = true) (hin : ¬ (i < 0 ∨ 6 ≤ i.toNatClampNeg)) (hdg : decode cc pc = .ok (.aastore, 1))
    (kk : ∀ (H : Heap) (locs : List Loc), xW E A s (x_sp σ 5 0 i.toNatClampNeg o) τ H locs → W p l e R s m args below meth c H locs cells slots Q (F0 m (pc + 1) ls rest)) : W p l e R s m args below meth c H locs cells slots Q (F0 m pc ls (va_rf o :: .int i :: .ref (E.2.2.1 5 0) :: rest)) := by
  obtain ⟨hP, hD, hS, hz9⟩ := hw
  have ha := x_atX (E := E) (σ := σ) (τ := τ) (r := 5) (k := 0) at_5 (by decide) rfl
  have hlt : i.toNatClampNeg < 6 := x_lt hin
  have fin : ∀ (H1 : Heap), H1[E.2.2.1 5 0]? = some ((arrV (E.2.2.2 5) 6 (fun j => va_rf (σ.2.1 5 0 j))).setSlot i.toNatClampNeg (va_rf o)) → H1.size = H.size → (∀ q, q ≠ E.2.2.1 5 0 → H1[q]? = H[q]?) → W p l e R s m args below meth c H1 (locs ++ [⟨E.2.2.1 5 0, i.toNatClampNeg⟩]) cells slots Q (F0 m (pc + 1) ls rest) := by
    intro H1 e1 z1 oq
    have h1 := hP.set (e := .inl (E.2.2.2 5, 6, .inr (.inr (.inr (.inr (u1 (σ.2.1 5 0) i.toNatClampNeg o)))))) hD ha (by
      show H1[_]? = some (vp_cell _ _)
      rw [e1, vp_cell_q, arrV_store]
      congr 2
      funext q
      by_cases hq : q = i.toNatClampNeg
      · subst hq; simp [updV, u1]
      · simp [updV, u1, hq]) oq
    have h2 := hD.set (e := .inl (E.2.2.2 5, 6, .inr (.inr (.inr (.inr (u1 (σ.2.1 5 0) i.toNatClampNeg o)))))) ha
    rw [x_updP (c := .inl (E.2.2.2 5, 6, .inr (.inr (.inr (.inr (u1 (σ.2.1 5 0) i.toNatClampNeg o)))))) at_5 (by decide) rfl] at h1 h2
    exact kk H1 _ ⟨h1, h2, hS.put z1 oq (hD.2 _ _ ha), z1.trans hz9⟩
  cases o with
  | none =>
    exact va_WaastN (C := RxH) C.1 C.2.1 (hP _ _ ha) ((C.K.2 5 _ rfl).1 6 (fun j => va_rf (σ.2.1 5 0 j))) (fun h => by cases h) (by show ¬ (i < 0 ∨ (arrV _ _ _).slots.size ≤ _); rw [arrV_size]; exact hin) rfl rfl hdg fin
  | some v =>
    have hm : v ∈ σ.2.2.1 := of_decide_eq_true ho
    obtain ⟨qk, hv⟩ := va_pl_get (X := (List.range 175).map (x_st E σ τ)) (f := x_pool E σ) hm
    obtain ⟨r', hr', cellV, g1, g2, g3, -⟩ := hP qk _ hv
    have hcls := (C.K.1 ixH _ rfl).2
    obtain ⟨kA, comp, k1, k2, k3, -⟩ := (C.K.2 5 _ rfl).2
    have hcomp : comp = (xG E).1 ixH := Option.some.inj (k3.symm.trans hcls.1)
    subst hcomp
    obtain ⟨kC, hkC, -⟩ := hcls.2
    exact W.aast C.1 C.2.1 (hP _ _ ha) (fun q h => by cases h) (fun h => by cases h) k1 k2 rfl hkC ⟨fun q => hin (Or.inl q), by show _ < (arrV _ _ _).slots.size; rw [arrV_size]; exact hlt⟩ g1 (fun q h => by rw [g3] at h; cases h) (by rw [g2]; exact hkC) (by rw [g2]; exact va_assign hcls) rfl rfl hdg fin
-- a new one in the pool
theorem x_new (C : xC p s m args meth c R E A cc nL y ret d mc ms) (hw : xW E A s σ τ H locs) {index : Nat} (hl : Cond.classLink y.cls index RxH ∈ Tb) (hc1 : cells + 1 ≤ mc) (hs1 : slots + 5 ≤ ms) (hdg : decode cc pc = .ok (.new index, 3))
    (kk : ∀ H : Heap, xW E A s (x_nw σ) τ H locs → W p l e R s m args below meth c H locs (cells + 1) (slots + 5) Q (F0 m (pc + 3) ls (.ref σ.2.2.2 :: rest))) : W p l e R s m args below meth c H locs cells slots Q (F0 m pc ls rest) := by
  obtain ⟨hP, hD, hS, hz9⟩ := hw
  have hKn := C.K.1 ixH _ rfl
  obtain ⟨-, -, m1, m2⟩ := C.rm
  refine W.newcK C.1 C.2.1 C.own (C.tb hl) (C.tb wH_inst) (C.tb wH_init) rfl hdg (by omega) (by omega) hKn.2.1 hz9 fun H1 kC hkC e1 z1 o1 => ?_
  have hlt : ∀ (k : Nat) (x : Nat × va_E), (x_ws E σ τ)[k]? = some x → x.1 < σ.2.2.2 := fun k x hx => by rw [← hz9]; exact (hP k x hx).lt
  have hfresh : σ.2.2.2 ∉ σ.2.2.1 := fun q => by
    have := va_pl_lt (X := (List.range 175).map (x_st E σ τ)) (f := x_pool E σ) hP q
    omega
  have hP1 : va_P (xG E) vwCl (x_ws E σ τ ++ [(σ.2.2.2, .inr (ixH, x_fsH (fun _ => 0) (fun _ => none)))]) H1 := by
    refine (hP.kept (fun k x hx => o1 x.1 (hlt k x hx))).app (fun k x hx => ?_)
    have hk0 : k < 1 := (List.getElem?_eq_some_iff.mp hx).1
    rw [show k = 0 by omega] at hx
    cases hx
    exact ⟨_, rfl, (u_born (tb_ty TxH) (fun _ h => C.tb h) (tb_lay (ci := ixH) rfl) hKn hkC e1 (tb_tyok (ci := ixH) rfl)).to x_bornH⟩
  have hD1 : va_D A (x_ws E σ τ ++ [(σ.2.2.2, .inr (ixH, x_fsH (fun _ => 0) (fun _ => none)))]) := hD.push hP hz9.symm (C.A0 _ (by rw [← hz9]; exact hS.1))
  have hset : x_ws E σ τ ++ [(σ.2.2.2, .inr (ixH, x_fsH (fun _ => 0) (fun _ => none)))] = x_ws E (x_nw σ) τ := by
    have e1 : (List.range 175).map (x_st E σ τ) = (List.range 175).map (x_st E (x_nw σ) τ) := by
      refine List.map_congr_left (fun q hq1 => (x_st_eq ?_ ?_).symm)
      · unfold x_rd
        by_cases h30 : (x_dec q).1 < 30
        · rw [if_pos h30, if_pos h30]
          funext j
          show (if _ then _ else _) = _
          rw [if_neg (fun h => x_dec21 (List.mem_range.mp hq1) h.1)]
        · rw [if_neg h30, if_neg h30]
      · funext j
        show (if _ then _ else _) = _
        rw [if_neg (fun h => x_dec21 (List.mem_range.mp hq1) h.1)]
    have e2 : va_pl (σ.2.2.1 ++ [σ.2.2.2]) (va_up (x_pool E σ) σ.2.2.2 (.inr (ixH, x_fsH (fun _ => 0) (fun _ => none)))) = va_pl (σ.2.2.1 ++ [σ.2.2.2]) (x_pool E (x_nw σ)) := by
      refine va_pl_congr (fun a => ?_)
      unfold va_up
      by_cases ha : a = σ.2.2.2
      · subst ha
        rw [if_pos rfl]
        have f1 : (x_nw σ).1 21 σ.2.2.2 = fun _ => 0 := by funext j; exact if_pos ⟨rfl, rfl⟩
        have f2 : (x_nw σ).2.1 21 σ.2.2.2 = fun _ => none := by funext j; exact if_pos ⟨rfl, rfl⟩
        unfold x_pool
        rw [f1, f2]
        rfl
      · rw [if_neg ha]
        have f1 : (x_nw σ).1 21 a = σ.1 21 a := by funext j; exact if_neg (fun h => ha h.2)
        have f2 : (x_nw σ).2.1 21 a = σ.2.1 21 a := by funext j; exact if_neg (fun h => ha h.2)
        unfold x_pool
        rw [f1, f2]
    show ((List.range 175).map (x_st E σ τ) ++ va_pl σ.2.2.1 (x_pool E σ)) ++ _ = (List.range 175).map (x_st E (x_nw σ) τ) ++ va_pl (σ.2.2.1 ++ [σ.2.2.2]) (x_pool E (x_nw σ))
    rw [List.append_assoc, va_pl_push hfresh, e2, e1]
  rw [hset] at hP1 hD1
  exact kk H1 ⟨hP1, hD1, ⟨by rw [z1]; have := hS.1; omega, fun q h1 h2 => (o1 q (by have := hS.1; omega)).trans (hS.2.1 q h1 h2), hS.2.2⟩, z1⟩
-- the library's
theorem x_objinit (C : xC p s m args meth c R E A cc nL y ret d mc ms) {lv : List (Nat × Value)} (hl : lv_has ls nL lv) {index a : Nat} (hk : Cond.methodLink y.cls index Lib.objectInit ∈ Tb) (hdg : decode cc pc = .ok (.invokespecial index, 3)) (kk : W p l e R s m args below meth c H locs cells slots Q (F0 m (pc + 3) ls rest)) (hd : 1 ≤ d := by decide) (hrs : (rest.map fun v => v.category).sum ≤ 8 := by exact Nat.le_of_ble_eq_true rfl) : W p l e R s m args below meth c H locs cells slots Q (F0 m pc ls (.ref a :: rest)) := by
  obtain ⟨r1, r2, -, -⟩ := C.rm
  exact W.objInit C.1 C.2.1 C.own (C.tb hk) (C.tb wO_inst) (C.tb wO_code) rfl (by rw [C.2.2.1]; exact hl.1) rfl hdg (by omega) (by show 2 * 0 + _ + 12 ≤ _; omega) kk
theorem x_mmax (C : xC p s m args meth c R E A cc nL y ret d mc ms) {lv : List (Nat × Value)} (hl : lv_has ls nL lv) {index : Nat} {u v : Int32} (hk : Cond.methodLink y.cls index Lib.Math.max.name ∈ Tb) (hdg : decode cc pc = .ok (.invokestatic index, 3)) (kk : W p l e R s m args below meth c H locs 0 0 Q (F0 m (pc + 3) ls (.int (if u < v then v else u) :: rest))) (hd : 1 ≤ d := by decide) (hrs : (rest.map fun v => v.category).sum ≤ 8 := by exact Nat.le_of_ble_eq_true rfl) : W p l e R s m args below meth c H locs 0 0 Q (F0 m pc ls (.int v :: .int u :: rest)) := by
  obtain ⟨r1, r2, -, -⟩ := C.rm
  exact va_mmax C.1 C.2.1 (C.2.2.1.trans hl.1.symm) C.own (C.tb hk) (C.tb wO_max1) (C.tb wO_math) (C.tb wO_max2) (by omega) (by omega) (Nat.zero_le _) (Nat.zero_le _) hdg kk
theorem x_mmin (C : xC p s m args meth c R E A cc nL y ret d mc ms) {lv : List (Nat × Value)} (hl : lv_has ls nL lv) {index : Nat} {u v : Int32} (hk : Cond.methodLink y.cls index Lib.Math.min.name ∈ Tb) (hdg : decode cc pc = .ok (.invokestatic index, 3)) (kk : W p l e R s m args below meth c H locs 0 0 Q (F0 m (pc + 3) ls (.int (if v < u then v else u) :: rest))) (hd : 1 ≤ d := by decide) (hrs : (rest.map fun v => v.category).sum ≤ 8 := by exact Nat.le_of_ble_eq_true rfl) : W p l e R s m args below meth c H locs 0 0 Q (F0 m pc ls (.int v :: .int u :: rest)) := by
  obtain ⟨r1, r2, -, -⟩ := C.rm
  exact va_mmin C.1 C.2.1 (C.2.2.1.trans hl.1.symm) C.own (C.tb hk) (C.tb wO_min1) (C.tb wO_math) (C.tb wO_min2) (by omega) (by omega) (Nat.zero_le _) (Nat.zero_le _) hdg kk
-- calls
theorem x_preS (C : xC p s m args meth c R E A cc nL y ret d mc ms) (hw : xW E A s σ τ H locs) (As : List Value) : PreS s H (va_Pc As (xPre E σ τ)) As := by
  obtain ⟨hP, hD, hS, hz⟩ := hw
  refine ⟨fun a U g mk q => ?_, fun U hU hW => ⟨rfl, by rw [hU]; exact hz, by rw [hU]; exact hP, ⟨va_K.moved hW.alike C.K, C.T.warm hW⟩, hD.weaken (fun _ _ _ _ => trivial)⟩⟩
  obtain ⟨q0, q1, qP, ⟨qK, qT⟩, qD⟩ := q
  exact ⟨q0, q1, qP, ⟨va_K.moved (u := U) (U := U.calling g mk a) (Vm.Alike.refl U.vm) qK, qT.calling⟩, qD⟩
theorem x_after (C : xC p s m args meth c R E A cc nL y ret d mc ms) (hw : xW E A s σ τ H locs) {rv : Option Value} {σ' : xS} {τ' : yS} {mc' ms' : Nat} {st0 st1 : List Value} {a : Array Value} (hr : va_Run p l e R s m args below meth c H locs cells slots mc' ms' (F0 m pc ls st0) rest (xQ E (xA E σ τ) rv σ' τ' a) (xA E σ τ)) (h1 : rv.toList ++ rest = st1)
    (kk : ∀ (H : Heap) (locs : List Loc), xW E A s σ' τ' H locs → W p l e R s m args below meth c H locs (cells + mc') (slots + ms') Q (F0 m (pc + 3) ls st1)) : W p l e R s m args below meth c H locs cells slots Q (F0 m pc ls st0) := by
  obtain ⟨hP, hD, hS, hz⟩ := hw
  subst h1
  have hA : ∀ q, xA E σ τ q → A q := by
    intro q hq
    rcases hq with ⟨k, e2, h⟩ | h
    · exact hD.2 k _ h
    · exact C.A0 q (by have := hS.1; omega)
  intro T hT X
  obtain ⟨v, st₀, t, T', L, h0, X', hL, e1, e2, ⟨hv, ⟨hP1, hD1, hz1⟩, hF1, hF2⟩, st⟩ := hr T hT X
  cases hv
  rw [h0] at hF1 hF2
  obtain ⟨t2, a1, b1⟩ := kk T'.heap (locs ++ L) ⟨by rw [e1]; exact hP1, hD1.weaken (fun _ q _ h => hA q.1 h), ⟨Nat.le_trans hS.1 (by rw [e1]; exact hF1), fun q g1 g2 => by rw [e1, hF2 q (Nat.lt_of_lt_of_le g1 hS.1) (fun z => g2 (hA q z))]; exact hS.2.1 q g1 g2, fun q hq => by
      rcases List.mem_append.mp hq with h | h
      · exact hS.2.2 q h
      · exact hA _ (hL q h)⟩, by rw [e1]; exact hz1⟩ T' rfl X'
  exact ⟨t2, st t2 a1, b1⟩
/-- what the tables say of a call -/
def xk (y : MethodName) (cc : ByteArray) (nL : Nat) (ret : Option FieldType) (n : Nat) : Prop := Cond.code y cc nL ret ∈ Tb ∧ Cond.initialized y.cls ∈ Tb ∧ (y.cls ≠ "java/lang/invoke/MethodHandle" ∧ y.cls ≠ "java/lang/invoke/VarHandle" ∧ (parseMethodDescriptor y.desc).map (fun d => d.parameters.length) = some n) ∧ nL ≤ 80
def xkV (own : String) (index : Nat) (Cn : String) (y : MethodName) (cc : ByteArray) (nL : Nat) (ret : Option FieldType) (n : Nat) : Prop := xk y cc nL ret n ∧ Cond.methodLink own index y ∈ Tb ∧ Cond.instanceMethod y ∈ Tb ∧ Cond.selects Cn y y ∈ Tb
def xkS (own : String) (index : Nat) (y : MethodName) (cc : ByteArray) (nL : Nat) (ret : Option FieldType) (n : Nat) : Prop := xk y cc nL ret n ∧ Cond.methodLink own index y ∈ Tb ∧ Cond.static y ∈ Tb
def xkVN (own : String) (index : Nat) (Cn : String) (y : MethodName) (cc : ByteArray) (nL : Nat) (ret : Option FieldType) (n : Nat) : Prop := xk y cc nL ret n ∧ Cond.methodLinkNest own index y xHost ∈ Tb ∧ Cond.instanceMethod y ∈ Tb ∧ Cond.selects Cn y y ∈ Tb
def xkSN (own : String) (index : Nat) (y : MethodName) (cc : ByteArray) (nL : Nat) (ret : Option FieldType) (n : Nat) : Prop := xk y cc nL ret n ∧ Cond.methodLinkNest own index y xHost ∈ Tb ∧ Cond.static y ∈ Tb
def xkIN (own : String) (index : Nat) (y : MethodName) (cc : ByteArray) (nL n : Nat) : Prop := xk y cc nL none n ∧ Cond.methodLinkNest own index y xHost ∈ Tb ∧ Cond.instanceMethod y ∈ Tb ∧ y.name = "<init>"
theorem x_codew (C : xC p s m args meth c R E A cc nL y ret d mc ms) {y' : MethodName} {cc' : ByteArray} {nL' : Nat} {ret' : Option FieldType} (h : Cond.code y' cc' nL' ret' ∈ Tb) : ∀ w ∈ [Cond.code y' cc' nL' ret'], ∀ (a' : Array Value) (U : State), s.WarmedH U.vm → w.before a' U = true := by
  intro w hw a' U hW
  rw [List.mem_singleton.mp hw]
  exact tb_use h ((C.T.warm hW) _ h)
theorem x_CB (C : xC p s m args meth c R E A cc nL y ret d mc ms) {y' : MethodName} {cc' : ByteArray} {nL' d' mc' ms' n index : Nat} {ret' : Option FieldType} (hk : xk y' cc' nL' ret' n) (hl : Cond.methodLink y.cls index y' ∈ Tb) (hd : d' + 1 ≤ d) : CallB R s args y.cls index y' cc' nL' ret' [.code y' cc' nL' ret'] (xRm d' mc' ms') mc' ms' n := by
  obtain ⟨r1, r2, -, -⟩ := C.rm
  obtain ⟨k1, k2, ⟨k3, k4, k5⟩, k6⟩ := hk
  refine ⟨rfl, rfl, by show d' + 1 ≤ _; omega, by show 8 + (nL' + 11) + 100 * d' ≤ _; omega, x_codew C k1, List.mem_singleton.mpr rfl, C.tb k1, C.tb k2, ⟨k3, k4⟩, fun sig h => ?_, C.tb hl⟩
  rw [h] at k5
  exact (Option.some.inj k5).symm
theorem x_CN (C : xC p s m args meth c R E A cc nL y ret d mc ms) {y' : MethodName} {cc' : ByteArray} {nL' d' mc' ms' n index : Nat} {ret' : Option FieldType} (hk : xk y' cc' nL' ret' n) (hl : Cond.methodLinkNest y.cls index y' xHost ∈ Tb) (hd : d' + 1 ≤ d) : va_CN R s args y.cls index y' xHost cc' nL' ret' [.code y' cc' nL' ret'] (xRm d' mc' ms') mc' ms' n := by
  obtain ⟨r1, r2, -, -⟩ := C.rm
  obtain ⟨k1, k2, ⟨k3, k4, k5⟩, k6⟩ := hk
  refine ⟨⟨rfl, rfl, by show d' + 1 ≤ _; omega, by show 8 + (nL' + 11) + 100 * d' ≤ _; omega, x_codew C k1, List.mem_singleton.mpr rfl⟩, C.tb k1, C.tb k2, ⟨k3, k4⟩, fun sig h => ?_, C.tb hl⟩
  rw [h] at k5
  exact (Option.some.inj k5).symm
theorem xC.fix (C : xC p s m args meth c R E A cc nL y ret d mc ms) : CallFix p m c cc nL s args Tb y.cls := ⟨C.1, C.2.1, C.2.2.1, C.own, fun _ h => C.tb h⟩
theorem x_callV {y' : MethodName} {cc' : ByteArray} {nL' d' mc' ms' n index b : Nat} {ret' : Option FieldType} {As st0 st1 : List Value} {rv : Option Value} {σ' : xS} {τ' : yS} {Cn : String} (C : xC p s m args meth c R E A cc nL y ret d mc ms) (hw : xW E A s σ τ H locs) (hM : xM l E y' cc' nL' ret' d' mc' ms' (.ref b :: As) σ τ rv σ' τ') (hk : xkV y.cls index Cn y' cc' nL' ret' n) (hv : ∃ cellB : Cell, H[b]? = some cellB ∧ cellB.vm.isStatics = false ∧ s.vm.findClass Cn = some cellB.cls) (hd : d' + 1 ≤ d) (hn : As.length = n) (hst : st0 = As.reverse ++ .ref b :: rest) (hs : ls.size = nL) (hro : 2 * (F0 m pc ls st0).monitorRoom + (rest.map fun v => v.category).sum ≤ 8) (hdg : decode cc pc = .ok (.invokevirtual index, 3)) (hms : cells + mc' ≤ mc ∧ slots + ms' ≤ ms) (h1 : rv.toList ++ rest = st1)
    (kk : ∀ (H : Heap) (locs : List Loc), xW E A s σ' τ' H locs → W p l e R s m args below meth c H locs (cells + mc') (slots + ms') Q (F0 m (pc + 3) ls st1)) : W p l e R s m args below meth c H locs cells slots Q (F0 m pc ls st0) := by
  obtain ⟨-, -, m1, m2⟩ := C.rm
  exact x_after C hw (va_runV C.fix hM ⟨x_CB C hk.1 hk.2.1 hd, C.tb hk.2.2.1, C.tb hk.2.2.2⟩ ⟨(x_preS C hw _).1, hv, (x_preS C hw _).2⟩ rfl hn hs hst hro hdg ⟨by omega, by omega⟩) h1 kk
theorem x_callVN {y' : MethodName} {cc' : ByteArray} {nL' d' mc' ms' n index b : Nat} {ret' : Option FieldType} {As st0 st1 : List Value} {rv : Option Value} {σ' : xS} {τ' : yS} {Cn : String} (C : xC p s m args meth c R E A cc nL y ret d mc ms) (hw : xW E A s σ τ H locs) (hM : xM l E y' cc' nL' ret' d' mc' ms' (.ref b :: As) σ τ rv σ' τ') (hk : xkVN y.cls index Cn y' cc' nL' ret' n) (hv : ∃ cellB : Cell, H[b]? = some cellB ∧ cellB.vm.isStatics = false ∧ s.vm.findClass Cn = some cellB.cls) (hd : d' + 1 ≤ d) (hn : As.length = n) (hst : st0 = As.reverse ++ .ref b :: rest) (hs : ls.size = nL) (hro : 2 * (F0 m pc ls st0).monitorRoom + (rest.map fun v => v.category).sum ≤ 8) (hdg : decode cc pc = .ok (.invokevirtual index, 3)) (hms : cells + mc' ≤ mc ∧ slots + ms' ≤ ms) (h1 : rv.toList ++ rest = st1)
    (kk : ∀ (H : Heap) (locs : List Loc), xW E A s σ' τ' H locs → W p l e R s m args below meth c H locs (cells + mc') (slots + ms') Q (F0 m (pc + 3) ls st1)) : W p l e R s m args below meth c H locs cells slots Q (F0 m pc ls st0) := by
  obtain ⟨-, -, m1, m2⟩ := C.rm
  exact x_after C hw (va_runVN C.fix hM ⟨x_CN C hk.1 hk.2.1 hd, C.tb hk.2.2.1, C.tb hk.2.2.2⟩ ⟨(x_preS C hw _).1, hv, (x_preS C hw _).2⟩ rfl hn hs hst hro hdg ⟨by omega, by omega⟩) h1 kk
theorem x_callS {y' : MethodName} {cc' : ByteArray} {nL' d' mc' ms' n index : Nat} {ret' : Option FieldType} {As st0 st1 : List Value} {rv : Option Value} {σ' : xS} {τ' : yS} (C : xC p s m args meth c R E A cc nL y ret d mc ms) (hw : xW E A s σ τ H locs) (hM : xM l E y' cc' nL' ret' d' mc' ms' As σ τ rv σ' τ') (hk : xkS y.cls index y' cc' nL' ret' n) (hd : d' + 1 ≤ d) (hn : As.length = n) (hst : st0 = As.reverse ++ rest) (hs : ls.size = nL) (hro : 2 * (F0 m pc ls st0).monitorRoom + (rest.map fun v => v.category).sum ≤ 8) (hdg : decode cc pc = .ok (.invokestatic index, 3)) (hms : cells + mc' ≤ mc ∧ slots + ms' ≤ ms) (h1 : rv.toList ++ rest = st1)
    (kk : ∀ (H : Heap) (locs : List Loc), xW E A s σ' τ' H locs → W p l e R s m args below meth c H locs (cells + mc') (slots + ms') Q (F0 m (pc + 3) ls st1)) : W p l e R s m args below meth c H locs cells slots Q (F0 m pc ls st0) := by
  obtain ⟨-, -, m1, m2⟩ := C.rm
  exact x_after C hw (va_runS C.fix hM ⟨x_CB C hk.1 hk.2.1 hd, C.tb hk.2.2⟩ (x_preS C hw _) rfl hn hs hst hro hdg ⟨by omega, by omega⟩) h1 kk
theorem x_callSN {y' : MethodName} {cc' : ByteArray} {nL' d' mc' ms' n index : Nat} {ret' : Option FieldType} {As st0 st1 : List Value} {rv : Option Value} {σ' : xS} {τ' : yS} (C : xC p s m args meth c R E A cc nL y ret d mc ms) (hw : xW E A s σ τ H locs) (hM : xM l E y' cc' nL' ret' d' mc' ms' As σ τ rv σ' τ') (hk : xkSN y.cls index y' cc' nL' ret' n) (hd : d' + 1 ≤ d) (hn : As.length = n) (hst : st0 = As.reverse ++ rest) (hs : ls.size = nL) (hro : 2 * (F0 m pc ls st0).monitorRoom + (rest.map fun v => v.category).sum ≤ 8) (hdg : decode cc pc = .ok (.invokestatic index, 3)) (hms : cells + mc' ≤ mc ∧ slots + ms' ≤ ms) (h1 : rv.toList ++ rest = st1)
    (kk : ∀ (H : Heap) (locs : List Loc), xW E A s σ' τ' H locs → W p l e R s m args below meth c H locs (cells + mc') (slots + ms') Q (F0 m (pc + 3) ls st1)) : W p l e R s m args below meth c H locs cells slots Q (F0 m pc ls st0) := by
  obtain ⟨-, -, m1, m2⟩ := C.rm
  exact x_after C hw (va_runSN C.fix hM ⟨x_CN C hk.1 hk.2.1 hd, C.tb hk.2.2, trivial⟩ (x_preS C hw _) rfl hn hs hst hro hdg ⟨by omega, by omega⟩) h1 kk
theorem x_callIN {y' : MethodName} {cc' : ByteArray} {nL' d' mc' ms' n index b : Nat} {As st0 st1 : List Value} {rv : Option Value} {σ' : xS} {τ' : yS} (C : xC p s m args meth c R E A cc nL y ret d mc ms) (hw : xW E A s σ τ H locs) (hM : xM l E y' cc' nL' none d' mc' ms' (.ref b :: As) σ τ rv σ' τ') (hk : xkIN y.cls index y' cc' nL' n) (hd : d' + 1 ≤ d) (hn : As.length = n) (hst : st0 = As.reverse ++ .ref b :: rest) (hs : ls.size = nL) (hro : 2 * (F0 m pc ls st0).monitorRoom + (rest.map fun v => v.category).sum ≤ 8) (hdg : decode cc pc = .ok (.invokespecial index, 3)) (hms : cells + mc' ≤ mc ∧ slots + ms' ≤ ms) (h1 : rv.toList ++ rest = st1)
    (kk : ∀ (H : Heap) (locs : List Loc), xW E A s σ' τ' H locs → W p l e R s m args below meth c H locs (cells + mc') (slots + ms') Q (F0 m (pc + 3) ls st1)) : W p l e R s m args below meth c H locs cells slots Q (F0 m pc ls st0) := by
  obtain ⟨-, -, m1, m2⟩ := C.rm
  exact x_after C hw (va_runIN C.fix hM ⟨x_CN C hk.1 hk.2.1 hd, hk.2.2.2, C.tb hk.2.2.1⟩ (x_preS C hw _) rfl hn hs hst hro hdg ⟨by omega, by omega⟩) h1 kk
theorem x_recv (C : xC p s m args meth c R E A cc nL y ret d mc ms) (hw : xW E A s σ τ H locs) (r k : Nat) {ci N : Nat} {fs : List Value} {Cn : String} {T : u_T} (hp : xat r k) (hcell : x_cell E r k (σ.1 r k) (σ.2.1 r k) = .inr (ci, fs)) (hc : vwCl[ci]? = some (Cn, T, N)) (hr : r < 30 := by decide) : ∃ cellB : Cell, H[E.2.2.1 r k]? = some cellB ∧ cellB.vm.isStatics = false ∧ s.vm.findClass Cn = some cellB.cls :=
  va_recv C.K hw.1 hc (x_atX hp hr hcell)
theorem x_recvY (C : xC p s m args meth c R E A cc nL y ret d mc ms) (hw : xW E A s σ τ H locs) (r k : Nat) {ci N : Nat} {fs : List Value} {Cn : String} {T : u_T} (hp : xat r k) (hcell : x_cell E r k (τ r k) (σ.2.1 r k) = .inr (ci, fs)) (hc : vwCl[ci]? = some (Cn, T, N)) (hr : 30 ≤ r := by decide) : ∃ cellB : Cell, H[E.2.2.1 r k]? = some cellB ∧ cellB.vm.isStatics = false ∧ s.vm.findClass Cn = some cellB.cls :=
  va_recv C.K hw.1 hc (x_atY hp hr hcell)
end XR
end
section
set_option maxRecDepth 100000 in
theorem wA_117 : Cond.classLink RxA 117 RxH ∈ Tb := tb_2 (List.mem_of_getElem? (i := 120) rfl)
set_option maxRecDepth 100000 in
theorem wQ_36 : Cond.constantLong RxQ 36 1099511627776 ∈ Tb := tb_3 (List.mem_of_getElem? (i := 26) rfl)
set_option maxRecDepth 100000 in
theorem wA_153 : Cond.constantLong RxA 153 17592186044415 ∈ Tb := tb_2 (List.mem_of_getElem? (i := 155) rfl)
set_option maxRecDepth 100000 in
theorem wA_158 : Cond.constantLong RxA 158 17592186044414 ∈ Tb := tb_2 (List.mem_of_getElem? (i := 160) rfl)
set_option maxRecDepth 100000 in
theorem wA_168 : Cond.constantLong RxA 168 17592186044416 ∈ Tb := tb_2 (List.mem_of_getElem? (i := 177) rfl)
set_option maxRecDepth 100000 in
theorem wA_321 : Cond.constantLong RxA 321 2199023255552 ∈ Tb := tb_3 (List.mem_of_getElem? (i := 32) rfl)
set_option maxRecDepth 100000 in
theorem wA_333 : Cond.constantLong RxA 333 4398046511104 ∈ Tb := tb_3 (List.mem_of_getElem? (i := 4) rfl)
set_option maxRecDepth 100000 in
theorem wA_335 : Cond.constantLong RxA 335 8796093022208 ∈ Tb := tb_3 (List.mem_of_getElem? (i := 5) rfl)
set_option maxRecDepth 100000 in
theorem wM_128 : Cond.constantLong RxM 128 17592186044415 ∈ Tb := tb_4 (List.mem_of_getElem? (i := 18) rfl)
set_option maxRecDepth 100000 in
theorem wM_133 : Cond.constantLong RxM 133 17592186044414 ∈ Tb := tb_4 (List.mem_of_getElem? (i := 19) rfl)
set_option maxRecDepth 100000 in
theorem wM_142 : Cond.constantLong RxM 142 17592186044416 ∈ Tb := tb_4 (List.mem_of_getElem? (i := 28) rfl)
set_option maxRecDepth 100000 in
theorem wM_150 : Cond.constantLong RxM 150 4398046511104 ∈ Tb := tb_4 (List.mem_of_getElem? (i := 49) rfl)
set_option maxRecDepth 100000 in
theorem wM_152 : Cond.constantLong RxM 152 8796093022208 ∈ Tb := tb_4 (List.mem_of_getElem? (i := 50) rfl)
set_option maxRecDepth 100000 in
theorem wM_176 : Cond.constantLong RxM 176 1099511627776 ∈ Tb := tb_4 (List.mem_of_getElem? (i := 63) rfl)
set_option maxRecDepth 100000 in
theorem wM_178 : Cond.constantLong RxM 178 2199023255552 ∈ Tb := tb_4 (List.mem_of_getElem? (i := 64) rfl)
set_option maxRecDepth 100000 in
theorem wQ_15 : Cond.fieldLink RxQ 15 (TxQ 1).1 (TxQ 1).2.1 (TxQ 1).2.2.1 ∈ Tb := tb_1 (List.mem_of_getElem? (i := 49) rfl)
set_option maxRecDepth 100000 in
theorem wQ_18 : Cond.fieldLink RxQ 18 (TxQ 2).1 (TxQ 2).2.1 (TxQ 2).2.2.1 ∈ Tb := tb_1 (List.mem_of_getElem? (i := 50) rfl)
set_option maxRecDepth 100000 in
theorem wQ_32 : Cond.fieldLinkNest RxQ 32 (TxD 1).1 (TxD 1).2.1 (TxD 1).2.2.1 xHost ∈ Tb := tb_1 (List.mem_of_getElem? (i := 213) rfl)
set_option maxRecDepth 100000 in
theorem wQ_38 : Cond.fieldLinkNest RxQ 38 (TxN 3).1 (TxN 3).2.1 (TxN 3).2.2.1 xHost ∈ Tb := tb_1 (List.mem_of_getElem? (i := 89) rfl)
set_option maxRecDepth 100000 in
theorem wQ_43 : Cond.fieldLinkNest RxQ 43 (TxN 4).1 (TxN 4).2.1 (TxN 4).2.2.1 xHost ∈ Tb := tb_1 (List.mem_of_getElem? (i := 95) rfl)
set_option maxRecDepth 100000 in
theorem wQ_9 : Cond.fieldLink RxQ 9 (TxQ 0).1 (TxQ 0).2.1 (TxQ 0).2.2.1 ∈ Tb := tb_1 (List.mem_of_getElem? (i := 48) rfl)
set_option maxRecDepth 100000 in
theorem wC_15 : Cond.fieldLink RxC 15 (TxC 1).1 (TxC 1).2.1 (TxC 1).2.2.1 ∈ Tb := tb_1 (List.mem_of_getElem? (i := 165) rfl)
set_option maxRecDepth 100000 in
theorem wC_19 : Cond.fieldLink RxC 19 (TxC 2).1 (TxC 2).2.1 (TxC 2).2.2.1 ∈ Tb := tb_1 (List.mem_of_getElem? (i := 166) rfl)
set_option maxRecDepth 100000 in
theorem wC_22 : Cond.fieldLink RxC 22 (TxC 3).1 (TxC 3).2.1 (TxC 3).2.2.1 ∈ Tb := tb_1 (List.mem_of_getElem? (i := 168) rfl)
set_option maxRecDepth 100000 in
theorem wC_9 : Cond.fieldLink RxC 9 (TxC 0).1 (TxC 0).2.1 (TxC 0).2.2.1 ∈ Tb := tb_1 (List.mem_of_getElem? (i := 164) rfl)
set_option maxRecDepth 100000 in
theorem wF_15 : Cond.fieldLink RxF 15 (TxF 1).1 (TxF 1).2.1 (TxF 1).2.2.1 ∈ Tb := tb_1 (List.mem_of_getElem? (i := 139) rfl)
set_option maxRecDepth 100000 in
theorem wF_18 : Cond.fieldLink RxF 18 (TxF 2).1 (TxF 2).2.1 (TxF 2).2.2.1 ∈ Tb := tb_1 (List.mem_of_getElem? (i := 141) rfl)
set_option maxRecDepth 100000 in
theorem wF_9 : Cond.fieldLink RxF 9 (TxF 0).1 (TxF 0).2.1 (TxF 0).2.2.1 ∈ Tb := tb_1 (List.mem_of_getElem? (i := 137) rfl)
set_option maxRecDepth 100000 in
theorem wH_15 : Cond.fieldLink RxH 15 (TxH 1).1 (TxH 1).2.1 (TxH 1).2.2.1 ∈ Tb := tb_2 (List.mem_of_getElem? (i := 128) rfl)
set_option maxRecDepth 100000 in
theorem wH_18 : Cond.fieldLink RxH 18 (TxH 2).1 (TxH 2).2.1 (TxH 2).2.2.1 ∈ Tb := tb_2 (List.mem_of_getElem? (i := 129) rfl)
set_option maxRecDepth 100000 in
theorem wH_22 : Cond.fieldLink RxH 22 (TxH 3).1 (TxH 3).2.1 (TxH 3).2.2.1 ∈ Tb := tb_2 (List.mem_of_getElem? (i := 130) rfl)
set_option maxRecDepth 100000 in
theorem wH_29 : Cond.fieldLink RxH 29 (TxH 4).1 (TxH 4).2.1 (TxH 4).2.2.1 ∈ Tb := tb_2 (List.mem_of_getElem? (i := 131) rfl)
set_option maxRecDepth 100000 in
theorem wH_9 : Cond.fieldLink RxH 9 (TxH 0).1 (TxH 0).2.1 (TxH 0).2.2.1 ∈ Tb := tb_2 (List.mem_of_getElem? (i := 127) rfl)
set_option maxRecDepth 100000 in
theorem wD_15 : Cond.fieldLink RxD 15 (TxD 1).1 (TxD 1).2.1 (TxD 1).2.2.1 ∈ Tb := tb_1 (List.mem_of_getElem? (i := 211) rfl)
set_option maxRecDepth 100000 in
theorem wD_19 : Cond.fieldLinkNest RxD 19 (TxN 2).1 (TxN 2).2.1 (TxN 2).2.2.1 xHost ∈ Tb := tb_1 (List.mem_of_getElem? (i := 82) rfl)
set_option maxRecDepth 100000 in
theorem wD_24 : Cond.fieldLinkNest RxD 24 (TxN 3).1 (TxN 3).2.1 (TxN 3).2.2.1 xHost ∈ Tb := tb_1 (List.mem_of_getElem? (i := 87) rfl)
set_option maxRecDepth 100000 in
theorem wD_27 : Cond.fieldLinkNest RxD 27 (TxN 4).1 (TxN 4).2.1 (TxN 4).2.2.1 xHost ∈ Tb := tb_1 (List.mem_of_getElem? (i := 93) rfl)
set_option maxRecDepth 100000 in
theorem wD_9 : Cond.fieldLink RxD 9 (TxD 0).1 (TxD 0).2.1 (TxD 0).2.2.1 ∈ Tb := tb_1 (List.mem_of_getElem? (i := 209) rfl)
set_option maxRecDepth 100000 in
theorem wB_11 : Cond.fieldLink RxB 11 (TxB 0).1 (TxB 0).2.1 (TxB 0).2.2.1 ∈ Tb := tb_1 (List.mem_of_getElem? (i := 117) rfl)
set_option maxRecDepth 100000 in
theorem wB_17 : Cond.fieldLink RxB 17 (TxB 1).1 (TxB 1).2.1 (TxB 1).2.2.1 ∈ Tb := tb_1 (List.mem_of_getElem? (i := 119) rfl)
set_option maxRecDepth 100000 in
theorem wB_21 : Cond.fieldLink RxB 21 (TxB 2).1 (TxB 2).2.1 (TxB 2).2.2.1 ∈ Tb := tb_1 (List.mem_of_getElem? (i := 121) rfl)
set_option maxRecDepth 100000 in
theorem wB_25 : Cond.fieldLinkNest RxB 25 (TxN 0).1 (TxN 0).2.1 (TxN 0).2.2.1 xHost ∈ Tb := tb_1 (List.mem_of_getElem? (i := 74) rfl)
set_option maxRecDepth 100000 in
theorem wB_28 : Cond.fieldLinkNest RxB 28 (TxP 0).1 (TxP 0).2.1 (TxP 0).2.2.1 xHost ∈ Tb := tb_1 (List.mem_of_getElem? (i := 186) rfl)
set_option maxRecDepth 100000 in
theorem wB_33 : Cond.fieldLinkNest RxB 33 (TxN 1).1 (TxN 1).2.1 (TxN 1).2.2.1 xHost ∈ Tb := tb_1 (List.mem_of_getElem? (i := 77) rfl)
set_option maxRecDepth 100000 in
theorem wB_34 : Cond.fieldLinkNest RxB 34 (TxP 1).1 (TxP 1).2.1 (TxP 1).2.2.1 xHost ∈ Tb := tb_1 (List.mem_of_getElem? (i := 189) rfl)
set_option maxRecDepth 100000 in
theorem wB_37 : Cond.fieldLinkNest RxB 37 (TxN 2).1 (TxN 2).2.1 (TxN 2).2.2.1 xHost ∈ Tb := tb_1 (List.mem_of_getElem? (i := 81) rfl)
set_option maxRecDepth 100000 in
theorem wB_38 : Cond.fieldLinkNest RxB 38 (TxN 3).1 (TxN 3).2.1 (TxN 3).2.2.1 xHost ∈ Tb := tb_1 (List.mem_of_getElem? (i := 86) rfl)
set_option maxRecDepth 100000 in
theorem wB_41 : Cond.fieldLinkNest RxB 41 (TxN 4).1 (TxN 4).2.1 (TxN 4).2.2.1 xHost ∈ Tb := tb_1 (List.mem_of_getElem? (i := 92) rfl)
set_option maxRecDepth 100000 in
theorem wB_44 : Cond.fieldLinkNest RxB 44 (TxN 5).1 (TxN 5).2.1 (TxN 5).2.2.1 xHost ∈ Tb := tb_1 (List.mem_of_getElem? (i := 98) rfl)
set_option maxRecDepth 100000 in
theorem wP_15 : Cond.fieldLink RxP 15 (TxP 1).1 (TxP 1).2.1 (TxP 1).2.2.1 ∈ Tb := tb_1 (List.mem_of_getElem? (i := 188) rfl)
set_option maxRecDepth 100000 in
theorem wP_18 : Cond.fieldLink RxP 18 (TxP 2).1 (TxP 2).2.1 (TxP 2).2.2.1 ∈ Tb := tb_1 (List.mem_of_getElem? (i := 191) rfl)
set_option maxRecDepth 100000 in
theorem wP_22 : Cond.fieldLink RxP 22 (TxP 3).1 (TxP 3).2.1 (TxP 3).2.2.1 ∈ Tb := tb_1 (List.mem_of_getElem? (i := 193) rfl)
set_option maxRecDepth 100000 in
theorem wP_25 : Cond.fieldLinkNest RxP 25 (TxN 1).1 (TxN 1).2.1 (TxN 1).2.2.1 xHost ∈ Tb := tb_1 (List.mem_of_getElem? (i := 78) rfl)
set_option maxRecDepth 100000 in
theorem wP_28 : Cond.fieldLinkNest RxP 28 (TxN 2).1 (TxN 2).2.1 (TxN 2).2.2.1 xHost ∈ Tb := tb_1 (List.mem_of_getElem? (i := 83) rfl)
set_option maxRecDepth 100000 in
theorem wP_29 : Cond.fieldLinkNest RxP 29 (TxN 3).1 (TxN 3).2.1 (TxN 3).2.2.1 xHost ∈ Tb := tb_1 (List.mem_of_getElem? (i := 88) rfl)
set_option maxRecDepth 100000 in
theorem wP_38 : Cond.fieldLinkNest RxP 38 (TxN 4).1 (TxN 4).2.1 (TxN 4).2.2.1 xHost ∈ Tb := tb_1 (List.mem_of_getElem? (i := 94) rfl)
set_option maxRecDepth 100000 in
theorem wP_9 : Cond.fieldLink RxP 9 (TxP 0).1 (TxP 0).2.1 (TxP 0).2.2.1 ∈ Tb := tb_1 (List.mem_of_getElem? (i := 185) rfl)
set_option maxRecDepth 100000 in
theorem wK_11 : Cond.fieldLink RxK 11 (TxK 0).1 (TxK 0).2.1 (TxK 0).2.2.1 ∈ Tb := tb_1 (List.mem_of_getElem? (i := 32) rfl)
set_option maxRecDepth 100000 in
theorem wK_17 : Cond.fieldLink RxK 17 (TxK 1).1 (TxK 1).2.1 (TxK 1).2.2.1 ∈ Tb := tb_1 (List.mem_of_getElem? (i := 34) rfl)
set_option maxRecDepth 100000 in
theorem wT_19 : Cond.fieldLink RxT 19 (TxT 1).1 (TxT 1).2.1 (TxT 1).2.2.1 ∈ Tb := tb_1 (List.mem_of_getElem? (i := 230) rfl)
set_option maxRecDepth 100000 in
theorem wT_23 : Cond.fieldLink RxT 23 (TxT 2).1 (TxT 2).2.1 (TxT 2).2.2.1 ∈ Tb := tb_1 (List.mem_of_getElem? (i := 232) rfl)
set_option maxRecDepth 100000 in
theorem wT_27 : Cond.fieldLink RxT 27 (TxT 3).1 (TxT 3).2.1 (TxT 3).2.2.1 ∈ Tb := tb_1 (List.mem_of_getElem? (i := 233) rfl)
set_option maxRecDepth 100000 in
theorem wT_34 : Cond.fieldLinkNest RxT 34 (TxQ 2).1 (TxQ 2).2.1 (TxQ 2).2.2.1 xHost ∈ Tb := tb_1 (List.mem_of_getElem? (i := 51) rfl)
set_option maxRecDepth 100000 in
theorem wA_105 : Cond.fieldLinkNest RxA 105 (TxD 0).1 (TxD 0).2.1 (TxD 0).2.2.1 xHost ∈ Tb := tb_1 (List.mem_of_getElem? (i := 210) rfl)
set_option maxRecDepth 100000 in
theorem wA_108 : Cond.fieldLinkNest RxA 108 (TxD 1).1 (TxD 1).2.1 (TxD 1).2.2.1 xHost ∈ Tb := tb_1 (List.mem_of_getElem? (i := 212) rfl)
set_option maxRecDepth 100000 in
theorem wA_11 : Cond.fieldLink RxA 11 (TxA 0).1 (TxA 0).2.1 (TxA 0).2.2.1 ∈ Tb := tb_2 (List.mem_of_getElem? (i := 8) rfl)
set_option maxRecDepth 100000 in
theorem wA_121 : Cond.fieldLinkNest RxA 121 (TxK 1).1 (TxK 1).2.1 (TxK 1).2.2.1 xHost ∈ Tb := tb_1 (List.mem_of_getElem? (i := 35) rfl)
set_option maxRecDepth 100000 in
theorem wA_15 : Cond.fieldLink RxA 15 (TxA 1).1 (TxA 1).2.1 (TxA 1).2.2.1 ∈ Tb := tb_2 (List.mem_of_getElem? (i := 9) rfl)
set_option maxRecDepth 100000 in
theorem wA_170 : Cond.fieldLinkNest RxA 170 (TxP 0).1 (TxP 0).2.1 (TxP 0).2.2.1 xHost ∈ Tb := tb_1 (List.mem_of_getElem? (i := 187) rfl)
set_option maxRecDepth 100000 in
theorem wA_173 : Cond.fieldLinkNest RxA 173 (TxP 1).1 (TxP 1).2.1 (TxP 1).2.2.1 xHost ∈ Tb := tb_1 (List.mem_of_getElem? (i := 190) rfl)
set_option maxRecDepth 100000 in
theorem wA_180 : Cond.fieldLinkNest RxA 180 (TxP 2).1 (TxP 2).2.1 (TxP 2).2.2.1 xHost ∈ Tb := tb_1 (List.mem_of_getElem? (i := 192) rfl)
set_option maxRecDepth 100000 in
theorem wA_184 : Cond.fieldLinkNest RxA 184 (TxP 3).1 (TxP 3).2.1 (TxP 3).2.2.1 xHost ∈ Tb := tb_1 (List.mem_of_getElem? (i := 194) rfl)
set_option maxRecDepth 100000 in
theorem wA_19 : Cond.fieldLink RxA 19 (TxA 2).1 (TxA 2).2.1 (TxA 2).2.2.1 ∈ Tb := tb_2 (List.mem_of_getElem? (i := 10) rfl)
set_option maxRecDepth 100000 in
theorem wA_211 : Cond.fieldLinkNest RxA 211 (TxT 1).1 (TxT 1).2.1 (TxT 1).2.2.1 xHost ∈ Tb := tb_1 (List.mem_of_getElem? (i := 231) rfl)
set_option maxRecDepth 100000 in
theorem wA_214 : Cond.fieldLinkNest RxA 214 (TxQ 2).1 (TxQ 2).2.1 (TxQ 2).2.2.1 xHost ∈ Tb := tb_1 (List.mem_of_getElem? (i := 52) rfl)
set_option maxRecDepth 100000 in
theorem wA_22 : Cond.fieldLink RxA 22 (TxA 3).1 (TxA 3).2.1 (TxA 3).2.2.1 ∈ Tb := tb_2 (List.mem_of_getElem? (i := 11) rfl)
set_option maxRecDepth 100000 in
theorem wA_225 : Cond.fieldLinkNest RxA 225 (TxB 1).1 (TxB 1).2.1 (TxB 1).2.2.1 xHost ∈ Tb := tb_1 (List.mem_of_getElem? (i := 120) rfl)
set_option maxRecDepth 100000 in
theorem wA_226 : Cond.fieldLinkNest RxA 226 (TxB 0).1 (TxB 0).2.1 (TxB 0).2.2.1 xHost ∈ Tb := tb_1 (List.mem_of_getElem? (i := 118) rfl)
set_option maxRecDepth 100000 in
theorem wA_230 : Cond.fieldLinkNest RxA 230 (TxN 0).1 (TxN 0).2.1 (TxN 0).2.2.1 xHost ∈ Tb := tb_1 (List.mem_of_getElem? (i := 75) rfl)
set_option maxRecDepth 100000 in
theorem wA_235 : Cond.fieldLinkNest RxA 235 (TxN 1).1 (TxN 1).2.1 (TxN 1).2.2.1 xHost ∈ Tb := tb_1 (List.mem_of_getElem? (i := 79) rfl)
set_option maxRecDepth 100000 in
theorem wA_236 : Cond.fieldLinkNest RxA 236 (TxN 2).1 (TxN 2).2.1 (TxN 2).2.2.1 xHost ∈ Tb := tb_1 (List.mem_of_getElem? (i := 84) rfl)
set_option maxRecDepth 100000 in
theorem wA_237 : Cond.fieldLinkNest RxA 237 (TxN 3).1 (TxN 3).2.1 (TxN 3).2.2.1 xHost ∈ Tb := tb_1 (List.mem_of_getElem? (i := 90) rfl)
set_option maxRecDepth 100000 in
theorem wA_240 : Cond.fieldLinkNest RxA 240 (TxN 4).1 (TxN 4).2.1 (TxN 4).2.2.1 xHost ∈ Tb := tb_1 (List.mem_of_getElem? (i := 96) rfl)
set_option maxRecDepth 100000 in
theorem wA_243 : Cond.fieldLinkNest RxA 243 (TxN 5).1 (TxN 5).2.1 (TxN 5).2.2.1 xHost ∈ Tb := tb_1 (List.mem_of_getElem? (i := 99) rfl)
set_option maxRecDepth 100000 in
theorem wA_246 : Cond.fieldLinkNest RxA 246 (TxN 6).1 (TxN 6).2.1 (TxN 6).2.2.1 xHost ∈ Tb := tb_1 (List.mem_of_getElem? (i := 101) rfl)
set_option maxRecDepth 100000 in
theorem wA_249 : Cond.fieldLinkNest RxA 249 (TxT 0).1 (TxT 0).2.1 (TxT 0).2.2.1 xHost ∈ Tb := tb_1 (List.mem_of_getElem? (i := 229) rfl)
set_option maxRecDepth 100000 in
theorem wA_252 : Cond.fieldLinkNest RxA 252 (TxT 3).1 (TxT 3).2.1 (TxT 3).2.2.1 xHost ∈ Tb := tb_1 (List.mem_of_getElem? (i := 234) rfl)
set_option maxRecDepth 100000 in
theorem wA_255 : Cond.fieldLinkNest RxA 255 (TxT 4).1 (TxT 4).2.1 (TxT 4).2.2.1 xHost ∈ Tb := tb_1 (List.mem_of_getElem? (i := 236) rfl)
set_option maxRecDepth 100000 in
theorem wA_258 : Cond.fieldLinkNest RxA 258 (TxF 3).1 (TxF 3).2.1 (TxF 3).2.2.1 xHost ∈ Tb := tb_1 (List.mem_of_getElem? (i := 144) rfl)
set_option maxRecDepth 100000 in
theorem wA_261 : Cond.fieldLinkNest RxA 261 (TxF 4).1 (TxF 4).2.1 (TxF 4).2.2.1 xHost ∈ Tb := tb_1 (List.mem_of_getElem? (i := 146) rfl)
set_option maxRecDepth 100000 in
theorem wA_264 : Cond.fieldLinkNest RxA 264 (TxF 2).1 (TxF 2).2.1 (TxF 2).2.2.1 xHost ∈ Tb := tb_1 (List.mem_of_getElem? (i := 142) rfl)
set_option maxRecDepth 100000 in
theorem wA_265 : Cond.fieldLinkNest RxA 265 (TxF 1).1 (TxF 1).2.1 (TxF 1).2.2.1 xHost ∈ Tb := tb_1 (List.mem_of_getElem? (i := 140) rfl)
set_option maxRecDepth 100000 in
theorem wA_268 : Cond.fieldLinkNest RxA 268 (TxC 2).1 (TxC 2).2.1 (TxC 2).2.2.1 xHost ∈ Tb := tb_1 (List.mem_of_getElem? (i := 167) rfl)
set_option maxRecDepth 100000 in
theorem wA_278 : Cond.fieldLinkNest RxA 278 (TxC 3).1 (TxC 3).2.1 (TxC 3).2.2.1 xHost ∈ Tb := tb_1 (List.mem_of_getElem? (i := 169) rfl)
set_option maxRecDepth 100000 in
theorem wA_29 : Cond.fieldLink RxA 29 (TxA 4).1 (TxA 4).2.1 (TxA 4).2.2.1 ∈ Tb := tb_2 (List.mem_of_getElem? (i := 12) rfl)
set_option maxRecDepth 100000 in
theorem wA_303 : Cond.fieldLinkNest RxA 303 (TxK 0).1 (TxK 0).2.1 (TxK 0).2.2.1 xHost ∈ Tb := tb_1 (List.mem_of_getElem? (i := 33) rfl)
set_option maxRecDepth 100000 in
theorem wA_341 : Cond.fieldLinkNest RxA 341 (TxF 0).1 (TxF 0).2.1 (TxF 0).2.2.1 xHost ∈ Tb := tb_1 (List.mem_of_getElem? (i := 138) rfl)
set_option maxRecDepth 100000 in
theorem wA_36 : Cond.fieldLink RxA 36 (TxA 5).1 (TxA 5).2.1 (TxA 5).2.2.1 ∈ Tb := tb_2 (List.mem_of_getElem? (i := 13) rfl)
set_option maxRecDepth 100000 in
theorem wA_43 : Cond.fieldLink RxA 43 (TxA 6).1 (TxA 6).2.1 (TxA 6).2.2.1 ∈ Tb := tb_2 (List.mem_of_getElem? (i := 14) rfl)
set_option maxRecDepth 100000 in
theorem wA_49 : Cond.fieldLink RxA 49 (TxA 7).1 (TxA 7).2.1 (TxA 7).2.2.1 ∈ Tb := tb_2 (List.mem_of_getElem? (i := 15) rfl)
set_option maxRecDepth 100000 in
theorem wA_53 : Cond.fieldLink RxA 53 (TxA 8).1 (TxA 8).2.1 (TxA 8).2.2.1 ∈ Tb := tb_2 (List.mem_of_getElem? (i := 16) rfl)
set_option maxRecDepth 100000 in
theorem wA_59 : Cond.fieldLink RxA 59 (TxA 9).1 (TxA 9).2.1 (TxA 9).2.2.1 ∈ Tb := tb_2 (List.mem_of_getElem? (i := 17) rfl)
set_option maxRecDepth 100000 in
theorem wA_66 : Cond.fieldLink RxA 66 (TxA 10).1 (TxA 10).2.1 (TxA 10).2.2.1 ∈ Tb := tb_2 (List.mem_of_getElem? (i := 18) rfl)
set_option maxRecDepth 100000 in
theorem wA_73 : Cond.fieldLink RxA 73 (TxA 11).1 (TxA 11).2.1 (TxA 11).2.2.1 ∈ Tb := tb_2 (List.mem_of_getElem? (i := 19) rfl)
set_option maxRecDepth 100000 in
theorem wA_77 : Cond.fieldLink RxA 77 (TxA 12).1 (TxA 12).2.1 (TxA 12).2.2.1 ∈ Tb := tb_2 (List.mem_of_getElem? (i := 20) rfl)
set_option maxRecDepth 100000 in
theorem wA_80 : Cond.fieldLink RxA 80 (TxA 13).1 (TxA 13).2.1 (TxA 13).2.2.1 ∈ Tb := tb_2 (List.mem_of_getElem? (i := 21) rfl)
set_option maxRecDepth 100000 in
theorem wA_83 : Cond.fieldLink RxA 83 (TxA 14).1 (TxA 14).2.1 (TxA 14).2.2.1 ∈ Tb := tb_2 (List.mem_of_getElem? (i := 22) rfl)
set_option maxRecDepth 100000 in
theorem wA_86 : Cond.fieldLink RxA 86 (TxA 15).1 (TxA 15).2.1 (TxA 15).2.2.1 ∈ Tb := tb_2 (List.mem_of_getElem? (i := 23) rfl)
set_option maxRecDepth 100000 in
theorem wA_89 : Cond.fieldLink RxA 89 (TxA 16).1 (TxA 16).2.1 (TxA 16).2.2.1 ∈ Tb := tb_2 (List.mem_of_getElem? (i := 24) rfl)
set_option maxRecDepth 100000 in
theorem wA_92 : Cond.fieldLink RxA 92 (TxA 17).1 (TxA 17).2.1 (TxA 17).2.2.1 ∈ Tb := tb_2 (List.mem_of_getElem? (i := 25) rfl)
set_option maxRecDepth 100000 in
theorem wM_110 : Cond.fieldLink RxM 110 (TxM 4).1 (TxM 4).2.1 (TxM 4).2.2.1 ∈ Tb := tb_3 (List.mem_of_getElem? (i := 108) rfl)
set_option maxRecDepth 100000 in
theorem wM_13 : Cond.fieldLink RxM 13 (TxM 1).1 (TxM 1).2.1 (TxM 1).2.2.1 ∈ Tb := tb_3 (List.mem_of_getElem? (i := 105) rfl)
set_option maxRecDepth 100000 in
theorem wM_130 : Cond.fieldLink RxM 130 (TxM 20).1 (TxM 20).2.1 (TxM 20).2.2.1 ∈ Tb := tb_3 (List.mem_of_getElem? (i := 124) rfl)
set_option maxRecDepth 100000 in
theorem wM_165 : Cond.fieldLink RxM 165 (TxM 21).1 (TxM 21).2.1 (TxM 21).2.2.1 ∈ Tb := tb_3 (List.mem_of_getElem? (i := 125) rfl)
set_option maxRecDepth 100000 in
theorem wM_17 : Cond.fieldLink RxM 17 (TxM 2).1 (TxM 2).2.1 (TxM 2).2.2.1 ∈ Tb := tb_3 (List.mem_of_getElem? (i := 106) rfl)
set_option maxRecDepth 100000 in
theorem wM_180 : Cond.fieldLink RxM 180 (TxM 35).1 (TxM 35).2.1 (TxM 35).2.2.1 ∈ Tb := tb_3 (List.mem_of_getElem? (i := 139) rfl)
set_option maxRecDepth 100000 in
theorem wM_183 : Cond.fieldLink RxM 183 (TxM 11).1 (TxM 11).2.1 (TxM 11).2.2.1 ∈ Tb := tb_3 (List.mem_of_getElem? (i := 115) rfl)
set_option maxRecDepth 100000 in
theorem wM_186 : Cond.fieldLink RxM 186 (TxM 37).1 (TxM 37).2.1 (TxM 37).2.2.1 ∈ Tb := tb_3 (List.mem_of_getElem? (i := 141) rfl)
set_option maxRecDepth 100000 in
theorem wM_190 : Cond.fieldLink RxM 190 (TxM 12).1 (TxM 12).2.1 (TxM 12).2.2.1 ∈ Tb := tb_3 (List.mem_of_getElem? (i := 116) rfl)
set_option maxRecDepth 100000 in
theorem wM_193 : Cond.fieldLink RxM 193 (TxM 38).1 (TxM 38).2.1 (TxM 38).2.2.1 ∈ Tb := tb_3 (List.mem_of_getElem? (i := 142) rfl)
set_option maxRecDepth 100000 in
theorem wM_196 : Cond.fieldLink RxM 196 (TxM 36).1 (TxM 36).2.1 (TxM 36).2.2.1 ∈ Tb := tb_3 (List.mem_of_getElem? (i := 140) rfl)
set_option maxRecDepth 100000 in
theorem wM_20 : Cond.fieldLink RxM 20 (TxM 3).1 (TxM 3).2.1 (TxM 3).2.2.1 ∈ Tb := tb_3 (List.mem_of_getElem? (i := 107) rfl)
set_option maxRecDepth 100000 in
theorem wM_23 : Cond.fieldLink RxM 23 (TxM 5).1 (TxM 5).2.1 (TxM 5).2.2.1 ∈ Tb := tb_3 (List.mem_of_getElem? (i := 109) rfl)
set_option maxRecDepth 100000 in
theorem wM_26 : Cond.fieldLink RxM 26 (TxM 6).1 (TxM 6).2.1 (TxM 6).2.2.1 ∈ Tb := tb_3 (List.mem_of_getElem? (i := 110) rfl)
set_option maxRecDepth 100000 in
theorem wM_29 : Cond.fieldLink RxM 29 (TxM 7).1 (TxM 7).2.1 (TxM 7).2.2.1 ∈ Tb := tb_3 (List.mem_of_getElem? (i := 111) rfl)
set_option maxRecDepth 100000 in
theorem wM_32 : Cond.fieldLink RxM 32 (TxM 13).1 (TxM 13).2.1 (TxM 13).2.2.1 ∈ Tb := tb_3 (List.mem_of_getElem? (i := 117) rfl)
set_option maxRecDepth 100000 in
theorem wM_35 : Cond.fieldLink RxM 35 (TxM 14).1 (TxM 14).2.1 (TxM 14).2.2.1 ∈ Tb := tb_3 (List.mem_of_getElem? (i := 118) rfl)
set_option maxRecDepth 100000 in
theorem wM_38 : Cond.fieldLink RxM 38 (TxM 15).1 (TxM 15).2.1 (TxM 15).2.2.1 ∈ Tb := tb_3 (List.mem_of_getElem? (i := 119) rfl)
set_option maxRecDepth 100000 in
theorem wM_41 : Cond.fieldLink RxM 41 (TxM 16).1 (TxM 16).2.1 (TxM 16).2.2.1 ∈ Tb := tb_3 (List.mem_of_getElem? (i := 120) rfl)
set_option maxRecDepth 100000 in
theorem wM_44 : Cond.fieldLink RxM 44 (TxM 17).1 (TxM 17).2.1 (TxM 17).2.2.1 ∈ Tb := tb_3 (List.mem_of_getElem? (i := 121) rfl)
set_option maxRecDepth 100000 in
theorem wM_47 : Cond.fieldLink RxM 47 (TxM 18).1 (TxM 18).2.1 (TxM 18).2.2.1 ∈ Tb := tb_3 (List.mem_of_getElem? (i := 122) rfl)
set_option maxRecDepth 100000 in
theorem wM_50 : Cond.fieldLink RxM 50 (TxM 19).1 (TxM 19).2.1 (TxM 19).2.2.1 ∈ Tb := tb_3 (List.mem_of_getElem? (i := 123) rfl)
set_option maxRecDepth 100000 in
theorem wM_53 : Cond.fieldLink RxM 53 (TxM 22).1 (TxM 22).2.1 (TxM 22).2.2.1 ∈ Tb := tb_3 (List.mem_of_getElem? (i := 126) rfl)
set_option maxRecDepth 100000 in
theorem wM_56 : Cond.fieldLink RxM 56 (TxM 23).1 (TxM 23).2.1 (TxM 23).2.2.1 ∈ Tb := tb_3 (List.mem_of_getElem? (i := 127) rfl)
set_option maxRecDepth 100000 in
theorem wM_59 : Cond.fieldLink RxM 59 (TxM 24).1 (TxM 24).2.1 (TxM 24).2.2.1 ∈ Tb := tb_3 (List.mem_of_getElem? (i := 128) rfl)
set_option maxRecDepth 100000 in
theorem wM_62 : Cond.fieldLink RxM 62 (TxM 25).1 (TxM 25).2.1 (TxM 25).2.2.1 ∈ Tb := tb_3 (List.mem_of_getElem? (i := 129) rfl)
set_option maxRecDepth 100000 in
theorem wM_65 : Cond.fieldLink RxM 65 (TxM 26).1 (TxM 26).2.1 (TxM 26).2.2.1 ∈ Tb := tb_3 (List.mem_of_getElem? (i := 130) rfl)
set_option maxRecDepth 100000 in
theorem wM_68 : Cond.fieldLink RxM 68 (TxM 27).1 (TxM 27).2.1 (TxM 27).2.2.1 ∈ Tb := tb_3 (List.mem_of_getElem? (i := 131) rfl)
set_option maxRecDepth 100000 in
theorem wM_7 : Cond.fieldLink RxM 7 (TxM 0).1 (TxM 0).2.1 (TxM 0).2.2.1 ∈ Tb := tb_3 (List.mem_of_getElem? (i := 104) rfl)
set_option maxRecDepth 100000 in
theorem wM_71 : Cond.fieldLink RxM 71 (TxM 28).1 (TxM 28).2.1 (TxM 28).2.2.1 ∈ Tb := tb_3 (List.mem_of_getElem? (i := 132) rfl)
set_option maxRecDepth 100000 in
theorem wM_74 : Cond.fieldLink RxM 74 (TxM 31).1 (TxM 31).2.1 (TxM 31).2.2.1 ∈ Tb := tb_3 (List.mem_of_getElem? (i := 135) rfl)
set_option maxRecDepth 100000 in
theorem wM_78 : Cond.fieldLink RxM 78 (TxM 32).1 (TxM 32).2.1 (TxM 32).2.2.1 ∈ Tb := tb_3 (List.mem_of_getElem? (i := 136) rfl)
set_option maxRecDepth 100000 in
theorem wM_81 : Cond.fieldLink RxM 81 (TxM 33).1 (TxM 33).2.1 (TxM 33).2.2.1 ∈ Tb := tb_3 (List.mem_of_getElem? (i := 137) rfl)
set_option maxRecDepth 100000 in
theorem wM_84 : Cond.fieldLink RxM 84 (TxM 34).1 (TxM 34).2.1 (TxM 34).2.2.1 ∈ Tb := tb_3 (List.mem_of_getElem? (i := 138) rfl)
set_option maxRecDepth 100000 in
theorem wM_87 : Cond.fieldLink RxM 87 (TxM 10).1 (TxM 10).2.1 (TxM 10).2.2.1 ∈ Tb := tb_3 (List.mem_of_getElem? (i := 114) rfl)
set_option maxRecDepth 100000 in
theorem wM_90 : Cond.fieldLink RxM 90 (TxM 9).1 (TxM 9).2.1 (TxM 9).2.2.1 ∈ Tb := tb_3 (List.mem_of_getElem? (i := 113) rfl)
set_option maxRecDepth 100000 in
theorem wM_93 : Cond.fieldLink RxM 93 (TxM 29).1 (TxM 29).2.1 (TxM 29).2.2.1 ∈ Tb := tb_3 (List.mem_of_getElem? (i := 133) rfl)
set_option maxRecDepth 100000 in
theorem wM_96 : Cond.fieldLink RxM 96 (TxM 8).1 (TxM 8).2.1 (TxM 8).2.2.1 ∈ Tb := tb_3 (List.mem_of_getElem? (i := 112) rfl)
set_option maxRecDepth 100000 in
theorem wM_99 : Cond.fieldLink RxM 99 (TxM 30).1 (TxM 30).2.1 (TxM 30).2.2.1 ∈ Tb := tb_3 (List.mem_of_getElem? (i := 134) rfl)
set_option maxRecDepth 100000 in
theorem wC_25 : Cond.methodLink RxC 25 Lib.Math.min.name ∈ Tb := tb_3 (List.mem_of_getElem? (i := 1) rfl)
set_option maxRecDepth 100000 in
theorem wK_21 : Cond.methodLink RxK 21 Lib.Math.max.name ∈ Tb := tb_2 (List.mem_of_getElem? (i := 112) rfl)
set_option maxRecDepth 100000 in
theorem wA_285 : Cond.methodLink RxA 285 Lib.Math.max.name ∈ Tb := tb_2 (List.mem_of_getElem? (i := 86) rfl)
set_option maxRecDepth 100000 in
theorem wH_3 : Cond.methodLink RxH 3 Lib.objectInit ∈ Tb := tb_2 (List.mem_of_getElem? (i := 125) rfl)
set_option maxRecDepth 100000 in
theorem xk_Q_add : xk yQ_add bQ_add 3 none 2 := ⟨tb_2 (List.mem_of_getElem? (i := 201) rfl), tb_1 (List.mem_of_getElem? (i := 3) rfl), by decide +kernel, by decide⟩
set_option maxRecDepth 100000 in
theorem kQ_22 : xkV RxQ 22 RxQ yQ_add bQ_add 3 none 2 := ⟨xk_Q_add, tb_2 (List.mem_of_getElem? (i := 198) rfl), tb_2 (List.mem_of_getElem? (i := 200) rfl), tb_0 (List.mem_of_getElem? (i := 20) rfl)⟩
set_option maxRecDepth 100000 in
theorem xk_D_canDo : xk yD_canDo bD_canDo 3 (some .boolean) 2 := ⟨tb_2 (List.mem_of_getElem? (i := 176) rfl), tb_1 (List.mem_of_getElem? (i := 9) rfl), by decide +kernel, by decide⟩
set_option maxRecDepth 100000 in
theorem kQ_26 : xkVN RxQ 26 RxD yD_canDo bD_canDo 3 (some .boolean) 2 := ⟨xk_D_canDo, tb_2 (List.mem_of_getElem? (i := 173) rfl), tb_2 (List.mem_of_getElem? (i := 175) rfl), tb_0 (List.mem_of_getElem? (i := 14) rfl)⟩
set_option maxRecDepth 100000 in
theorem xk_D_realResult : xk yD_realResult bD_realResult 2 (some .int) 1 := ⟨tb_3 (List.mem_of_getElem? (i := 30) rfl), tb_1 (List.mem_of_getElem? (i := 9) rfl), by decide +kernel, by decide⟩
set_option maxRecDepth 100000 in
theorem kQ_46 : xkVN RxQ 46 RxD yD_realResult bD_realResult 2 (some .int) 1 := ⟨xk_D_realResult, tb_3 (List.mem_of_getElem? (i := 27) rfl), tb_3 (List.mem_of_getElem? (i := 29) rfl), tb_0 (List.mem_of_getElem? (i := 34) rfl)⟩
set_option maxRecDepth 100000 in
theorem xk_H_sizeOf : xk yH_sizeOf bH_sizeOf 1 (some .int) 1 := ⟨tb_2 (List.mem_of_getElem? (i := 115) rfl), tb_1 (List.mem_of_getElem? (i := 13) rfl), by decide +kernel, by decide⟩
set_option maxRecDepth 100000 in
theorem kH_25 : xkS RxH 25 yH_sizeOf bH_sizeOf 1 (some .int) 1 := ⟨xk_H_sizeOf, tb_2 (List.mem_of_getElem? (i := 126) rfl), tb_2 (List.mem_of_getElem? (i := 114) rfl)⟩
set_option maxRecDepth 100000 in
theorem xk_H_accepts : xk yH_accepts bH_accepts 2 (some .boolean) 2 := ⟨tb_2 (List.mem_of_getElem? (i := 216) rfl), tb_1 (List.mem_of_getElem? (i := 13) rfl), by decide +kernel, by decide⟩
set_option maxRecDepth 100000 in
theorem kH_32 : xkS RxH 32 yH_accepts bH_accepts 2 (some .boolean) 2 := ⟨xk_H_accepts, tb_2 (List.mem_of_getElem? (i := 217) rfl), tb_2 (List.mem_of_getElem? (i := 215) rfl)⟩
set_option maxRecDepth 100000 in
theorem kP_32 : xkSN RxP 32 yH_accepts bH_accepts 2 (some .boolean) 2 := ⟨xk_H_accepts, tb_2 (List.mem_of_getElem? (i := 214) rfl), tb_2 (List.mem_of_getElem? (i := 215) rfl)⟩
set_option maxRecDepth 100000 in
theorem kK_27 : xkSN RxK 27 yH_sizeOf bH_sizeOf 1 (some .int) 1 := ⟨xk_H_sizeOf, tb_2 (List.mem_of_getElem? (i := 113) rfl), tb_2 (List.mem_of_getElem? (i := 114) rfl)⟩
set_option maxRecDepth 100000 in
theorem xk_Q_spokenTo : xk yQ_spokenTo bQ_spokenTo 4 (some .long) 3 := ⟨tb_3 (List.mem_of_getElem? (i := 25) rfl), tb_1 (List.mem_of_getElem? (i := 3) rfl), by decide +kernel, by decide⟩
set_option maxRecDepth 100000 in
theorem kT_37 : xkVN RxT 37 RxQ yQ_spokenTo bQ_spokenTo 4 (some .long) 3 := ⟨xk_Q_spokenTo, tb_3 (List.mem_of_getElem? (i := 22) rfl), tb_3 (List.mem_of_getElem? (i := 24) rfl), tb_0 (List.mem_of_getElem? (i := 33) rfl)⟩
set_option maxRecDepth 100000 in
theorem xk_A_misuseOfPlainStep : xk yA_misuseOfPlainStep bA_misuseOfPlainStep 2 (some .int) 1 := ⟨tb_2 (List.mem_of_getElem? (i := 73) rfl), tb_1 (List.mem_of_getElem? (i := 1) rfl), by decide +kernel, by decide⟩
set_option maxRecDepth 100000 in
theorem kA_101 : xkV RxA 101 RxA yA_misuseOfPlainStep bA_misuseOfPlainStep 2 (some .int) 1 := ⟨xk_A_misuseOfPlainStep, tb_2 (List.mem_of_getElem? (i := 70) rfl), tb_2 (List.mem_of_getElem? (i := 72) rfl), tb_0 (List.mem_of_getElem? (i := 0) rfl)⟩
set_option maxRecDepth 100000 in
theorem xk_A_idleWith : xk yA_idleWith bA_idleWith 2 (some .int) 1 := ⟨tb_2 (List.mem_of_getElem? (i := 96) rfl), tb_1 (List.mem_of_getElem? (i := 1) rfl), by decide +kernel, by decide⟩
set_option maxRecDepth 100000 in
theorem kA_112 : xkV RxA 112 RxA yA_idleWith bA_idleWith 2 (some .int) 1 := ⟨xk_A_idleWith, tb_2 (List.mem_of_getElem? (i := 93) rfl), tb_2 (List.mem_of_getElem? (i := 95) rfl), tb_0 (List.mem_of_getElem? (i := 5) rfl)⟩
set_option maxRecDepth 100000 in
theorem xk_H_takenBy : xk yH_takenBy bH_takenBy 1 (some .int) 1 := ⟨tb_2 (List.mem_of_getElem? (i := 107) rfl), tb_1 (List.mem_of_getElem? (i := 13) rfl), by decide +kernel, by decide⟩
set_option maxRecDepth 100000 in
theorem kA_116 : xkSN RxA 116 yH_takenBy bH_takenBy 1 (some .int) 1 := ⟨xk_H_takenBy, tb_2 (List.mem_of_getElem? (i := 105) rfl), tb_2 (List.mem_of_getElem? (i := 106) rfl)⟩
set_option maxRecDepth 100000 in
theorem xk_K_hasRoomFor : xk yK_hasRoomFor bK_hasRoomFor 4 (some .boolean) 1 := ⟨tb_2 (List.mem_of_getElem? (i := 111) rfl), tb_1 (List.mem_of_getElem? (i := 2) rfl), by decide +kernel, by decide⟩
set_option maxRecDepth 100000 in
theorem kA_124 : xkVN RxA 124 RxK yK_hasRoomFor bK_hasRoomFor 4 (some .boolean) 1 := ⟨xk_K_hasRoomFor, tb_2 (List.mem_of_getElem? (i := 108) rfl), tb_2 (List.mem_of_getElem? (i := 110) rfl), tb_0 (List.mem_of_getElem? (i := 6) rfl)⟩
set_option maxRecDepth 100000 in
theorem xk_A_lacksAnswers : xk yA_lacksAnswers bA_lacksAnswers 1 (some .boolean) 0 := ⟨tb_2 (List.mem_of_getElem? (i := 81) rfl), tb_1 (List.mem_of_getElem? (i := 1) rfl), by decide +kernel, by decide⟩
set_option maxRecDepth 100000 in
theorem kA_128 : xkV RxA 128 RxA yA_lacksAnswers bA_lacksAnswers 1 (some .boolean) 0 := ⟨xk_A_lacksAnswers, tb_2 (List.mem_of_getElem? (i := 78) rfl), tb_2 (List.mem_of_getElem? (i := 80) rfl), tb_0 (List.mem_of_getElem? (i := 2) rfl)⟩
set_option maxRecDepth 100000 in
theorem xk_A_misuseIf : xk yA_misuseIf bA_misuseIf 4 (some .int) 3 := ⟨tb_2 (List.mem_of_getElem? (i := 92) rfl), tb_1 (List.mem_of_getElem? (i := 1) rfl), by decide +kernel, by decide⟩
set_option maxRecDepth 100000 in
theorem kA_132 : xkV RxA 132 RxA yA_misuseIf bA_misuseIf 4 (some .int) 3 := ⟨xk_A_misuseIf, tb_2 (List.mem_of_getElem? (i := 89) rfl), tb_2 (List.mem_of_getElem? (i := 91) rfl), tb_0 (List.mem_of_getElem? (i := 4) rfl)⟩
set_option maxRecDepth 100000 in
theorem xk_K_pop : xk yK_pop bK_pop 1 (some (.object "StandIns$Matcher")) 0 := ⟨tb_2 (List.mem_of_getElem? (i := 119) rfl), tb_1 (List.mem_of_getElem? (i := 2) rfl), by decide +kernel, by decide⟩
set_option maxRecDepth 100000 in
theorem kA_136 : xkVN RxA 136 RxK yK_pop bK_pop 1 (some (.object "StandIns$Matcher")) 0 := ⟨xk_K_pop, tb_2 (List.mem_of_getElem? (i := 116) rfl), tb_2 (List.mem_of_getElem? (i := 118) rfl), tb_0 (List.mem_of_getElem? (i := 7) rfl)⟩
set_option maxRecDepth 100000 in
theorem xk_H_init : xk yH_init bH_init 5 none 4 := ⟨tb_2 (List.mem_of_getElem? (i := 124) rfl), tb_1 (List.mem_of_getElem? (i := 13) rfl), by decide +kernel, by decide⟩
set_option maxRecDepth 100000 in
theorem kA_140 : xkIN RxA 140 yH_init bH_init 5 4 := ⟨xk_H_init, tb_2 (List.mem_of_getElem? (i := 122) rfl), tb_2 (List.mem_of_getElem? (i := 123) rfl), rfl⟩
set_option maxRecDepth 100000 in
theorem xk_K_push : xk yK_push bK_push 2 none 1 := ⟨tb_2 (List.mem_of_getElem? (i := 146) rfl), tb_1 (List.mem_of_getElem? (i := 2) rfl), by decide +kernel, by decide⟩
set_option maxRecDepth 100000 in
theorem kA_143 : xkVN RxA 143 RxK yK_push bK_push 2 none 1 := ⟨xk_K_push, tb_2 (List.mem_of_getElem? (i := 143) rfl), tb_2 (List.mem_of_getElem? (i := 145) rfl), tb_0 (List.mem_of_getElem? (i := 8) rfl)⟩
set_option maxRecDepth 100000 in
theorem xk_A_awaitsCall : xk yA_awaitsCall bA_awaitsCall 1 (some .boolean) 0 := ⟨tb_2 (List.mem_of_getElem? (i := 77) rfl), tb_1 (List.mem_of_getElem? (i := 1) rfl), by decide +kernel, by decide⟩
set_option maxRecDepth 100000 in
theorem kA_147 : xkV RxA 147 RxA yA_awaitsCall bA_awaitsCall 1 (some .boolean) 0 := ⟨xk_A_awaitsCall, tb_2 (List.mem_of_getElem? (i := 74) rfl), tb_2 (List.mem_of_getElem? (i := 76) rfl), tb_0 (List.mem_of_getElem? (i := 1) rfl)⟩
set_option maxRecDepth 100000 in
theorem xk_A_isStandIn : xk yA_isStandIn bA_isStandIn 2 (some .boolean) 1 := ⟨tb_2 (List.mem_of_getElem? (i := 154) rfl), tb_1 (List.mem_of_getElem? (i := 1) rfl), by decide +kernel, by decide⟩
set_option maxRecDepth 100000 in
theorem kA_150 : xkV RxA 150 RxA yA_isStandIn bA_isStandIn 2 (some .boolean) 1 := ⟨xk_A_isStandIn, tb_2 (List.mem_of_getElem? (i := 151) rfl), tb_2 (List.mem_of_getElem? (i := 153) rfl), tb_0 (List.mem_of_getElem? (i := 9) rfl)⟩
set_option maxRecDepth 100000 in
theorem xk_A_hasNoRoomForCallOf : xk yA_hasNoRoomForCallOf bA_hasNoRoomForCallOf 2 (some .boolean) 1 := ⟨tb_2 (List.mem_of_getElem? (i := 159) rfl), tb_1 (List.mem_of_getElem? (i := 1) rfl), by decide +kernel, by decide⟩
set_option maxRecDepth 100000 in
theorem kA_155 : xkV RxA 155 RxA yA_hasNoRoomForCallOf bA_hasNoRoomForCallOf 2 (some .boolean) 1 := ⟨xk_A_hasNoRoomForCallOf, tb_2 (List.mem_of_getElem? (i := 156) rfl), tb_2 (List.mem_of_getElem? (i := 158) rfl), tb_0 (List.mem_of_getElem? (i := 10) rfl)⟩
set_option maxRecDepth 100000 in
theorem xk_A_methodOf : xk yA_methodOf bA_methodOf 3 (some (.object "StandIns$Method")) 2 := ⟨tb_2 (List.mem_of_getElem? (i := 164) rfl), tb_1 (List.mem_of_getElem? (i := 1) rfl), by decide +kernel, by decide⟩
set_option maxRecDepth 100000 in
theorem kA_160 : xkV RxA 160 RxA yA_methodOf bA_methodOf 3 (some (.object "StandIns$Method")) 2 := ⟨xk_A_methodOf, tb_2 (List.mem_of_getElem? (i := 161) rfl), tb_2 (List.mem_of_getElem? (i := 163) rfl), tb_0 (List.mem_of_getElem? (i := 11) rfl)⟩
set_option maxRecDepth 100000 in
theorem xk_A_misuseOfCall : xk yA_misuseOfCall bA_misuseOfCall 5 (some .int) 2 := ⟨tb_2 (List.mem_of_getElem? (i := 168) rfl), tb_1 (List.mem_of_getElem? (i := 1) rfl), by decide +kernel, by decide⟩
set_option maxRecDepth 100000 in
theorem kA_164 : xkV RxA 164 RxA yA_misuseOfCall bA_misuseOfCall 5 (some .int) 2 := ⟨xk_A_misuseOfCall, tb_2 (List.mem_of_getElem? (i := 165) rfl), tb_2 (List.mem_of_getElem? (i := 167) rfl), tb_0 (List.mem_of_getElem? (i := 12) rfl)⟩
set_option maxRecDepth 100000 in
theorem xk_A_matcherOf : xk yA_matcherOf bA_matcherOf 4 (some (.object "StandIns$Matcher")) 3 := ⟨tb_2 (List.mem_of_getElem? (i := 181) rfl), tb_1 (List.mem_of_getElem? (i := 1) rfl), by decide +kernel, by decide⟩
set_option maxRecDepth 100000 in
theorem kA_176 : xkV RxA 176 RxA yA_matcherOf bA_matcherOf 4 (some (.object "StandIns$Matcher")) 3 := ⟨xk_A_matcherOf, tb_2 (List.mem_of_getElem? (i := 178) rfl), tb_2 (List.mem_of_getElem? (i := 180) rfl), tb_0 (List.mem_of_getElem? (i := 15) rfl)⟩
set_option maxRecDepth 100000 in
theorem xk_A_tellPrepared : xk yA_tellPrepared bA_tellPrepared 1 (some .long) 0 := ⟨tb_2 (List.mem_of_getElem? (i := 185) rfl), tb_1 (List.mem_of_getElem? (i := 1) rfl), by decide +kernel, by decide⟩
set_option maxRecDepth 100000 in
theorem kA_187 : xkV RxA 187 RxA yA_tellPrepared bA_tellPrepared 1 (some .long) 0 := ⟨xk_A_tellPrepared, tb_2 (List.mem_of_getElem? (i := 182) rfl), tb_2 (List.mem_of_getElem? (i := 184) rfl), tb_0 (List.mem_of_getElem? (i := 16) rfl)⟩
set_option maxRecDepth 100000 in
theorem xk_A_doCheck : xk yA_doCheck bA_doCheck 1 (some .long) 0 := ⟨tb_2 (List.mem_of_getElem? (i := 205) rfl), tb_1 (List.mem_of_getElem? (i := 1) rfl), by decide +kernel, by decide⟩
set_option maxRecDepth 100000 in
theorem kA_191 : xkV RxA 191 RxA yA_doCheck bA_doCheck 1 (some .long) 0 := ⟨xk_A_doCheck, tb_2 (List.mem_of_getElem? (i := 202) rfl), tb_2 (List.mem_of_getElem? (i := 204) rfl), tb_0 (List.mem_of_getElem? (i := 21) rfl)⟩
set_option maxRecDepth 100000 in
theorem xk_A_noteAndAnswer : xk yA_noteAndAnswer bA_noteAndAnswer 5 (some .long) 3 := ⟨tb_3 (List.mem_of_getElem? (i := 9) rfl), tb_1 (List.mem_of_getElem? (i := 1) rfl), by decide +kernel, by decide⟩
set_option maxRecDepth 100000 in
theorem kA_194 : xkV RxA 194 RxA yA_noteAndAnswer bA_noteAndAnswer 5 (some .long) 3 := ⟨xk_A_noteAndAnswer, tb_3 (List.mem_of_getElem? (i := 6) rfl), tb_3 (List.mem_of_getElem? (i := 8) rfl), tb_0 (List.mem_of_getElem? (i := 29) rfl)⟩
set_option maxRecDepth 100000 in
theorem xk_B_takeBackLast : xk yB_takeBackLast bB_takeBackLast 1 none 0 := ⟨tb_3 (List.mem_of_getElem? (i := 40) rfl), tb_1 (List.mem_of_getElem? (i := 4) rfl), by decide +kernel, by decide⟩
set_option maxRecDepth 100000 in
theorem kA_198 : xkVN RxA 198 RxB yB_takeBackLast bB_takeBackLast 1 none 0 := ⟨xk_B_takeBackLast, tb_3 (List.mem_of_getElem? (i := 37) rfl), tb_3 (List.mem_of_getElem? (i := 39) rfl), tb_0 (List.mem_of_getElem? (i := 35) rfl)⟩
set_option maxRecDepth 100000 in
theorem xk_A_beginTelling : xk yA_beginTelling bA_beginTelling 1 none 0 := ⟨tb_2 (List.mem_of_getElem? (i := 189) rfl), tb_1 (List.mem_of_getElem? (i := 1) rfl), by decide +kernel, by decide⟩
set_option maxRecDepth 100000 in
theorem kA_201 : xkV RxA 201 RxA yA_beginTelling bA_beginTelling 1 none 0 := ⟨xk_A_beginTelling, tb_2 (List.mem_of_getElem? (i := 186) rfl), tb_2 (List.mem_of_getElem? (i := 188) rfl), tb_0 (List.mem_of_getElem? (i := 17) rfl)⟩
set_option maxRecDepth 100000 in
theorem xk_A_isAnswer : xk yA_isAnswer bA_isAnswer 2 (some .boolean) 2 := ⟨tb_3 (List.mem_of_getElem? (i := 47) rfl), tb_1 (List.mem_of_getElem? (i := 1) rfl), by decide +kernel, by decide⟩
set_option maxRecDepth 100000 in
theorem kA_204 : xkS RxA 204 yA_isAnswer bA_isAnswer 2 (some .boolean) 2 := ⟨xk_A_isAnswer, tb_3 (List.mem_of_getElem? (i := 45) rfl), tb_3 (List.mem_of_getElem? (i := 46) rfl)⟩
set_option maxRecDepth 100000 in
theorem xk_A_latestTelling : xk yA_latestTelling bA_latestTelling 1 (some (.object "StandIns$Telling")) 0 := ⟨tb_2 (List.mem_of_getElem? (i := 85) rfl), tb_1 (List.mem_of_getElem? (i := 1) rfl), by decide +kernel, by decide⟩
set_option maxRecDepth 100000 in
theorem kA_207 : xkV RxA 207 RxA yA_latestTelling bA_latestTelling 1 (some (.object "StandIns$Telling")) 0 := ⟨xk_A_latestTelling, tb_2 (List.mem_of_getElem? (i := 82) rfl), tb_2 (List.mem_of_getElem? (i := 84) rfl), tb_0 (List.mem_of_getElem? (i := 3) rfl)⟩
set_option maxRecDepth 100000 in
theorem kA_215 : xkVN RxA 215 RxD yD_canDo bD_canDo 3 (some .boolean) 2 := ⟨xk_D_canDo, tb_3 (List.mem_of_getElem? (i := 48) rfl), tb_2 (List.mem_of_getElem? (i := 175) rfl), tb_0 (List.mem_of_getElem? (i := 14) rfl)⟩
set_option maxRecDepth 100000 in
theorem kA_218 : xkVN RxA 218 RxQ yQ_add bQ_add 3 none 2 := ⟨xk_Q_add, tb_3 (List.mem_of_getElem? (i := 49) rfl), tb_2 (List.mem_of_getElem? (i := 200) rfl), tb_0 (List.mem_of_getElem? (i := 20) rfl)⟩
set_option maxRecDepth 100000 in
theorem xk_B_firstUnseenOf : xk yB_firstUnseenOf bB_firstUnseenOf 3 (some .int) 1 := ⟨tb_3 (List.mem_of_getElem? (i := 65) rfl), tb_1 (List.mem_of_getElem? (i := 4) rfl), by decide +kernel, by decide⟩
set_option maxRecDepth 100000 in
theorem kA_222 : xkVN RxA 222 RxB yB_firstUnseenOf bB_firstUnseenOf 3 (some .int) 1 := ⟨xk_B_firstUnseenOf, tb_3 (List.mem_of_getElem? (i := 62) rfl), tb_3 (List.mem_of_getElem? (i := 64) rfl), tb_0 (List.mem_of_getElem? (i := 36) rfl)⟩
set_option maxRecDepth 100000 in
theorem xk_C_beforeLatest : xk yC_beforeLatest bC_beforeLatest 3 (some .int) 1 := ⟨tb_3 (List.mem_of_getElem? (i := 89) rfl), tb_1 (List.mem_of_getElem? (i := 7) rfl), by decide +kernel, by decide⟩
set_option maxRecDepth 100000 in
theorem kA_271 : xkVN RxA 271 RxC yC_beforeLatest bC_beforeLatest 3 (some .int) 1 := ⟨xk_C_beforeLatest, tb_3 (List.mem_of_getElem? (i := 86) rfl), tb_3 (List.mem_of_getElem? (i := 88) rfl), tb_0 (List.mem_of_getElem? (i := 37) rfl)⟩
set_option maxRecDepth 100000 in
theorem xk_A_tellingsNeverUsed : xk yA_tellingsNeverUsed bA_tellingsNeverUsed 3 (some .int) 0 := ⟨tb_3 (List.mem_of_getElem? (i := 97) rfl), tb_1 (List.mem_of_getElem? (i := 1) rfl), by decide +kernel, by decide⟩
set_option maxRecDepth 100000 in
theorem kA_274 : xkV RxA 274 RxA yA_tellingsNeverUsed bA_tellingsNeverUsed 3 (some .int) 0 := ⟨xk_A_tellingsNeverUsed, tb_3 (List.mem_of_getElem? (i := 94) rfl), tb_3 (List.mem_of_getElem? (i := 96) rfl), tb_0 (List.mem_of_getElem? (i := 38) rfl)⟩
set_option maxRecDepth 100000 in
theorem xk_Q_allDoFor : xk yQ_allDoFor bQ_allDoFor 3 (some .boolean) 1 := ⟨tb_2 (List.mem_of_getElem? (i := 172) rfl), tb_1 (List.mem_of_getElem? (i := 3) rfl), by decide +kernel, by decide⟩
set_option maxRecDepth 100000 in
theorem kA_281 : xkVN RxA 281 RxQ yQ_allDoFor bQ_allDoFor 3 (some .boolean) 1 := ⟨xk_Q_allDoFor, tb_2 (List.mem_of_getElem? (i := 169) rfl), tb_2 (List.mem_of_getElem? (i := 171) rfl), tb_0 (List.mem_of_getElem? (i := 13) rfl)⟩
set_option maxRecDepth 100000 in
theorem xk_P_copy : xk yP_copy bP_copy 2 none 1 := ⟨tb_2 (List.mem_of_getElem? (i := 193) rfl), tb_1 (List.mem_of_getElem? (i := 8) rfl), by decide +kernel, by decide⟩
set_option maxRecDepth 100000 in
theorem kA_291 : xkVN RxA 291 RxP yP_copy bP_copy 2 none 1 := ⟨xk_P_copy, tb_2 (List.mem_of_getElem? (i := 190) rfl), tb_2 (List.mem_of_getElem? (i := 192) rfl), tb_0 (List.mem_of_getElem? (i := 18) rfl)⟩
set_option maxRecDepth 100000 in
theorem xk_Q_takeAllOf : xk yQ_takeAllOf bQ_takeAllOf 3 none 1 := ⟨tb_2 (List.mem_of_getElem? (i := 197) rfl), tb_1 (List.mem_of_getElem? (i := 3) rfl), by decide +kernel, by decide⟩
set_option maxRecDepth 100000 in
theorem kA_295 : xkVN RxA 295 RxQ yQ_takeAllOf bQ_takeAllOf 3 none 1 := ⟨xk_Q_takeAllOf, tb_2 (List.mem_of_getElem? (i := 194) rfl), tb_2 (List.mem_of_getElem? (i := 196) rfl), tb_0 (List.mem_of_getElem? (i := 19) rfl)⟩
set_option maxRecDepth 100000 in
theorem xk_P_matches : xk yP_matches bP_matches 2 (some .boolean) 1 := ⟨tb_2 (List.mem_of_getElem? (i := 213) rfl), tb_1 (List.mem_of_getElem? (i := 8) rfl), by decide +kernel, by decide⟩
set_option maxRecDepth 100000 in
theorem kA_299 : xkVN RxA 299 RxP yP_matches bP_matches 2 (some .boolean) 1 := ⟨xk_P_matches, tb_2 (List.mem_of_getElem? (i := 210) rfl), tb_2 (List.mem_of_getElem? (i := 212) rfl), tb_0 (List.mem_of_getElem? (i := 23) rfl)⟩
set_option maxRecDepth 100000 in
theorem xk_B_add : xk yB_add bB_add 5 (some (.object "StandIns$Note")) 3 := ⟨tb_3 (List.mem_of_getElem? (i := 13) rfl), tb_1 (List.mem_of_getElem? (i := 4) rfl), by decide +kernel, by decide⟩
set_option maxRecDepth 100000 in
theorem kA_307 : xkVN RxA 307 RxB yB_add bB_add 5 (some (.object "StandIns$Note")) 3 := ⟨xk_B_add, tb_3 (List.mem_of_getElem? (i := 10) rfl), tb_3 (List.mem_of_getElem? (i := 12) rfl), tb_0 (List.mem_of_getElem? (i := 30) rfl)⟩
set_option maxRecDepth 100000 in
theorem xk_A_tellingFor : xk yA_tellingFor bA_tellingFor 3 (some .int) 1 := ⟨tb_3 (List.mem_of_getElem? (i := 17) rfl), tb_1 (List.mem_of_getElem? (i := 1) rfl), by decide +kernel, by decide⟩
set_option maxRecDepth 100000 in
theorem kA_310 : xkV RxA 310 RxA yA_tellingFor bA_tellingFor 3 (some .int) 1 := ⟨xk_A_tellingFor, tb_3 (List.mem_of_getElem? (i := 14) rfl), tb_3 (List.mem_of_getElem? (i := 16) rfl), tb_0 (List.mem_of_getElem? (i := 31) rfl)⟩
set_option maxRecDepth 100000 in
theorem xk_T_answerTo : xk yT_answerTo bT_answerTo 4 (some .long) 2 := ⟨tb_3 (List.mem_of_getElem? (i := 21) rfl), tb_1 (List.mem_of_getElem? (i := 10) rfl), by decide +kernel, by decide⟩
set_option maxRecDepth 100000 in
theorem kA_314 : xkVN RxA 314 RxT yT_answerTo bT_answerTo 4 (some .long) 2 := ⟨xk_T_answerTo, tb_3 (List.mem_of_getElem? (i := 18) rfl), tb_3 (List.mem_of_getElem? (i := 20) rfl), tb_0 (List.mem_of_getElem? (i := 32) rfl)⟩
set_option maxRecDepth 100000 in
theorem kA_318 : xkVN RxA 318 RxD yD_realResult bD_realResult 2 (some .int) 1 := ⟨xk_D_realResult, tb_3 (List.mem_of_getElem? (i := 31) rfl), tb_3 (List.mem_of_getElem? (i := 29) rfl), tb_0 (List.mem_of_getElem? (i := 34) rfl)⟩
set_option maxRecDepth 100000 in
theorem xk_A_findAbove : xk yA_findAbove bA_findAbove 4 none 1 := ⟨tb_2 (List.mem_of_getElem? (i := 209) rfl), tb_1 (List.mem_of_getElem? (i := 1) rfl), by decide +kernel, by decide⟩
set_option maxRecDepth 100000 in
theorem kA_323 : xkV RxA 323 RxA yA_findAbove bA_findAbove 4 none 1 := ⟨xk_A_findAbove, tb_2 (List.mem_of_getElem? (i := 206) rfl), tb_2 (List.mem_of_getElem? (i := 208) rfl), tb_0 (List.mem_of_getElem? (i := 22) rfl)⟩
set_option maxRecDepth 100000 in
theorem xk_A_passes : xk yA_passes bA_passes 1 (some .boolean) 0 := ⟨tb_2 (List.mem_of_getElem? (i := 225) rfl), tb_1 (List.mem_of_getElem? (i := 1) rfl), by decide +kernel, by decide⟩
set_option maxRecDepth 100000 in
theorem kA_327 : xkV RxA 327 RxA yA_passes bA_passes 1 (some .boolean) 0 := ⟨xk_A_passes, tb_2 (List.mem_of_getElem? (i := 222) rfl), tb_2 (List.mem_of_getElem? (i := 224) rfl), tb_0 (List.mem_of_getElem? (i := 25) rfl)⟩
set_option maxRecDepth 100000 in
theorem xk_A_seeAndCatch : xk yA_seeAndCatch bA_seeAndCatch 3 none 0 := ⟨tb_2 (List.mem_of_getElem? (i := 233) rfl), tb_1 (List.mem_of_getElem? (i := 1) rfl), by decide +kernel, by decide⟩
set_option maxRecDepth 100000 in
theorem kA_330 : xkV RxA 330 RxA yA_seeAndCatch bA_seeAndCatch 3 none 0 := ⟨xk_A_seeAndCatch, tb_2 (List.mem_of_getElem? (i := 230) rfl), tb_2 (List.mem_of_getElem? (i := 232) rfl), tb_0 (List.mem_of_getElem? (i := 27) rfl)⟩
set_option maxRecDepth 100000 in
theorem xk_F_add : xk yF_add bF_add 3 none 2 := ⟨tb_2 (List.mem_of_getElem? (i := 221) rfl), tb_1 (List.mem_of_getElem? (i := 6) rfl), by decide +kernel, by decide⟩
set_option maxRecDepth 100000 in
theorem kA_337 : xkVN RxA 337 RxF yF_add bF_add 3 none 2 := ⟨xk_F_add, tb_2 (List.mem_of_getElem? (i := 218) rfl), tb_2 (List.mem_of_getElem? (i := 220) rfl), tb_0 (List.mem_of_getElem? (i := 24) rfl)⟩
set_option maxRecDepth 100000 in
theorem xk_B_manyOf : xk yB_manyOf bB_manyOf 4 (some .int) 1 := ⟨tb_2 (List.mem_of_getElem? (i := 229) rfl), tb_1 (List.mem_of_getElem? (i := 4) rfl), by decide +kernel, by decide⟩
set_option maxRecDepth 100000 in
theorem kA_338 : xkVN RxA 338 RxB yB_manyOf bB_manyOf 4 (some .int) 1 := ⟨xk_B_manyOf, tb_2 (List.mem_of_getElem? (i := 226) rfl), tb_2 (List.mem_of_getElem? (i := 228) rfl), tb_0 (List.mem_of_getElem? (i := 26) rfl)⟩
set_option maxRecDepth 100000 in
theorem xk_H_isCatch : xk yH_isCatch bH_isCatch 1 (some .boolean) 1 := ⟨tb_2 (List.mem_of_getElem? (i := 236) rfl), tb_1 (List.mem_of_getElem? (i := 13) rfl), by decide +kernel, by decide⟩
set_option maxRecDepth 100000 in
theorem kA_344 : xkSN RxA 344 yH_isCatch bH_isCatch 1 (some .boolean) 1 := ⟨xk_H_isCatch, tb_2 (List.mem_of_getElem? (i := 234) rfl), tb_2 (List.mem_of_getElem? (i := 235) rfl)⟩
set_option maxRecDepth 100000 in
theorem xk_C_add : xk yC_add bC_add 2 none 1 := ⟨tb_3 (List.mem_of_getElem? (i := 0) rfl), tb_1 (List.mem_of_getElem? (i := 7) rfl), by decide +kernel, by decide⟩
set_option maxRecDepth 100000 in
theorem kA_348 : xkVN RxA 348 RxC yC_add bC_add 2 none 1 := ⟨xk_C_add, tb_2 (List.mem_of_getElem? (i := 237) rfl), tb_2 (List.mem_of_getElem? (i := 239) rfl), tb_0 (List.mem_of_getElem? (i := 28) rfl)⟩
set_option maxRecDepth 100000 in
theorem xk_A_isBelow : xk yA_isBelow bA_isBelow 2 (some .boolean) 2 := ⟨tb_2 (List.mem_of_getElem? (i := 69) rfl), tb_1 (List.mem_of_getElem? (i := 1) rfl), by decide +kernel, by decide⟩
set_option maxRecDepth 100000 in
theorem kA_97 : xkS RxA 97 yA_isBelow bA_isBelow 2 (some .boolean) 2 := ⟨xk_A_isBelow, tb_2 (List.mem_of_getElem? (i := 67) rfl), tb_2 (List.mem_of_getElem? (i := 68) rfl)⟩
set_option maxRecDepth 100000 in
theorem xk_M_misuse : xk yM_misuse bM_misuse 7 (some .int) 4 := ⟨tb_3 (List.mem_of_getElem? (i := 237) rfl), tb_1 (List.mem_of_getElem? (i := 11) rfl), by decide +kernel, by decide⟩
set_option maxRecDepth 100000 in
theorem kM_102 : xkV RxM 102 RxM yM_misuse bM_misuse 7 (some .int) 4 := ⟨xk_M_misuse, tb_3 (List.mem_of_getElem? (i := 234) rfl), tb_3 (List.mem_of_getElem? (i := 236) rfl), tb_0 (List.mem_of_getElem? (i := 40) rfl)⟩
set_option maxRecDepth 100000 in
theorem xk_M_in : xk yM_in bM_in 3 (some .boolean) 3 := ⟨tb_3 (List.mem_of_getElem? (i := 229) rfl), tb_1 (List.mem_of_getElem? (i := 11) rfl), by decide +kernel, by decide⟩
set_option maxRecDepth 100000 in
theorem kM_106 : xkS RxM 106 yM_in bM_in 3 (some .boolean) 3 := ⟨xk_M_in, tb_3 (List.mem_of_getElem? (i := 227) rfl), tb_3 (List.mem_of_getElem? (i := 228) rfl)⟩
set_option maxRecDepth 100000 in
theorem xk_M_other : xk yM_other bM_other 3 (some .int) 1 := ⟨tb_3 (List.mem_of_getElem? (i := 233) rfl), tb_1 (List.mem_of_getElem? (i := 11) rfl), by decide +kernel, by decide⟩
set_option maxRecDepth 100000 in
theorem kM_113 : xkV RxM 113 RxM yM_other bM_other 3 (some .int) 1 := ⟨xk_M_other, tb_3 (List.mem_of_getElem? (i := 230) rfl), tb_3 (List.mem_of_getElem? (i := 232) rfl), tb_0 (List.mem_of_getElem? (i := 39) rfl)⟩
set_option maxRecDepth 100000 in
theorem xk_M_single : xk yM_single bM_single 4 none 3 := ⟨tb_4 (List.mem_of_getElem? (i := 9) rfl), tb_1 (List.mem_of_getElem? (i := 11) rfl), by decide +kernel, by decide⟩
set_option maxRecDepth 100000 in
theorem kM_117 : xkV RxM 117 RxM yM_single bM_single 4 none 3 := ⟨xk_M_single, tb_4 (List.mem_of_getElem? (i := 6) rfl), tb_4 (List.mem_of_getElem? (i := 8) rfl), tb_0 (List.mem_of_getElem? (i := 41) rfl)⟩
set_option maxRecDepth 100000 in
theorem xk_M_copy : xk yM_copy bM_copy 5 none 3 := ⟨tb_4 (List.mem_of_getElem? (i := 13) rfl), tb_1 (List.mem_of_getElem? (i := 11) rfl), by decide +kernel, by decide⟩
set_option maxRecDepth 100000 in
theorem kM_121 : xkV RxM 121 RxM yM_copy bM_copy 5 none 3 := ⟨xk_M_copy, tb_4 (List.mem_of_getElem? (i := 10) rfl), tb_4 (List.mem_of_getElem? (i := 12) rfl), tb_0 (List.mem_of_getElem? (i := 42) rfl)⟩
set_option maxRecDepth 100000 in
theorem xk_M_matches : xk yM_matches bM_matches 10 (some .boolean) 2 := ⟨tb_4 (List.mem_of_getElem? (i := 48) rfl), tb_1 (List.mem_of_getElem? (i := 11) rfl), by decide +kernel, by decide⟩
set_option maxRecDepth 100000 in
theorem kM_124 : xkV RxM 124 RxM yM_matches bM_matches 10 (some .boolean) 2 := ⟨xk_M_matches, tb_4 (List.mem_of_getElem? (i := 45) rfl), tb_4 (List.mem_of_getElem? (i := 47) rfl), tb_0 (List.mem_of_getElem? (i := 49) rfl)⟩
set_option maxRecDepth 100000 in
theorem xk_M_shape : xk yM_shape bM_shape 3 (some .int) 2 := ⟨tb_4 (List.mem_of_getElem? (i := 23) rfl), tb_1 (List.mem_of_getElem? (i := 11) rfl), by decide +kernel, by decide⟩
set_option maxRecDepth 100000 in
theorem kM_135 : xkV RxM 135 RxM yM_shape bM_shape 3 (some .int) 2 := ⟨xk_M_shape, tb_4 (List.mem_of_getElem? (i := 20) rfl), tb_4 (List.mem_of_getElem? (i := 22) rfl), tb_0 (List.mem_of_getElem? (i := 43) rfl)⟩
set_option maxRecDepth 100000 in
theorem xk_M_willNotDo : xk yM_willNotDo bM_willNotDo 5 (some .boolean) 3 := ⟨tb_4 (List.mem_of_getElem? (i := 27) rfl), tb_1 (List.mem_of_getElem? (i := 11) rfl), by decide +kernel, by decide⟩
set_option maxRecDepth 100000 in
theorem kM_139 : xkV RxM 139 RxM yM_willNotDo bM_willNotDo 5 (some .boolean) 3 := ⟨xk_M_willNotDo, tb_4 (List.mem_of_getElem? (i := 24) rfl), tb_4 (List.mem_of_getElem? (i := 26) rfl), tb_0 (List.mem_of_getElem? (i := 44) rfl)⟩
set_option maxRecDepth 100000 in
theorem xk_M_tell : xk yM_tell bM_tell 7 none 3 := ⟨tb_4 (List.mem_of_getElem? (i := 32) rfl), tb_1 (List.mem_of_getElem? (i := 11) rfl), by decide +kernel, by decide⟩
set_option maxRecDepth 100000 in
theorem kM_144 : xkV RxM 144 RxM yM_tell bM_tell 7 none 3 := ⟨xk_M_tell, tb_4 (List.mem_of_getElem? (i := 29) rfl), tb_4 (List.mem_of_getElem? (i := 31) rfl), tb_0 (List.mem_of_getElem? (i := 45) rfl)⟩
set_option maxRecDepth 100000 in
theorem xk_M_check_Z2 : xk yM_check_Z2 bM_check_Z2 8 (some .boolean) 2 := ⟨tb_4 (List.mem_of_getElem? (i := 40) rfl), tb_1 (List.mem_of_getElem? (i := 11) rfl), by decide +kernel, by decide⟩
set_option maxRecDepth 100000 in
theorem kM_147 : xkV RxM 147 RxM yM_check_Z2 bM_check_Z2 8 (some .boolean) 2 := ⟨xk_M_check_Z2, tb_4 (List.mem_of_getElem? (i := 37) rfl), tb_4 (List.mem_of_getElem? (i := 39) rfl), tb_0 (List.mem_of_getElem? (i := 47) rfl)⟩
set_option maxRecDepth 100000 in
theorem xk_M_note : xk yM_note bM_note 7 none 4 := ⟨tb_4 (List.mem_of_getElem? (i := 54) rfl), tb_1 (List.mem_of_getElem? (i := 11) rfl), by decide +kernel, by decide⟩
set_option maxRecDepth 100000 in
theorem kM_154 : xkV RxM 154 RxM yM_note bM_note 7 none 4 := ⟨xk_M_note, tb_4 (List.mem_of_getElem? (i := 51) rfl), tb_4 (List.mem_of_getElem? (i := 53) rfl), tb_0 (List.mem_of_getElem? (i := 50) rfl)⟩
set_option maxRecDepth 100000 in
theorem xk_M_answered : xk yM_answered bM_answered 11 (some .long) 1 := ⟨tb_4 (List.mem_of_getElem? (i := 58) rfl), tb_1 (List.mem_of_getElem? (i := 11) rfl), by decide +kernel, by decide⟩
set_option maxRecDepth 100000 in
theorem kM_158 : xkV RxM 158 RxM yM_answered bM_answered 11 (some .long) 1 := ⟨xk_M_answered, tb_4 (List.mem_of_getElem? (i := 55) rfl), tb_4 (List.mem_of_getElem? (i := 57) rfl), tb_0 (List.mem_of_getElem? (i := 51) rfl)⟩
set_option maxRecDepth 100000 in
theorem xk_M_keep : xk yM_keep bM_keep 5 none 3 := ⟨tb_4 (List.mem_of_getElem? (i := 36) rfl), tb_1 (List.mem_of_getElem? (i := 11) rfl), by decide +kernel, by decide⟩
set_option maxRecDepth 100000 in
theorem kM_162 : xkV RxM 162 RxM yM_keep bM_keep 5 none 3 := ⟨xk_M_keep, tb_4 (List.mem_of_getElem? (i := 33) rfl), tb_4 (List.mem_of_getElem? (i := 35) rfl), tb_0 (List.mem_of_getElem? (i := 46) rfl)⟩
set_option maxRecDepth 100000 in
theorem xk_M_real : xk yM_real bM_real 4 (some .int) 3 := ⟨tb_4 (List.mem_of_getElem? (i := 62) rfl), tb_1 (List.mem_of_getElem? (i := 11) rfl), by decide +kernel, by decide⟩
set_option maxRecDepth 100000 in
theorem kM_168 : xkV RxM 168 RxM yM_real bM_real 4 (some .int) 3 := ⟨xk_M_real, tb_4 (List.mem_of_getElem? (i := 59) rfl), tb_4 (List.mem_of_getElem? (i := 61) rfl), tb_0 (List.mem_of_getElem? (i := 52) rfl)⟩
set_option maxRecDepth 100000 in
theorem xk_M_matchesCall : xk yM_matchesCall bM_matchesCall 6 (some .boolean) 4 := ⟨tb_4 (List.mem_of_getElem? (i := 44) rfl), tb_1 (List.mem_of_getElem? (i := 11) rfl), by decide +kernel, by decide⟩
set_option maxRecDepth 100000 in
theorem kM_172 : xkV RxM 172 RxM yM_matchesCall bM_matchesCall 6 (some .boolean) 4 := ⟨xk_M_matchesCall, tb_4 (List.mem_of_getElem? (i := 41) rfl), tb_4 (List.mem_of_getElem? (i := 43) rfl), tb_0 (List.mem_of_getElem? (i := 48) rfl)⟩
end
section
-- StandIns isBelow (II)Z
set_option maxRecDepth 100000 in
theorem dA_isBelow_0 : decode bA_isBelow 0 = .ok (.iload_n 0, 1) := by decide +kernel
set_option maxRecDepth 100000 in
theorem dA_isBelow_1 : decode bA_isBelow 1 = .ok (.ifCond .lt 12, 3) := by decide +kernel
set_option maxRecDepth 100000 in
theorem dA_isBelow_4 : decode bA_isBelow 4 = .ok (.iload_n 0, 1) := by decide +kernel
set_option maxRecDepth 100000 in
theorem dA_isBelow_5 : decode bA_isBelow 5 = .ok (.iload_n 1, 1) := by decide +kernel
set_option maxRecDepth 100000 in
theorem dA_isBelow_6 : decode bA_isBelow 6 = .ok (.if_icmp .ge 7, 3) := by decide +kernel
set_option maxRecDepth 100000 in
theorem dA_isBelow_9 : decode bA_isBelow 9 = .ok (.iconst 1, 1) := by decide +kernel
set_option maxRecDepth 100000 in
theorem dA_isBelow_10 : decode bA_isBelow 10 = .ok (.goto 4, 3) := by decide +kernel
set_option maxRecDepth 100000 in
theorem dA_isBelow_13 : decode bA_isBelow 13 = .ok (.iconst 0, 1) := by decide +kernel
set_option maxRecDepth 100000 in
theorem dA_isBelow_14 : decode bA_isBelow 14 = .ok (.ireturn, 1) := by decide +kernel
def fA_isBelow (a0 : Int32) (a1 : Int32) : Int32 :=
  if a0 < 0 then
  (0)
  else
  (if a1 ≤ a0 then
  (0)
  else
  (1))
set_option maxHeartbeats 4000000 in
set_option maxRecDepth 100000 in
theorem cA_isBelow (l : Launch) (E : xE) (σ : xS) (τ : yS) (a0 : Int32) (a1 : Int32) : xM l E yA_isBelow bA_isBelow 2 (some .boolean) 0 0 0 [.int a0, .int a1] σ τ (some (.int (fA_isBelow a0 a1))) σ τ := by
  refine x_met (by decide) (Nat.le_of_ble_eq_true rfl) (fun p e R s m args below meth c A ls H locs C hw hl => ?_)
  have hl : lv_has ls 2 [(0, .int a0), (1, .int a1)] := hl
  have hx := C.1
  have hb := C.2.1
  obtain ⟨res, hf⟩ : ∃ z, fA_isBelow a0 a1 = z := ⟨_, rfl⟩
  rw [hf]
  unfold fA_isBelow at hf
  refine lv_iload_n hx hb dA_isBelow_0 rfl (lv_at hl 0 rfl) ?_
  refine lv_if_lt (tgt := 13) hx hb dA_isBelow_1 (by decide) (fun c1 => ?_) (fun c1 => ?_)
  · replace hf := x_ip c1 hf
    refine lv_iconst (v := 0) hx hb dA_isBelow_13 (by decide) ?_
    obtain rfl := hf
    exact x_zret C hw rfl dA_isBelow_14
  · replace hf := x_in c1 hf
    refine lv_iload_n hx hb dA_isBelow_4 rfl (lv_at hl 0 rfl) ?_
    refine lv_iload_n hx hb dA_isBelow_5 rfl (lv_at hl 1 rfl) ?_
    refine lv_icmp_ge (tgt := 13) hx hb dA_isBelow_6 (by decide) (fun c2 => ?_) (fun c2 => ?_)
    · replace hf := x_ip c2 hf
      refine lv_iconst (v := 0) hx hb dA_isBelow_13 (by decide) ?_
      obtain rfl := hf
      exact x_zret C hw rfl dA_isBelow_14
    · replace hf := x_in c2 hf
      refine lv_iconst (v := 1) hx hb dA_isBelow_9 (by decide) ?_
      refine lv_goto (tgt := 14) hx hb dA_isBelow_10 (by decide) ?_
      obtain rfl := hf
      exact x_zret C hw rfl dA_isBelow_14
theorem zA_isBelow (a0 : Int32) (a1 : Int32) : narrow .boolean (.int (fA_isBelow a0 a1)) = .int (fA_isBelow a0 a1) := by
  unfold fA_isBelow
  (repeat' split) <;> first | rfl | rfl
-- StandIns awaitsCall ()Z
set_option maxRecDepth 100000 in
theorem dA_awaitsCall_0 : decode bA_awaitsCall 0 = .ok (.aload_n 0, 1) := by decide +kernel
set_option maxRecDepth 100000 in
theorem dA_awaitsCall_1 : decode bA_awaitsCall 1 = .ok (.getfield 77, 3) := by decide +kernel
set_option maxRecDepth 100000 in
theorem dA_awaitsCall_4 : decode bA_awaitsCall 4 = .ok (.iconst 2, 1) := by decide +kernel
set_option maxRecDepth 100000 in
theorem dA_awaitsCall_5 : decode bA_awaitsCall 5 = .ok (.if_icmp .eq 11, 3) := by decide +kernel
set_option maxRecDepth 100000 in
theorem dA_awaitsCall_8 : decode bA_awaitsCall 8 = .ok (.aload_n 0, 1) := by decide +kernel
set_option maxRecDepth 100000 in
theorem dA_awaitsCall_9 : decode bA_awaitsCall 9 = .ok (.getfield 77, 3) := by decide +kernel
set_option maxRecDepth 100000 in
theorem dA_awaitsCall_12 : decode bA_awaitsCall 12 = .ok (.iconst 3, 1) := by decide +kernel
set_option maxRecDepth 100000 in
theorem dA_awaitsCall_13 : decode bA_awaitsCall 13 = .ok (.if_icmp .ne 7, 3) := by decide +kernel
set_option maxRecDepth 100000 in
theorem dA_awaitsCall_16 : decode bA_awaitsCall 16 = .ok (.iconst 1, 1) := by decide +kernel
set_option maxRecDepth 100000 in
theorem dA_awaitsCall_17 : decode bA_awaitsCall 17 = .ok (.goto 4, 3) := by decide +kernel
set_option maxRecDepth 100000 in
theorem dA_awaitsCall_20 : decode bA_awaitsCall 20 = .ok (.iconst 0, 1) := by decide +kernel
set_option maxRecDepth 100000 in
theorem dA_awaitsCall_21 : decode bA_awaitsCall 21 = .ok (.ireturn, 1) := by decide +kernel
def fA_awaitsCall_16 (σ : xS) : Int32 :=
  1
def fA_awaitsCall (σ : xS) : Int32 :=
  if (σ.1 0 0 12) = 2 then
  (fA_awaitsCall_16 σ)
  else
  (if (σ.1 0 0 12) = 3 then
  (fA_awaitsCall_16 σ)
  else
  (0))
set_option maxHeartbeats 4000000 in
set_option maxRecDepth 100000 in
theorem wA_awaitsCall_16 {p : Program} {l : Launch} {e : Env} {R : Room} {s : State} {m : MethodId} {args : Array Value} {below : List Frame} {meth : Method} {c : Code} {E : xE} {A : Nat → Prop} {τ : yS} (C : xC p s m args meth c R E A bA_awaitsCall 1 yA_awaitsCall (some .boolean) 0 0 0) (σ : xS) (res : Int32) (hf : fA_awaitsCall_16 σ = res) (H : Heap) (locs : List Loc) (ls : Array Slot) (hw : xW E A s σ τ H locs) (hl : lv_has ls 1 []) : W p l e R s m args below meth c H locs 0 0 (MQ below (xQ E A (some (.int res)) σ τ) args s 0 0 A) (F0 m 16 ls []) := by
  have hx := C.1
  have hb := C.2.1
  unfold fA_awaitsCall_16 at hf
  refine lv_iconst (v := 1) hx hb dA_awaitsCall_16 (by decide) ?_
  refine lv_goto (tgt := 21) hx hb dA_awaitsCall_17 (by decide) ?_
  obtain rfl := hf
  exact x_zret C hw rfl dA_awaitsCall_21
set_option maxHeartbeats 4000000 in
set_option maxRecDepth 100000 in
theorem cA_awaitsCall (l : Launch) (E : xE) (σ : xS) (τ : yS) : xM l E yA_awaitsCall bA_awaitsCall 1 (some .boolean) 0 0 0 [.ref (E.2.2.1 0 0)] σ τ (some (.int (fA_awaitsCall σ ))) σ τ := by
  refine x_met (by decide) (Nat.le_of_ble_eq_true rfl) (fun p e R s m args below meth c A ls H locs C hw hl => ?_)
  have hl : lv_has ls 1 [(0, .ref (E.2.2.1 0 0))] := hl
  have hx := C.1
  have hb := C.2.1
  obtain ⟨res, hf⟩ : ∃ z, fA_awaitsCall σ  = z := ⟨_, rfl⟩
  rw [hf]
  unfold fA_awaitsCall at hf
  refine lv_aload_n hx hb dA_awaitsCall_0 rfl (lv_at hl 0 rfl) ?_
  refine x_get C hw 0 0 12 (v := .int (σ.1 0 0 12)) at_0 rfl rfl ⟨by decide, by decide⟩ wA_77 rfl dA_awaitsCall_1 ?_
  refine lv_iconst (v := 2) hx hb dA_awaitsCall_4 (by decide) ?_
  refine lv_icmp_eq (tgt := 16) hx hb dA_awaitsCall_5 (by decide) (fun c1 => ?_) (fun c1 => ?_)
  · replace hf := x_ip c1 hf
    exact wA_awaitsCall_16 C σ res hf H locs ls hw (lv_sub hl [] rfl)
  · replace hf := x_in c1 hf
    refine lv_aload_n hx hb dA_awaitsCall_8 rfl (lv_at hl 0 rfl) ?_
    refine x_get C hw 0 0 12 (v := .int (σ.1 0 0 12)) at_0 rfl rfl ⟨by decide, by decide⟩ wA_77 rfl dA_awaitsCall_9 ?_
    refine lv_iconst (v := 3) hx hb dA_awaitsCall_12 (by decide) ?_
    refine lv_icmp_ne (tgt := 20) hx hb dA_awaitsCall_13 (by decide) (fun c2 => ?_) (fun c2 => ?_)
    · replace hf := x_in c2 hf
      refine lv_iconst (v := 0) hx hb dA_awaitsCall_20 (by decide) ?_
      obtain rfl := hf
      exact x_zret C hw rfl dA_awaitsCall_21
    · replace hf := x_ip c2 hf
      exact wA_awaitsCall_16 C σ res hf H locs ls hw (lv_sub hl [] rfl)
theorem zA_awaitsCall (σ : xS) : narrow .boolean (.int (fA_awaitsCall σ )) = .int (fA_awaitsCall σ ) := by
  unfold fA_awaitsCall
  try unfold fA_awaitsCall_16
  (repeat' split) <;> first | rfl | rfl
-- StandIns latestTelling ()LStandIns$Telling;
set_option maxRecDepth 100000 in
theorem dA_latestTelling_0 : decode bA_latestTelling 0 = .ok (.aload_n 0, 1) := by decide +kernel
set_option maxRecDepth 100000 in
theorem dA_latestTelling_1 : decode bA_latestTelling 1 = .ok (.getfield 49, 3) := by decide +kernel
set_option maxRecDepth 100000 in
theorem dA_latestTelling_4 : decode bA_latestTelling 4 = .ok (.aload_n 0, 1) := by decide +kernel
set_option maxRecDepth 100000 in
theorem dA_latestTelling_5 : decode bA_latestTelling 5 = .ok (.getfield 53, 3) := by decide +kernel
set_option maxRecDepth 100000 in
theorem dA_latestTelling_8 : decode bA_latestTelling 8 = .ok (.iconst 1, 1) := by decide +kernel
set_option maxRecDepth 100000 in
theorem dA_latestTelling_9 : decode bA_latestTelling 9 = .ok (.isub, 1) := by decide +kernel
set_option maxRecDepth 100000 in
theorem dA_latestTelling_10 : decode bA_latestTelling 10 = .ok (.iconst 0, 1) := by decide +kernel
set_option maxRecDepth 100000 in
theorem dA_latestTelling_11 : decode bA_latestTelling 11 = .ok (.invokestatic 285, 3) := by decide +kernel
set_option maxRecDepth 100000 in
theorem dA_latestTelling_14 : decode bA_latestTelling 14 = .ok (.aaload, 1) := by decide +kernel
set_option maxRecDepth 100000 in
theorem dA_latestTelling_15 : decode bA_latestTelling 15 = .ok (.areturn, 1) := by decide +kernel
def fA_latestTelling (σ : xS) : Option (Nat) :=
  if ¬ ((if ((σ.1 0 0 8) - 1) < 0 then 0 else (σ.1 0 0 8) - 1) < 0 ∨ 16 ≤ (if ((σ.1 0 0 8) - 1) < 0 then 0 else (σ.1 0 0 8) - 1).toNatClampNeg) then
  some ((if ((σ.1 0 0 8) - 1) < 0 then 0 else (σ.1 0 0 8) - 1).toNatClampNeg)
  else none
set_option maxHeartbeats 4000000 in
set_option maxRecDepth 100000 in
theorem cA_latestTelling (l : Launch) (E : xE) (σ : xS) (τ : yS) (res : Nat) (hf : fA_latestTelling σ = some res) : xM l E yA_latestTelling bA_latestTelling 1 (some (.object "StandIns$Telling")) 1 0 0 [.ref (E.2.2.1 0 0)] σ τ (some (.ref (E.2.2.1 16 res))) σ τ := by
  refine x_met (by decide) (Nat.le_of_ble_eq_true rfl) (fun p e R s m args below meth c A ls H locs C hw hl => ?_)
  have hl : lv_has ls 1 [(0, .ref (E.2.2.1 0 0))] := hl
  have hx := C.1
  have hb := C.2.1
  unfold fA_latestTelling at hf
  refine lv_aload_n hx hb dA_latestTelling_0 rfl (lv_at hl 0 rfl) ?_
  refine x_get C hw 0 0 7 (v := .ref (E.2.2.1 8 0)) at_0 rfl rfl ⟨by decide, by decide⟩ wA_49 rfl dA_latestTelling_1 ?_
  refine lv_aload_n hx hb dA_latestTelling_4 rfl (lv_at hl 0 rfl) ?_
  refine x_get C hw 0 0 8 (v := .int (σ.1 0 0 8)) at_0 rfl rfl ⟨by decide, by decide⟩ wA_53 rfl dA_latestTelling_5 ?_
  refine lv_iconst (v := 1) hx hb dA_latestTelling_8 (by decide) ?_
  refine lv_isub hx hb dA_latestTelling_9 ?_
  refine lv_iconst (v := 0) hx hb dA_latestTelling_10 (by decide) ?_
  refine x_mmax C hl wA_285 dA_latestTelling_11 ?_
  obtain ⟨g1, hf⟩ := x_g hf
  refine x_ald8 C hw g1 dA_latestTelling_14 ?_
  have g2 := x_lt g1
  obtain rfl := Option.some.inj hf
  exact x_aret C hw (Or.inr ⟨_, rfl⟩) dA_latestTelling_15
-- StandIns lacksAnswers ()Z
set_option maxRecDepth 100000 in
theorem dA_lacksAnswers_0 : decode bA_lacksAnswers 0 = .ok (.aload_n 0, 1) := by decide +kernel
set_option maxRecDepth 100000 in
theorem dA_lacksAnswers_1 : decode bA_lacksAnswers 1 = .ok (.getfield 77, 3) := by decide +kernel
set_option maxRecDepth 100000 in
theorem dA_lacksAnswers_4 : decode bA_lacksAnswers 4 = .ok (.iconst 4, 1) := by decide +kernel
set_option maxRecDepth 100000 in
theorem dA_lacksAnswers_5 : decode bA_lacksAnswers 5 = .ok (.if_icmp .ne 20, 3) := by decide +kernel
set_option maxRecDepth 100000 in
theorem dA_lacksAnswers_8 : decode bA_lacksAnswers 8 = .ok (.aload_n 0, 1) := by decide +kernel
set_option maxRecDepth 100000 in
theorem dA_lacksAnswers_9 : decode bA_lacksAnswers 9 = .ok (.invokevirtual 207, 3) := by decide +kernel
set_option maxRecDepth 100000 in
theorem dA_lacksAnswers_12 : decode bA_lacksAnswers 12 = .ok (.getfield 211, 3) := by decide +kernel
set_option maxRecDepth 100000 in
theorem dA_lacksAnswers_15 : decode bA_lacksAnswers 15 = .ok (.getfield 214, 3) := by decide +kernel
set_option maxRecDepth 100000 in
theorem dA_lacksAnswers_18 : decode bA_lacksAnswers 18 = .ok (.ifCond .ne 7, 3) := by decide +kernel
set_option maxRecDepth 100000 in
theorem dA_lacksAnswers_21 : decode bA_lacksAnswers 21 = .ok (.iconst 1, 1) := by decide +kernel
set_option maxRecDepth 100000 in
theorem dA_lacksAnswers_22 : decode bA_lacksAnswers 22 = .ok (.goto 4, 3) := by decide +kernel
set_option maxRecDepth 100000 in
theorem dA_lacksAnswers_25 : decode bA_lacksAnswers 25 = .ok (.iconst 0, 1) := by decide +kernel
set_option maxRecDepth 100000 in
theorem dA_lacksAnswers_26 : decode bA_lacksAnswers 26 = .ok (.ireturn, 1) := by decide +kernel
def fA_lacksAnswers (σ : xS) : Option (Int32) :=
  if (σ.1 0 0 12) = 4 then
  (xp (fA_latestTelling σ) fun r3 =>
  if r3 < 16 then
  if r3 < 17 then
  if (σ.1 18 r3 2) = 0 then
  (some 1)
  else
  (some 0)
  else none
  else none)
  else
  (some 0)
set_option maxHeartbeats 4000000 in
set_option maxRecDepth 100000 in
theorem cA_lacksAnswers (l : Launch) (E : xE) (σ : xS) (τ : yS) (res : Int32) (hf : fA_lacksAnswers σ = some res) : xM l E yA_lacksAnswers bA_lacksAnswers 1 (some .boolean) 2 0 0 [.ref (E.2.2.1 0 0)] σ τ (some (.int res)) σ τ := by
  refine x_met (by decide) (Nat.le_of_ble_eq_true rfl) (fun p e R s m args below meth c A ls H locs C hw hl => ?_)
  have hl : lv_has ls 1 [(0, .ref (E.2.2.1 0 0))] := hl
  have hx := C.1
  have hb := C.2.1
  unfold fA_lacksAnswers at hf
  refine lv_aload_n hx hb dA_lacksAnswers_0 rfl (lv_at hl 0 rfl) ?_
  refine x_get C hw 0 0 12 (v := .int (σ.1 0 0 12)) at_0 rfl rfl ⟨by decide, by decide⟩ wA_77 rfl dA_lacksAnswers_1 ?_
  refine lv_iconst (v := 4) hx hb dA_lacksAnswers_4 (by decide) ?_
  refine lv_icmp_ne (tgt := 25) hx hb dA_lacksAnswers_5 (by decide) (fun c1 => ?_) (fun c1 => ?_)
  · replace hf := x_in c1 hf
    refine lv_iconst (v := 0) hx hb dA_lacksAnswers_25 (by decide) ?_
    obtain rfl := Option.some.inj hf
    exact x_zret C hw rfl dA_lacksAnswers_26
  · replace hf := x_ip c1 hf
    refine lv_aload_n hx hb dA_lacksAnswers_8 rfl (lv_at hl 0 rfl) ?_
    obtain ⟨r3, h2, hf⟩ := x_p hf
    refine x_callV (As := []) (rest := []) (st1 := [.ref (E.2.2.1 16 r3)]) C hw (cA_latestTelling l E σ τ r3 h2) kA_207 (x_recv C hw 0 0 at_0 rfl rfl) (by decide) rfl rfl hl.1 (lv_room (Nat.le_of_ble_eq_true rfl)) dA_lacksAnswers_9 ⟨by decide, by decide⟩ rfl (fun H locs hw => ?_)
    obtain ⟨g4, hf⟩ := x_g hf
    refine x_getN C hw 16 r3 1 (v := .ref (E.2.2.1 18 r3)) (at_16 g4) rfl rfl ⟨by decide, by decide⟩ wA_211 rfl dA_lacksAnswers_12 ?_
    obtain ⟨g5, hf⟩ := x_g hf
    refine x_getN C hw 18 r3 2 (v := .int (σ.1 18 r3 2)) (at_18 g5) rfl rfl ⟨by decide, by decide⟩ wA_214 rfl dA_lacksAnswers_15 ?_
    refine lv_if_ne (tgt := 25) hx hb dA_lacksAnswers_18 (by decide) (fun c6 => ?_) (fun c6 => ?_)
    · replace hf := x_in c6 hf
      refine lv_iconst (v := 0) hx hb dA_lacksAnswers_25 (by decide) ?_
      obtain rfl := Option.some.inj hf
      exact x_zret C hw rfl dA_lacksAnswers_26
    · replace hf := x_ip c6 hf
      refine lv_iconst (v := 1) hx hb dA_lacksAnswers_21 (by decide) ?_
      refine lv_goto (tgt := 26) hx hb dA_lacksAnswers_22 (by decide) ?_
      obtain rfl := Option.some.inj hf
      exact x_zret C hw rfl dA_lacksAnswers_26
-- StandIns misuseIf (ZZZ)I
set_option maxRecDepth 100000 in
theorem dA_misuseIf_0 : decode bA_misuseIf 0 = .ok (.iload_n 1, 1) := by decide +kernel
set_option maxRecDepth 100000 in
theorem dA_misuseIf_1 : decode bA_misuseIf 1 = .ok (.ifCond .ne 13, 3) := by decide +kernel
set_option maxRecDepth 100000 in
theorem dA_misuseIf_4 : decode bA_misuseIf 4 = .ok (.iload_n 2, 1) := by decide +kernel
set_option maxRecDepth 100000 in
theorem dA_misuseIf_5 : decode bA_misuseIf 5 = .ok (.ifCond .ne 9, 3) := by decide +kernel
set_option maxRecDepth 100000 in
theorem dA_misuseIf_8 : decode bA_misuseIf 8 = .ok (.iload_n 3, 1) := by decide +kernel
set_option maxRecDepth 100000 in
theorem dA_misuseIf_9 : decode bA_misuseIf 9 = .ok (.ifCond .ne 5, 3) := by decide +kernel
set_option maxRecDepth 100000 in
theorem dA_misuseIf_12 : decode bA_misuseIf 12 = .ok (.iconst 0, 1) := by decide +kernel
set_option maxRecDepth 100000 in
theorem dA_misuseIf_13 : decode bA_misuseIf 13 = .ok (.ireturn, 1) := by decide +kernel
set_option maxRecDepth 100000 in
theorem dA_misuseIf_14 : decode bA_misuseIf 14 = .ok (.aload_n 0, 1) := by decide +kernel
set_option maxRecDepth 100000 in
theorem dA_misuseIf_15 : decode bA_misuseIf 15 = .ok (.invokevirtual 128, 3) := by decide +kernel
set_option maxRecDepth 100000 in
theorem dA_misuseIf_18 : decode bA_misuseIf 18 = .ok (.ifCond .eq 11, 3) := by decide +kernel
set_option maxRecDepth 100000 in
theorem dA_misuseIf_21 : decode bA_misuseIf 21 = .ok (.aload_n 0, 1) := by decide +kernel
set_option maxRecDepth 100000 in
theorem dA_misuseIf_22 : decode bA_misuseIf 22 = .ok (.invokevirtual 207, 3) := by decide +kernel
set_option maxRecDepth 100000 in
theorem dA_misuseIf_25 : decode bA_misuseIf 25 = .ok (.iconst 1, 1) := by decide +kernel
set_option maxRecDepth 100000 in
theorem dA_misuseIf_26 : decode bA_misuseIf 26 = .ok (.putfield 255, 3) := by decide +kernel
set_option maxRecDepth 100000 in
theorem dA_misuseIf_29 : decode bA_misuseIf 29 = .ok (.aload_n 0, 1) := by decide +kernel
set_option maxRecDepth 100000 in
theorem dA_misuseIf_30 : decode bA_misuseIf 30 = .ok (.getfield 29, 3) := by decide +kernel
set_option maxRecDepth 100000 in
theorem dA_misuseIf_33 : decode bA_misuseIf 33 = .ok (.iconst 0, 1) := by decide +kernel
set_option maxRecDepth 100000 in
theorem dA_misuseIf_34 : decode bA_misuseIf 34 = .ok (.putfield 121, 3) := by decide +kernel
set_option maxRecDepth 100000 in
theorem dA_misuseIf_37 : decode bA_misuseIf 37 = .ok (.aload_n 0, 1) := by decide +kernel
set_option maxRecDepth 100000 in
theorem dA_misuseIf_38 : decode bA_misuseIf 38 = .ok (.getfield 36, 3) := by decide +kernel
set_option maxRecDepth 100000 in
theorem dA_misuseIf_41 : decode bA_misuseIf 41 = .ok (.iconst 0, 1) := by decide +kernel
set_option maxRecDepth 100000 in
theorem dA_misuseIf_42 : decode bA_misuseIf 42 = .ok (.putfield 214, 3) := by decide +kernel
set_option maxRecDepth 100000 in
theorem dA_misuseIf_45 : decode bA_misuseIf 45 = .ok (.aload_n 0, 1) := by decide +kernel
set_option maxRecDepth 100000 in
theorem dA_misuseIf_46 : decode bA_misuseIf 46 = .ok (.iconst 0, 1) := by decide +kernel
set_option maxRecDepth 100000 in
theorem dA_misuseIf_47 : decode bA_misuseIf 47 = .ok (.putfield 77, 3) := by decide +kernel
set_option maxRecDepth 100000 in
theorem dA_misuseIf_50 : decode bA_misuseIf 50 = .ok (.aload_n 0, 1) := by decide +kernel
set_option maxRecDepth 100000 in
theorem dA_misuseIf_51 : decode bA_misuseIf 51 = .ok (.dup, 1) := by decide +kernel
set_option maxRecDepth 100000 in
theorem dA_misuseIf_52 : decode bA_misuseIf 52 = .ok (.getfield 92, 3) := by decide +kernel
set_option maxRecDepth 100000 in
theorem dA_misuseIf_55 : decode bA_misuseIf 55 = .ok (.iconst 1, 1) := by decide +kernel
set_option maxRecDepth 100000 in
theorem dA_misuseIf_56 : decode bA_misuseIf 56 = .ok (.iadd, 1) := by decide +kernel
set_option maxRecDepth 100000 in
theorem dA_misuseIf_57 : decode bA_misuseIf 57 = .ok (.putfield 92, 3) := by decide +kernel
set_option maxRecDepth 100000 in
theorem dA_misuseIf_60 : decode bA_misuseIf 60 = .ok (.iload_n 1, 1) := by decide +kernel
set_option maxRecDepth 100000 in
theorem dA_misuseIf_61 : decode bA_misuseIf 61 = .ok (.ifCond .eq 6, 3) := by decide +kernel
set_option maxRecDepth 100000 in
theorem dA_misuseIf_64 : decode bA_misuseIf 64 = .ok (.bipush (-3), 2) := by decide +kernel
set_option maxRecDepth 100000 in
theorem dA_misuseIf_66 : decode bA_misuseIf 66 = .ok (.ireturn, 1) := by decide +kernel
set_option maxRecDepth 100000 in
theorem dA_misuseIf_67 : decode bA_misuseIf 67 = .ok (.iload_n 2, 1) := by decide +kernel
set_option maxRecDepth 100000 in
theorem dA_misuseIf_68 : decode bA_misuseIf 68 = .ok (.ifCond .eq 8, 3) := by decide +kernel
set_option maxRecDepth 100000 in
theorem dA_misuseIf_71 : decode bA_misuseIf 71 = .ok (.bipush (-4), 2) := by decide +kernel
set_option maxRecDepth 100000 in
theorem dA_misuseIf_73 : decode bA_misuseIf 73 = .ok (.goto 5, 3) := by decide +kernel
set_option maxRecDepth 100000 in
theorem dA_misuseIf_76 : decode bA_misuseIf 76 = .ok (.bipush (-5), 2) := by decide +kernel
set_option maxRecDepth 100000 in
theorem dA_misuseIf_78 : decode bA_misuseIf 78 = .ok (.ireturn, 1) := by decide +kernel
def fA_misuseIf_29 (σ : xS) (a1 : Int32) (a2 : Int32) : Option (Int32 × xS) :=
  xl (x_si σ 4 0 1 0) fun s14 =>
  xl (x_si s14 18 16 2 0) fun s15 =>
  xl (x_si s15 0 0 12 0) fun s16 =>
  xl (x_si s16 0 0 17 ((s16.1 0 0 17) + 1)) fun s17 =>
  if a1 = 0 then
  (if a2 = 0 then
  (some ((-5), s17))
  else
  (some ((-4), s17)))
  else
  (some ((-3), s17))
def fA_misuseIf_14 (σ : xS) (a1 : Int32) (a2 : Int32) : Option (Int32 × xS) :=
  xp (fA_lacksAnswers σ) fun r21 =>
  if r21 = 0 then
  (fA_misuseIf_29 σ a1 a2)
  else
  (xp (fA_latestTelling σ) fun r24 =>
  if r24 < 16 then
  xl (x_si σ 16 r24 4 1) fun s26 =>
  fA_misuseIf_29 s26 a1 a2
  else none)
def fA_misuseIf (σ : xS) (a1 : Int32) (a2 : Int32) (a3 : Int32) : Option (Int32 × xS) :=
  if a1 = 0 then
  (if a2 = 0 then
  (if a3 = 0 then
  (some (0, σ))
  else
  (fA_misuseIf_14 σ a1 a2))
  else
  (fA_misuseIf_14 σ a1 a2))
  else
  (fA_misuseIf_14 σ a1 a2)
set_option maxHeartbeats 4000000 in
set_option maxRecDepth 100000 in
theorem wA_misuseIf_29 {p : Program} {l : Launch} {e : Env} {R : Room} {s : State} {m : MethodId} {args : Array Value} {below : List Frame} {meth : Method} {c : Code} {E : xE} {A : Nat → Prop} {τ : yS} (C : xC p s m args meth c R E A bA_misuseIf 4 yA_misuseIf (some .int) 3 0 0) (σ : xS) (a1 : Int32) (a2 : Int32) (res : Int32 × xS) (hf : fA_misuseIf_29 σ a1 a2 = some res) (H : Heap) (locs : List Loc) (ls : Array Slot) (hw : xW E A s σ τ H locs) (hl : lv_has ls 4 [(0, .ref (E.2.2.1 0 0)), (1, .int a1), (2, .int a2)]) : W p l e R s m args below meth c H locs 0 0 (MQ below (xQ E A (some (.int res.1)) res.2 τ) args s 0 0 A) (F0 m 29 ls []) := by
  have hx := C.1
  have hb := C.2.1
  unfold fA_misuseIf_29 at hf
  refine lv_aload_n hx hb dA_misuseIf_29 rfl (lv_at hl 0 rfl) ?_
  refine x_get C hw 0 0 4 (v := .ref (E.2.2.1 4 0)) at_0 rfl rfl ⟨by decide, by decide⟩ wA_29 rfl dA_misuseIf_30 ?_
  refine lv_iconst (v := 0) hx hb dA_misuseIf_33 (by decide) ?_
  refine x_putiN C hw 4 0 1 at_4 rfl rfl rfl ⟨rfl, rfl⟩ ⟨by decide, by decide⟩ (Nat.le_of_ble_eq_true rfl) wA_121 dA_misuseIf_34 (fun H locs hw => ?_)
  obtain ⟨s14, es14, hf⟩ := x_l hf
  rw [← es14] at hw
  refine lv_aload_n hx hb dA_misuseIf_37 rfl (lv_at hl 0 rfl) ?_
  refine x_get C hw 0 0 5 (v := .ref (E.2.2.1 18 16)) at_0 rfl rfl ⟨by decide, by decide⟩ wA_36 rfl dA_misuseIf_38 ?_
  refine lv_iconst (v := 0) hx hb dA_misuseIf_41 (by decide) ?_
  refine x_putiN C hw 18 16 2 (at_18 (by decide)) rfl rfl rfl ⟨rfl, rfl⟩ ⟨by decide, by decide⟩ (Nat.le_of_ble_eq_true rfl) wA_214 dA_misuseIf_42 (fun H locs hw => ?_)
  obtain ⟨s15, es15, hf⟩ := x_l hf
  rw [← es15] at hw
  refine lv_aload_n hx hb dA_misuseIf_45 rfl (lv_at hl 0 rfl) ?_
  refine lv_iconst (v := 0) hx hb dA_misuseIf_46 (by decide) ?_
  refine x_puti C hw 0 0 12 at_0 rfl rfl rfl ⟨rfl, rfl⟩ ⟨by decide, by decide⟩ (Nat.le_of_ble_eq_true rfl) wA_77 dA_misuseIf_47 (fun H locs hw => ?_)
  obtain ⟨s16, es16, hf⟩ := x_l hf
  rw [← es16] at hw
  refine lv_aload_n hx hb dA_misuseIf_50 rfl (lv_at hl 0 rfl) ?_
  refine lv_dup hx hb dA_misuseIf_51 rfl ?_
  refine x_get C hw 0 0 17 (v := .int (s16.1 0 0 17)) at_0 rfl rfl ⟨by decide, by decide⟩ wA_92 rfl dA_misuseIf_52 ?_
  refine lv_iconst (v := 1) hx hb dA_misuseIf_55 (by decide) ?_
  refine lv_iadd hx hb dA_misuseIf_56 ?_
  refine x_puti C hw 0 0 17 at_0 rfl rfl rfl ⟨rfl, rfl⟩ ⟨by decide, by decide⟩ (Nat.le_of_ble_eq_true rfl) wA_92 dA_misuseIf_57 (fun H locs hw => ?_)
  obtain ⟨s17, es17, hf⟩ := x_l hf
  rw [← es17] at hw
  refine lv_iload_n hx hb dA_misuseIf_60 rfl (lv_at hl 1 rfl) ?_
  refine lv_if_eq (tgt := 67) hx hb dA_misuseIf_61 (by decide) (fun c18 => ?_) (fun c18 => ?_)
  · replace hf := x_ip c18 hf
    refine lv_iload_n hx hb dA_misuseIf_67 rfl (lv_at hl 2 rfl) ?_
    refine lv_if_eq (tgt := 76) hx hb dA_misuseIf_68 (by decide) (fun c19 => ?_) (fun c19 => ?_)
    · replace hf := x_ip c19 hf
      refine lv_bipush (v := (-5)) hx hb dA_misuseIf_76 (by decide) ?_
      obtain rfl := Option.some.inj hf
      exact x_iret C hw dA_misuseIf_78
    · replace hf := x_in c19 hf
      refine lv_bipush (v := (-4)) hx hb dA_misuseIf_71 (by decide) ?_
      refine lv_goto (tgt := 78) hx hb dA_misuseIf_73 (by decide) ?_
      obtain rfl := Option.some.inj hf
      exact x_iret C hw dA_misuseIf_78
  · replace hf := x_in c18 hf
    refine lv_bipush (v := (-3)) hx hb dA_misuseIf_64 (by decide) ?_
    obtain rfl := Option.some.inj hf
    exact x_iret C hw dA_misuseIf_66
set_option maxHeartbeats 4000000 in
set_option maxRecDepth 100000 in
theorem wA_misuseIf_14 {p : Program} {l : Launch} {e : Env} {R : Room} {s : State} {m : MethodId} {args : Array Value} {below : List Frame} {meth : Method} {c : Code} {E : xE} {A : Nat → Prop} {τ : yS} (C : xC p s m args meth c R E A bA_misuseIf 4 yA_misuseIf (some .int) 3 0 0) (σ : xS) (a1 : Int32) (a2 : Int32) (res : Int32 × xS) (hf : fA_misuseIf_14 σ a1 a2 = some res) (H : Heap) (locs : List Loc) (ls : Array Slot) (hw : xW E A s σ τ H locs) (hl : lv_has ls 4 [(0, .ref (E.2.2.1 0 0)), (1, .int a1), (2, .int a2)]) : W p l e R s m args below meth c H locs 0 0 (MQ below (xQ E A (some (.int res.1)) res.2 τ) args s 0 0 A) (F0 m 14 ls []) := by
  have hx := C.1
  have hb := C.2.1
  unfold fA_misuseIf_14 at hf
  refine lv_aload_n hx hb dA_misuseIf_14 rfl (lv_at hl 0 rfl) ?_
  obtain ⟨r21, h20, hf⟩ := x_p hf
  refine x_callV (As := []) (rest := []) (st1 := [.int r21]) C hw (cA_lacksAnswers l E σ τ r21 h20) kA_128 (x_recv C hw 0 0 at_0 rfl rfl) (by decide) rfl rfl hl.1 (lv_room (Nat.le_of_ble_eq_true rfl)) dA_misuseIf_15 ⟨by decide, by decide⟩ rfl (fun H locs hw => ?_)
  refine lv_if_eq (tgt := 29) hx hb dA_misuseIf_18 (by decide) (fun c22 => ?_) (fun c22 => ?_)
  · replace hf := x_ip c22 hf
    exact wA_misuseIf_29 C σ a1 a2 res hf H locs ls hw (lv_sub hl [0, 1, 2] rfl)
  · replace hf := x_in c22 hf
    refine lv_aload_n hx hb dA_misuseIf_21 rfl (lv_at hl 0 rfl) ?_
    obtain ⟨r24, h23, hf⟩ := x_p hf
    refine x_callV (As := []) (rest := []) (st1 := [.ref (E.2.2.1 16 r24)]) C hw (cA_latestTelling l E σ τ r24 h23) kA_207 (x_recv C hw 0 0 at_0 rfl rfl) (by decide) rfl rfl hl.1 (lv_room (Nat.le_of_ble_eq_true rfl)) dA_misuseIf_22 ⟨by decide, by decide⟩ rfl (fun H locs hw => ?_)
    refine lv_iconst (v := 1) hx hb dA_misuseIf_25 (by decide) ?_
    obtain ⟨g25, hf⟩ := x_g hf
    refine x_putzN C hw 16 r24 4 (at_16 g25) (by decide) rfl rfl rfl ⟨rfl, rfl⟩ ⟨by decide, by decide⟩ (Nat.le_of_ble_eq_true rfl) wA_255 dA_misuseIf_26 (fun H locs hw => ?_)
    obtain ⟨s26, es26, hf⟩ := x_l hf
    rw [← es26] at hw
    exact wA_misuseIf_29 C s26 a1 a2 res hf H locs ls hw (lv_sub hl [0, 1, 2] rfl)
set_option maxHeartbeats 4000000 in
set_option maxRecDepth 100000 in
theorem cA_misuseIf (l : Launch) (E : xE) (σ : xS) (τ : yS) (a1 : Int32) (a2 : Int32) (a3 : Int32) (res : Int32 × xS) (hf : fA_misuseIf σ a1 a2 a3 = some res) : xM l E yA_misuseIf bA_misuseIf 4 (some .int) 3 0 0 [.ref (E.2.2.1 0 0), .int a1, .int a2, .int a3] σ τ (some (.int res.1)) res.2 τ := by
  refine x_met (by decide) (Nat.le_of_ble_eq_true rfl) (fun p e R s m args below meth c A ls H locs C hw hl => ?_)
  have hl : lv_has ls 4 [(0, .ref (E.2.2.1 0 0)), (1, .int a1), (2, .int a2), (3, .int a3)] := hl
  have hx := C.1
  have hb := C.2.1
  unfold fA_misuseIf at hf
  refine lv_iload_n hx hb dA_misuseIf_0 rfl (lv_at hl 1 rfl) ?_
  refine lv_if_ne (tgt := 14) hx hb dA_misuseIf_1 (by decide) (fun c27 => ?_) (fun c27 => ?_)
  · replace hf := x_in c27 hf
    exact wA_misuseIf_14 C σ a1 a2 res hf H locs ls hw (lv_sub hl [0, 1, 2] rfl)
  · replace hf := x_ip c27 hf
    refine lv_iload_n hx hb dA_misuseIf_4 rfl (lv_at hl 2 rfl) ?_
    refine lv_if_ne (tgt := 14) hx hb dA_misuseIf_5 (by decide) (fun c28 => ?_) (fun c28 => ?_)
    · replace hf := x_in c28 hf
      exact wA_misuseIf_14 C σ a1 a2 res hf H locs ls hw (lv_sub hl [0, 1, 2] rfl)
    · replace hf := x_ip c28 hf
      refine lv_iload_n hx hb dA_misuseIf_8 rfl (lv_at hl 3 rfl) ?_
      refine lv_if_ne (tgt := 14) hx hb dA_misuseIf_9 (by decide) (fun c29 => ?_) (fun c29 => ?_)
      · replace hf := x_in c29 hf
        exact wA_misuseIf_14 C σ a1 a2 res hf H locs ls hw (lv_sub hl [0, 1, 2] rfl)
      · replace hf := x_ip c29 hf
        refine lv_iconst (v := 0) hx hb dA_misuseIf_12 (by decide) ?_
        obtain rfl := Option.some.inj hf
        exact x_iret C hw dA_misuseIf_13
-- StandIns misuseOfPlainStep (Z)I
set_option maxRecDepth 100000 in
theorem dA_misuseOfPlainStep_0 : decode bA_misuseOfPlainStep 0 = .ok (.aload_n 0, 1) := by decide +kernel
set_option maxRecDepth 100000 in
theorem dA_misuseOfPlainStep_1 : decode bA_misuseOfPlainStep 1 = .ok (.aload_n 0, 1) := by decide +kernel
set_option maxRecDepth 100000 in
theorem dA_misuseOfPlainStep_2 : decode bA_misuseOfPlainStep 2 = .ok (.invokevirtual 147, 3) := by decide +kernel
set_option maxRecDepth 100000 in
theorem dA_misuseOfPlainStep_5 : decode bA_misuseOfPlainStep 5 = .ok (.ifCond .ne 10, 3) := by decide +kernel
set_option maxRecDepth 100000 in
theorem dA_misuseOfPlainStep_8 : decode bA_misuseOfPlainStep 8 = .ok (.aload_n 0, 1) := by decide +kernel
set_option maxRecDepth 100000 in
theorem dA_misuseOfPlainStep_9 : decode bA_misuseOfPlainStep 9 = .ok (.invokevirtual 128, 3) := by decide +kernel
set_option maxRecDepth 100000 in
theorem dA_misuseOfPlainStep_12 : decode bA_misuseOfPlainStep 12 = .ok (.ifCond .eq 7, 3) := by decide +kernel
set_option maxRecDepth 100000 in
theorem dA_misuseOfPlainStep_15 : decode bA_misuseOfPlainStep 15 = .ok (.iconst 1, 1) := by decide +kernel
set_option maxRecDepth 100000 in
theorem dA_misuseOfPlainStep_16 : decode bA_misuseOfPlainStep 16 = .ok (.goto 4, 3) := by decide +kernel
set_option maxRecDepth 100000 in
theorem dA_misuseOfPlainStep_19 : decode bA_misuseOfPlainStep 19 = .ok (.iconst 0, 1) := by decide +kernel
set_option maxRecDepth 100000 in
theorem dA_misuseOfPlainStep_20 : decode bA_misuseOfPlainStep 20 = .ok (.aload_n 0, 1) := by decide +kernel
set_option maxRecDepth 100000 in
theorem dA_misuseOfPlainStep_21 : decode bA_misuseOfPlainStep 21 = .ok (.getfield 29, 3) := by decide +kernel
set_option maxRecDepth 100000 in
theorem dA_misuseOfPlainStep_24 : decode bA_misuseOfPlainStep 24 = .ok (.getfield 121, 3) := by decide +kernel
set_option maxRecDepth 100000 in
theorem dA_misuseOfPlainStep_27 : decode bA_misuseOfPlainStep 27 = .ok (.ifCond .le 7, 3) := by decide +kernel
set_option maxRecDepth 100000 in
theorem dA_misuseOfPlainStep_30 : decode bA_misuseOfPlainStep 30 = .ok (.iconst 1, 1) := by decide +kernel
set_option maxRecDepth 100000 in
theorem dA_misuseOfPlainStep_31 : decode bA_misuseOfPlainStep 31 = .ok (.goto 4, 3) := by decide +kernel
set_option maxRecDepth 100000 in
theorem dA_misuseOfPlainStep_34 : decode bA_misuseOfPlainStep 34 = .ok (.iconst 0, 1) := by decide +kernel
set_option maxRecDepth 100000 in
theorem dA_misuseOfPlainStep_35 : decode bA_misuseOfPlainStep 35 = .ok (.iload_n 1, 1) := by decide +kernel
set_option maxRecDepth 100000 in
theorem dA_misuseOfPlainStep_36 : decode bA_misuseOfPlainStep 36 = .ok (.invokevirtual 132, 3) := by decide +kernel
set_option maxRecDepth 100000 in
theorem dA_misuseOfPlainStep_39 : decode bA_misuseOfPlainStep 39 = .ok (.ireturn, 1) := by decide +kernel
def fA_misuseOfPlainStep_35 (σ : xS) (a1 : Int32) (t0 : Int32) (t1 : Int32) : Option (Int32 × xS) :=
  xb (fA_misuseIf σ t1 t0 a1) fun r6 s7 =>
  some (r6, s7)
def fA_misuseOfPlainStep_20 (σ : xS) (a1 : Int32) (t0 : Int32) : Option (Int32 × xS) :=
  if (σ.1 4 0 1) ≤ 0 then
  (fA_misuseOfPlainStep_35 σ a1 0 t0)
  else
  (fA_misuseOfPlainStep_35 σ a1 1 t0)
def fA_misuseOfPlainStep_15 (σ : xS) (a1 : Int32) : Option (Int32 × xS) :=
  fA_misuseOfPlainStep_20 σ a1 1
def fA_misuseOfPlainStep (σ : xS) (a1 : Int32) : Option (Int32 × xS) :=
  if (fA_awaitsCall σ) = 0 then
  (xp (fA_lacksAnswers σ) fun r12 =>
  if r12 = 0 then
  (fA_misuseOfPlainStep_20 σ a1 0)
  else
  (fA_misuseOfPlainStep_15 σ a1))
  else
  (fA_misuseOfPlainStep_15 σ a1)
set_option maxHeartbeats 4000000 in
set_option maxRecDepth 100000 in
theorem wA_misuseOfPlainStep_35 {p : Program} {l : Launch} {e : Env} {R : Room} {s : State} {m : MethodId} {args : Array Value} {below : List Frame} {meth : Method} {c : Code} {E : xE} {A : Nat → Prop} {τ : yS} (C : xC p s m args meth c R E A bA_misuseOfPlainStep 2 yA_misuseOfPlainStep (some .int) 4 0 0) (σ : xS) (a1 : Int32) (t0 : Int32) (t1 : Int32) (res : Int32 × xS) (hf : fA_misuseOfPlainStep_35 σ a1 t0 t1 = some res) (H : Heap) (locs : List Loc) (ls : Array Slot) (hw : xW E A s σ τ H locs) (hl : lv_has ls 2 [(1, .int a1)]) : W p l e R s m args below meth c H locs 0 0 (MQ below (xQ E A (some (.int res.1)) res.2 τ) args s 0 0 A) (F0 m 35 ls [.int t0, .int t1, .ref (E.2.2.1 0 0)]) := by
  have hx := C.1
  have hb := C.2.1
  unfold fA_misuseOfPlainStep_35 at hf
  refine lv_iload_n hx hb dA_misuseOfPlainStep_35 rfl (lv_at hl 0 rfl) ?_
  obtain ⟨r6, s7, h5, hf⟩ := x_b hf
  refine x_callV (As := [.int t1, .int t0, .int a1]) (rest := []) (st1 := [.int r6]) C hw (cA_misuseIf l E σ τ t1 t0 a1 (r6, s7) h5) kA_132 (x_recv C hw 0 0 at_0 rfl rfl) (by decide) rfl rfl hl.1 (lv_room (Nat.le_of_ble_eq_true rfl)) dA_misuseOfPlainStep_36 ⟨by decide, by decide⟩ rfl (fun H locs hw => ?_)
  obtain rfl := Option.some.inj hf
  exact x_iret C hw dA_misuseOfPlainStep_39
set_option maxHeartbeats 4000000 in
set_option maxRecDepth 100000 in
theorem wA_misuseOfPlainStep_20 {p : Program} {l : Launch} {e : Env} {R : Room} {s : State} {m : MethodId} {args : Array Value} {below : List Frame} {meth : Method} {c : Code} {E : xE} {A : Nat → Prop} {τ : yS} (C : xC p s m args meth c R E A bA_misuseOfPlainStep 2 yA_misuseOfPlainStep (some .int) 4 0 0) (σ : xS) (a1 : Int32) (t0 : Int32) (res : Int32 × xS) (hf : fA_misuseOfPlainStep_20 σ a1 t0 = some res) (H : Heap) (locs : List Loc) (ls : Array Slot) (hw : xW E A s σ τ H locs) (hl : lv_has ls 2 [(0, .ref (E.2.2.1 0 0)), (1, .int a1)]) : W p l e R s m args below meth c H locs 0 0 (MQ below (xQ E A (some (.int res.1)) res.2 τ) args s 0 0 A) (F0 m 20 ls [.int t0, .ref (E.2.2.1 0 0)]) := by
  have hx := C.1
  have hb := C.2.1
  unfold fA_misuseOfPlainStep_20 at hf
  refine lv_aload_n hx hb dA_misuseOfPlainStep_20 rfl (lv_at hl 0 rfl) ?_
  refine x_get C hw 0 0 4 (v := .ref (E.2.2.1 4 0)) at_0 rfl rfl ⟨by decide, by decide⟩ wA_29 rfl dA_misuseOfPlainStep_21 ?_
  refine x_getN C hw 4 0 1 (v := .int (σ.1 4 0 1)) at_4 rfl rfl ⟨by decide, by decide⟩ wA_121 rfl dA_misuseOfPlainStep_24 ?_
  refine lv_if_le (tgt := 34) hx hb dA_misuseOfPlainStep_27 (by decide) (fun c8 => ?_) (fun c8 => ?_)
  · replace hf := x_ip c8 hf
    refine lv_iconst (v := 0) hx hb dA_misuseOfPlainStep_34 (by decide) ?_
    exact wA_misuseOfPlainStep_35 C σ a1 0 t0 res hf H locs ls hw (lv_sub hl [1] rfl)
  · replace hf := x_in c8 hf
    refine lv_iconst (v := 1) hx hb dA_misuseOfPlainStep_30 (by decide) ?_
    refine lv_goto (tgt := 35) hx hb dA_misuseOfPlainStep_31 (by decide) ?_
    exact wA_misuseOfPlainStep_35 C σ a1 1 t0 res hf H locs ls hw (lv_sub hl [1] rfl)
set_option maxHeartbeats 4000000 in
set_option maxRecDepth 100000 in
theorem wA_misuseOfPlainStep_15 {p : Program} {l : Launch} {e : Env} {R : Room} {s : State} {m : MethodId} {args : Array Value} {below : List Frame} {meth : Method} {c : Code} {E : xE} {A : Nat → Prop} {τ : yS} (C : xC p s m args meth c R E A bA_misuseOfPlainStep 2 yA_misuseOfPlainStep (some .int) 4 0 0) (σ : xS) (a1 : Int32) (res : Int32 × xS) (hf : fA_misuseOfPlainStep_15 σ a1 = some res) (H : Heap) (locs : List Loc) (ls : Array Slot) (hw : xW E A s σ τ H locs) (hl : lv_has ls 2 [(0, .ref (E.2.2.1 0 0)), (1, .int a1)]) : W p l e R s m args below meth c H locs 0 0 (MQ below (xQ E A (some (.int res.1)) res.2 τ) args s 0 0 A) (F0 m 15 ls [.ref (E.2.2.1 0 0)]) := by
  have hx := C.1
  have hb := C.2.1
  unfold fA_misuseOfPlainStep_15 at hf
  refine lv_iconst (v := 1) hx hb dA_misuseOfPlainStep_15 (by decide) ?_
  refine lv_goto (tgt := 20) hx hb dA_misuseOfPlainStep_16 (by decide) ?_
  exact wA_misuseOfPlainStep_20 C σ a1 1 res hf H locs ls hw (lv_sub hl [0, 1] rfl)
set_option maxHeartbeats 4000000 in
set_option maxRecDepth 100000 in
theorem cA_misuseOfPlainStep (l : Launch) (E : xE) (σ : xS) (τ : yS) (a1 : Int32) (res : Int32 × xS) (hf : fA_misuseOfPlainStep σ a1 = some res) : xM l E yA_misuseOfPlainStep bA_misuseOfPlainStep 2 (some .int) 4 0 0 [.ref (E.2.2.1 0 0), .int a1] σ τ (some (.int res.1)) res.2 τ := by
  refine x_met (by decide) (Nat.le_of_ble_eq_true rfl) (fun p e R s m args below meth c A ls H locs C hw hl => ?_)
  have hl : lv_has ls 2 [(0, .ref (E.2.2.1 0 0)), (1, .int a1)] := hl
  have hx := C.1
  have hb := C.2.1
  unfold fA_misuseOfPlainStep at hf
  refine lv_aload_n hx hb dA_misuseOfPlainStep_0 rfl (lv_at hl 0 rfl) ?_
  refine lv_aload_n hx hb dA_misuseOfPlainStep_1 rfl (lv_at hl 0 rfl) ?_
  refine x_callV (As := []) (rest := [.ref (E.2.2.1 0 0)]) (st1 := [.int (fA_awaitsCall σ), .ref (E.2.2.1 0 0)]) C hw (cA_awaitsCall l E σ τ) kA_147 (x_recv C hw 0 0 at_0 rfl rfl) (by decide) rfl rfl hl.1 (lv_room (Nat.le_of_ble_eq_true rfl)) dA_misuseOfPlainStep_2 ⟨by decide, by decide⟩ rfl (fun H locs hw => ?_)
  refine lv_if_ne (tgt := 15) hx hb dA_misuseOfPlainStep_5 (by decide) (fun c10 => ?_) (fun c10 => ?_)
  · replace hf := x_in c10 hf
    exact wA_misuseOfPlainStep_15 C σ a1 res hf H locs ls hw (lv_sub hl [0, 1] rfl)
  · replace hf := x_ip c10 hf
    refine lv_aload_n hx hb dA_misuseOfPlainStep_8 rfl (lv_at hl 0 rfl) ?_
    obtain ⟨r12, h11, hf⟩ := x_p hf
    refine x_callV (As := []) (rest := [.ref (E.2.2.1 0 0)]) (st1 := [.int r12, .ref (E.2.2.1 0 0)]) C hw (cA_lacksAnswers l E σ τ r12 h11) kA_128 (x_recv C hw 0 0 at_0 rfl rfl) (by decide) rfl rfl hl.1 (lv_room (Nat.le_of_ble_eq_true rfl)) dA_misuseOfPlainStep_9 ⟨by decide, by decide⟩ rfl (fun H locs hw => ?_)
    refine lv_if_eq (tgt := 19) hx hb dA_misuseOfPlainStep_12 (by decide) (fun c13 => ?_) (fun c13 => ?_)
    · replace hf := x_ip c13 hf
      refine lv_iconst (v := 0) hx hb dA_misuseOfPlainStep_19 (by decide) ?_
      exact wA_misuseOfPlainStep_20 C σ a1 0 res hf H locs ls hw (lv_sub hl [0, 1] rfl)
    · replace hf := x_in c13 hf
      exact wA_misuseOfPlainStep_15 C σ a1 res hf H locs ls hw (lv_sub hl [0, 1] rfl)
-- StandIns idleWith (I)I
set_option maxRecDepth 100000 in
theorem dA_idleWith_0 : decode bA_idleWith 0 = .ok (.aload_n 0, 1) := by decide +kernel
set_option maxRecDepth 100000 in
theorem dA_idleWith_1 : decode bA_idleWith 1 = .ok (.iconst 0, 1) := by decide +kernel
set_option maxRecDepth 100000 in
theorem dA_idleWith_2 : decode bA_idleWith 2 = .ok (.putfield 77, 3) := by decide +kernel
set_option maxRecDepth 100000 in
theorem dA_idleWith_5 : decode bA_idleWith 5 = .ok (.iload_n 1, 1) := by decide +kernel
set_option maxRecDepth 100000 in
theorem dA_idleWith_6 : decode bA_idleWith 6 = .ok (.ireturn, 1) := by decide +kernel
def fA_idleWith (σ : xS) (a1 : Int32) : Int32 × xS :=
  xl (x_si σ 0 0 12 0) fun s1 =>
  (a1, s1)
set_option maxHeartbeats 4000000 in
set_option maxRecDepth 100000 in
theorem cA_idleWith (l : Launch) (E : xE) (σ : xS) (τ : yS) (a1 : Int32) (res : Int32 × xS) (hf : fA_idleWith σ a1 = res) : xM l E yA_idleWith bA_idleWith 2 (some .int) 0 0 0 [.ref (E.2.2.1 0 0), .int a1] σ τ (some (.int res.1)) res.2 τ := by
  refine x_met (by decide) (Nat.le_of_ble_eq_true rfl) (fun p e R s m args below meth c A ls H locs C hw hl => ?_)
  have hl : lv_has ls 2 [(0, .ref (E.2.2.1 0 0)), (1, .int a1)] := hl
  have hx := C.1
  have hb := C.2.1
  unfold fA_idleWith at hf
  refine lv_aload_n hx hb dA_idleWith_0 rfl (lv_at hl 0 rfl) ?_
  refine lv_iconst (v := 0) hx hb dA_idleWith_1 (by decide) ?_
  refine x_puti C hw 0 0 12 at_0 rfl rfl rfl ⟨rfl, rfl⟩ ⟨by decide, by decide⟩ (Nat.le_of_ble_eq_true rfl) wA_77 dA_idleWith_2 (fun H locs hw => ?_)
  obtain ⟨s1, es1, hf⟩ := x_l hf
  rw [← es1] at hw
  refine lv_iload_n hx hb dA_idleWith_5 rfl (lv_at hl 1 rfl) ?_
  obtain rfl := hf
  exact x_iret C hw dA_idleWith_6
-- StandIns define (IIIZ)I
set_option maxRecDepth 100000 in
theorem dA_define_0 : decode bA_define 0 = .ok (.iload_n 1, 1) := by decide +kernel
set_option maxRecDepth 100000 in
theorem dA_define_1 : decode bA_define 1 = .ok (.iconst 3, 1) := by decide +kernel
set_option maxRecDepth 100000 in
theorem dA_define_2 : decode bA_define 2 = .ok (.invokestatic 97, 3) := by decide +kernel
set_option maxRecDepth 100000 in
theorem dA_define_5 : decode bA_define 5 = .ok (.ifCond .eq 19, 3) := by decide +kernel
set_option maxRecDepth 100000 in
theorem dA_define_8 : decode bA_define 8 = .ok (.iload_n 2, 1) := by decide +kernel
set_option maxRecDepth 100000 in
theorem dA_define_9 : decode bA_define 9 = .ok (.iconst 4, 1) := by decide +kernel
set_option maxRecDepth 100000 in
theorem dA_define_10 : decode bA_define 10 = .ok (.invokestatic 97, 3) := by decide +kernel
set_option maxRecDepth 100000 in
theorem dA_define_13 : decode bA_define 13 = .ok (.ifCond .eq 11, 3) := by decide +kernel
set_option maxRecDepth 100000 in
theorem dA_define_16 : decode bA_define 16 = .ok (.iload_n 3, 1) := by decide +kernel
set_option maxRecDepth 100000 in
theorem dA_define_17 : decode bA_define 17 = .ok (.iconst 3, 1) := by decide +kernel
set_option maxRecDepth 100000 in
theorem dA_define_18 : decode bA_define 18 = .ok (.invokestatic 97, 3) := by decide +kernel
set_option maxRecDepth 100000 in
theorem dA_define_21 : decode bA_define 21 = .ok (.ifCond .ne 5, 3) := by decide +kernel
set_option maxRecDepth 100000 in
theorem dA_define_24 : decode bA_define 24 = .ok (.iconst (-1), 1) := by decide +kernel
set_option maxRecDepth 100000 in
theorem dA_define_25 : decode bA_define 25 = .ok (.ireturn, 1) := by decide +kernel
set_option maxRecDepth 100000 in
theorem dA_define_26 : decode bA_define 26 = .ok (.aload_n 0, 1) := by decide +kernel
set_option maxRecDepth 100000 in
theorem dA_define_27 : decode bA_define 27 = .ok (.getfield 22, 3) := by decide +kernel
set_option maxRecDepth 100000 in
theorem dA_define_30 : decode bA_define 30 = .ok (.ifCond .le 6, 3) := by decide +kernel
set_option maxRecDepth 100000 in
theorem dA_define_33 : decode bA_define 33 = .ok (.bipush (-2), 2) := by decide +kernel
set_option maxRecDepth 100000 in
theorem dA_define_35 : decode bA_define 35 = .ok (.ireturn, 1) := by decide +kernel
set_option maxRecDepth 100000 in
theorem dA_define_36 : decode bA_define 36 = .ok (.aload_n 0, 1) := by decide +kernel
set_option maxRecDepth 100000 in
theorem dA_define_37 : decode bA_define 37 = .ok (.iconst 0, 1) := by decide +kernel
set_option maxRecDepth 100000 in
theorem dA_define_38 : decode bA_define 38 = .ok (.invokevirtual 101, 3) := by decide +kernel
set_option maxRecDepth 100000 in
theorem dA_define_41 : decode bA_define 41 = .ok (.istore 5, 2) := by decide +kernel
set_option maxRecDepth 100000 in
theorem dA_define_43 : decode bA_define 43 = .ok (.iload 5, 2) := by decide +kernel
set_option maxRecDepth 100000 in
theorem dA_define_45 : decode bA_define 45 = .ok (.ifCond .eq 6, 3) := by decide +kernel
set_option maxRecDepth 100000 in
theorem dA_define_48 : decode bA_define 48 = .ok (.iload 5, 2) := by decide +kernel
set_option maxRecDepth 100000 in
theorem dA_define_50 : decode bA_define 50 = .ok (.ireturn, 1) := by decide +kernel
set_option maxRecDepth 100000 in
theorem dA_define_51 : decode bA_define 51 = .ok (.aload_n 0, 1) := by decide +kernel
set_option maxRecDepth 100000 in
theorem dA_define_52 : decode bA_define 52 = .ok (.getfield 11, 3) := by decide +kernel
set_option maxRecDepth 100000 in
theorem dA_define_55 : decode bA_define 55 = .ok (.iload_n 1, 1) := by decide +kernel
set_option maxRecDepth 100000 in
theorem dA_define_56 : decode bA_define 56 = .ok (.iconst 4, 1) := by decide +kernel
set_option maxRecDepth 100000 in
theorem dA_define_57 : decode bA_define 57 = .ok (.imul, 1) := by decide +kernel
set_option maxRecDepth 100000 in
theorem dA_define_58 : decode bA_define 58 = .ok (.iload_n 2, 1) := by decide +kernel
set_option maxRecDepth 100000 in
theorem dA_define_59 : decode bA_define 59 = .ok (.iadd, 1) := by decide +kernel
set_option maxRecDepth 100000 in
theorem dA_define_60 : decode bA_define 60 = .ok (.aaload, 1) := by decide +kernel
set_option maxRecDepth 100000 in
theorem dA_define_61 : decode bA_define 61 = .ok (.astore 6, 2) := by decide +kernel
set_option maxRecDepth 100000 in
theorem dA_define_63 : decode bA_define 63 = .ok (.aload 6, 2) := by decide +kernel
set_option maxRecDepth 100000 in
theorem dA_define_65 : decode bA_define 65 = .ok (.iload_n 3, 1) := by decide +kernel
set_option maxRecDepth 100000 in
theorem dA_define_66 : decode bA_define 66 = .ok (.putfield 105, 3) := by decide +kernel
set_option maxRecDepth 100000 in
theorem dA_define_69 : decode bA_define 69 = .ok (.aload 6, 2) := by decide +kernel
set_option maxRecDepth 100000 in
theorem dA_define_71 : decode bA_define 71 = .ok (.iload 4, 2) := by decide +kernel
set_option maxRecDepth 100000 in
theorem dA_define_73 : decode bA_define 73 = .ok (.putfield 108, 3) := by decide +kernel
set_option maxRecDepth 100000 in
theorem dA_define_76 : decode bA_define 76 = .ok (.aload_n 0, 1) := by decide +kernel
set_option maxRecDepth 100000 in
theorem dA_define_77 : decode bA_define 77 = .ok (.iconst 1, 1) := by decide +kernel
set_option maxRecDepth 100000 in
theorem dA_define_78 : decode bA_define 78 = .ok (.invokevirtual 112, 3) := by decide +kernel
set_option maxRecDepth 100000 in
theorem dA_define_81 : decode bA_define 81 = .ok (.ireturn, 1) := by decide +kernel
def fA_define (σ : xS) (a1 : Int32) (a2 : Int32) (a3 : Int32) (a4 : Int32) : Option (Int32 × xS) :=
  if (fA_isBelow a1 3) = 0 then
  (some ((-1), σ))
  else
  (if (fA_isBelow a2 4) = 0 then
  (some ((-1), σ))
  else
  (if (fA_isBelow a3 3) = 0 then
  (some ((-1), σ))
  else
  (if (σ.1 0 0 3) ≤ 0 then
  (xb (fA_misuseOfPlainStep σ 0) fun r9 s10 =>
  if r9 = 0 then
  (if ¬ (((a1 * 4) + a2) < 0 ∨ 12 ≤ ((a1 * 4) + a2).toNatClampNeg) then
  xl (x_si s10 14 (((a1 * 4) + a2).toNatClampNeg) 0 a3) fun s14 =>
  if a4 = 0 ∨ a4 = 1 then
  xl (x_si s14 14 (((a1 * 4) + a2).toNatClampNeg) 1 a4) fun s16 =>
  xl (fA_idleWith s16 1) fun s18 =>
  some (s18.1, s18.2)
  else none
  else none)
  else
  (some (r9, s10)))
  else
  (some ((-2), σ)))))
set_option maxHeartbeats 4000000 in
set_option maxRecDepth 100000 in
theorem cA_define (l : Launch) (E : xE) (σ : xS) (τ : yS) (a1 : Int32) (a2 : Int32) (a3 : Int32) (a4 : Int32) (res : Int32 × xS) (hf : fA_define σ a1 a2 a3 a4 = some res) : xM l E yA_define bA_define 7 (some .int) 5 0 0 [.ref (E.2.2.1 0 0), .int a1, .int a2, .int a3, .int a4] σ τ (some (.int res.1)) res.2 τ := by
  refine x_met (by decide) (Nat.le_of_ble_eq_true rfl) (fun p e R s m args below meth c A ls H locs C hw hl => ?_)
  have hl : lv_has ls 7 [(0, .ref (E.2.2.1 0 0)), (1, .int a1), (2, .int a2), (3, .int a3), (4, .int a4)] := hl
  have hx := C.1
  have hb := C.2.1
  unfold fA_define at hf
  refine lv_iload_n hx hb dA_define_0 rfl (lv_at hl 1 rfl) ?_
  refine lv_iconst (v := 3) hx hb dA_define_1 (by decide) ?_
  refine x_callS (As := [.int a1, .int 3]) (rest := []) (st1 := [.int (fA_isBelow a1 3)]) C hw (cA_isBelow l E σ τ a1 3) kA_97 (by decide) rfl rfl hl.1 (lv_room (Nat.le_of_ble_eq_true rfl)) dA_define_2 ⟨by decide, by decide⟩ rfl (fun H locs hw => ?_)
  refine lv_if_eq (tgt := 24) hx hb dA_define_5 (by decide) (fun c2 => ?_) (fun c2 => ?_)
  · replace hf := x_ip c2 hf
    refine lv_iconst (v := (-1)) hx hb dA_define_24 (by decide) ?_
    obtain rfl := Option.some.inj hf
    exact x_iret C hw dA_define_25
  · replace hf := x_in c2 hf
    refine lv_iload_n hx hb dA_define_8 rfl (lv_at hl 2 rfl) ?_
    refine lv_iconst (v := 4) hx hb dA_define_9 (by decide) ?_
    refine x_callS (As := [.int a2, .int 4]) (rest := []) (st1 := [.int (fA_isBelow a2 4)]) C hw (cA_isBelow l E σ τ a2 4) kA_97 (by decide) rfl rfl hl.1 (lv_room (Nat.le_of_ble_eq_true rfl)) dA_define_10 ⟨by decide, by decide⟩ rfl (fun H locs hw => ?_)
    refine lv_if_eq (tgt := 24) hx hb dA_define_13 (by decide) (fun c4 => ?_) (fun c4 => ?_)
    · replace hf := x_ip c4 hf
      refine lv_iconst (v := (-1)) hx hb dA_define_24 (by decide) ?_
      obtain rfl := Option.some.inj hf
      exact x_iret C hw dA_define_25
    · replace hf := x_in c4 hf
      refine lv_iload_n hx hb dA_define_16 rfl (lv_at hl 3 rfl) ?_
      refine lv_iconst (v := 3) hx hb dA_define_17 (by decide) ?_
      refine x_callS (As := [.int a3, .int 3]) (rest := []) (st1 := [.int (fA_isBelow a3 3)]) C hw (cA_isBelow l E σ τ a3 3) kA_97 (by decide) rfl rfl hl.1 (lv_room (Nat.le_of_ble_eq_true rfl)) dA_define_18 ⟨by decide, by decide⟩ rfl (fun H locs hw => ?_)
      refine lv_if_ne (tgt := 26) hx hb dA_define_21 (by decide) (fun c6 => ?_) (fun c6 => ?_)
      · replace hf := x_in c6 hf
        refine lv_aload_n hx hb dA_define_26 rfl (lv_at hl 0 rfl) ?_
        refine x_get C hw 0 0 3 (v := .int (σ.1 0 0 3)) at_0 rfl rfl ⟨by decide, by decide⟩ wA_22 rfl dA_define_27 ?_
        refine lv_if_le (tgt := 36) hx hb dA_define_30 (by decide) (fun c7 => ?_) (fun c7 => ?_)
        · replace hf := x_ip c7 hf
          refine lv_aload_n hx hb dA_define_36 rfl (lv_at hl 0 rfl) ?_
          refine lv_iconst (v := 0) hx hb dA_define_37 (by decide) ?_
          obtain ⟨r9, s10, h8, hf⟩ := x_b hf
          refine x_callV (As := [.int 0]) (rest := []) (st1 := [.int r9]) C hw (cA_misuseOfPlainStep l E σ τ 0 (r9, s10) h8) kA_101 (x_recv C hw 0 0 at_0 rfl rfl) (by decide) rfl rfl hl.1 (lv_room (Nat.le_of_ble_eq_true rfl)) dA_define_38 ⟨by decide, by decide⟩ rfl (fun H locs hw => ?_)
          refine lv_istore (lv' := [(5, .int r9), (0, .ref (E.2.2.1 0 0)), (1, .int a1), (2, .int a2), (3, .int a3), (4, .int a4)]) hx hb dA_define_41 hl (by decide) rfl (fun ls hl => ?_)
          refine lv_iload hx hb dA_define_43 (lv_at hl 0 rfl) ?_
          refine lv_if_eq (tgt := 51) hx hb dA_define_45 (by decide) (fun c11 => ?_) (fun c11 => ?_)
          · replace hf := x_ip c11 hf
            refine lv_aload_n hx hb dA_define_51 rfl (lv_at hl 1 rfl) ?_
            refine x_get C hw 0 0 0 (v := .ref (E.2.2.1 1 0)) at_0 rfl rfl ⟨by decide, by decide⟩ wA_11 rfl dA_define_52 ?_
            refine lv_iload_n hx hb dA_define_55 rfl (lv_at hl 2 rfl) ?_
            refine lv_iconst (v := 4) hx hb dA_define_56 (by decide) ?_
            refine lv_imul hx hb dA_define_57 ?_
            refine lv_iload_n hx hb dA_define_58 rfl (lv_at hl 3 rfl) ?_
            refine lv_iadd hx hb dA_define_59 ?_
            obtain ⟨g12, hf⟩ := x_g hf
            refine x_ald1 C hw g12 dA_define_60 ?_
            have g13 := x_lt g12
            refine lv_astore (lv' := [(6, .ref (E.2.2.1 14 (((a1 * 4) + a2).toNatClampNeg))), (5, .int r9), (0, .ref (E.2.2.1 0 0)), (1, .int a1), (2, .int a2), (3, .int a3), (4, .int a4)]) hx hb dA_define_61 hl (by decide) rfl (fun ls hl => ?_)
            refine lv_aload hx hb dA_define_63 (lv_at hl 0 rfl) ?_
            refine lv_iload_n hx hb dA_define_65 rfl (lv_at hl 5 rfl) ?_
            refine x_putiN C hw 14 (((a1 * 4) + a2).toNatClampNeg) 0 (at_14 g13) rfl rfl rfl ⟨rfl, rfl⟩ ⟨by decide, by decide⟩ (Nat.le_of_ble_eq_true rfl) wA_105 dA_define_66 (fun H locs hw => ?_)
            obtain ⟨s14, es14, hf⟩ := x_l hf
            rw [← es14] at hw
            refine lv_aload hx hb dA_define_69 (lv_at hl 0 rfl) ?_
            refine lv_iload hx hb dA_define_71 (lv_at hl 6 rfl) ?_
            obtain ⟨g15, hf⟩ := x_g hf
            refine x_putzN C hw 14 (((a1 * 4) + a2).toNatClampNeg) 1 (at_14 g13) g15 rfl rfl rfl ⟨rfl, rfl⟩ ⟨by decide, by decide⟩ (Nat.le_of_ble_eq_true rfl) wA_108 dA_define_73 (fun H locs hw => ?_)
            obtain ⟨s16, es16, hf⟩ := x_l hf
            rw [← es16] at hw
            refine lv_aload_n hx hb dA_define_76 rfl (lv_at hl 2 rfl) ?_
            refine lv_iconst (v := 1) hx hb dA_define_77 (by decide) ?_
            obtain ⟨s18, h17, hf⟩ := x_l hf
            refine x_callV (As := [.int 1]) (rest := []) (st1 := [.int s18.1]) C hw (cA_idleWith l E s16 τ 1 s18 h17.symm) kA_112 (x_recv C hw 0 0 at_0 rfl rfl) (by decide) rfl rfl hl.1 (lv_room (Nat.le_of_ble_eq_true rfl)) dA_define_78 ⟨by decide, by decide⟩ rfl (fun H locs hw => ?_)
            obtain rfl := Option.some.inj hf
            exact x_iret C hw dA_define_81
          · replace hf := x_in c11 hf
            refine lv_iload hx hb dA_define_48 (lv_at hl 0 rfl) ?_
            obtain rfl := Option.some.inj hf
            exact x_iret C hw dA_define_50
        · replace hf := x_in c7 hf
          refine lv_bipush (v := (-2)) hx hb dA_define_33 (by decide) ?_
          obtain rfl := Option.some.inj hf
          exact x_iret C hw dA_define_35
      · replace hf := x_ip c6 hf
        refine lv_iconst (v := (-1)) hx hb dA_define_24 (by decide) ?_
        obtain rfl := Option.some.inj hf
        exact x_iret C hw dA_define_25
-- StandIns make (II)I
set_option maxRecDepth 100000 in
theorem dA_make_0 : decode bA_make 0 = .ok (.iload_n 1, 1) := by decide +kernel
set_option maxRecDepth 100000 in
theorem dA_make_1 : decode bA_make 1 = .ok (.iconst 3, 1) := by decide +kernel
set_option maxRecDepth 100000 in
theorem dA_make_2 : decode bA_make 2 = .ok (.invokestatic 97, 3) := by decide +kernel
set_option maxRecDepth 100000 in
theorem dA_make_5 : decode bA_make 5 = .ok (.ifCond .eq 12, 3) := by decide +kernel
set_option maxRecDepth 100000 in
theorem dA_make_8 : decode bA_make 8 = .ok (.iload_n 2, 1) := by decide +kernel
set_option maxRecDepth 100000 in
theorem dA_make_9 : decode bA_make 9 = .ok (.ifCond .lt 8, 3) := by decide +kernel
set_option maxRecDepth 100000 in
theorem dA_make_12 : decode bA_make 12 = .ok (.iload_n 2, 1) := by decide +kernel
set_option maxRecDepth 100000 in
theorem dA_make_13 : decode bA_make 13 = .ok (.iconst 2, 1) := by decide +kernel
set_option maxRecDepth 100000 in
theorem dA_make_14 : decode bA_make 14 = .ok (.if_icmp .le 5, 3) := by decide +kernel
set_option maxRecDepth 100000 in
theorem dA_make_17 : decode bA_make 17 = .ok (.iconst (-1), 1) := by decide +kernel
set_option maxRecDepth 100000 in
theorem dA_make_18 : decode bA_make 18 = .ok (.ireturn, 1) := by decide +kernel
set_option maxRecDepth 100000 in
theorem dA_make_19 : decode bA_make 19 = .ok (.aload_n 0, 1) := by decide +kernel
set_option maxRecDepth 100000 in
theorem dA_make_20 : decode bA_make 20 = .ok (.getfield 22, 3) := by decide +kernel
set_option maxRecDepth 100000 in
theorem dA_make_23 : decode bA_make 23 = .ok (.bipush 6, 2) := by decide +kernel
set_option maxRecDepth 100000 in
theorem dA_make_25 : decode bA_make 25 = .ok (.if_icmp .lt 6, 3) := by decide +kernel
set_option maxRecDepth 100000 in
theorem dA_make_28 : decode bA_make 28 = .ok (.bipush (-2), 2) := by decide +kernel
set_option maxRecDepth 100000 in
theorem dA_make_30 : decode bA_make 30 = .ok (.ireturn, 1) := by decide +kernel
set_option maxRecDepth 100000 in
theorem dA_make_31 : decode bA_make 31 = .ok (.aload_n 0, 1) := by decide +kernel
set_option maxRecDepth 100000 in
theorem dA_make_32 : decode bA_make 32 = .ok (.iconst 0, 1) := by decide +kernel
set_option maxRecDepth 100000 in
theorem dA_make_33 : decode bA_make 33 = .ok (.invokevirtual 101, 3) := by decide +kernel
set_option maxRecDepth 100000 in
theorem dA_make_36 : decode bA_make 36 = .ok (.istore_n 3, 1) := by decide +kernel
set_option maxRecDepth 100000 in
theorem dA_make_37 : decode bA_make 37 = .ok (.iload_n 3, 1) := by decide +kernel
set_option maxRecDepth 100000 in
theorem dA_make_38 : decode bA_make 38 = .ok (.ifCond .eq 5, 3) := by decide +kernel
set_option maxRecDepth 100000 in
theorem dA_make_41 : decode bA_make 41 = .ok (.iload_n 3, 1) := by decide +kernel
set_option maxRecDepth 100000 in
theorem dA_make_42 : decode bA_make 42 = .ok (.ireturn, 1) := by decide +kernel
set_option maxRecDepth 100000 in
theorem dA_make_43 : decode bA_make 43 = .ok (.aload_n 0, 1) := by decide +kernel
set_option maxRecDepth 100000 in
theorem dA_make_44 : decode bA_make 44 = .ok (.getfield 15, 3) := by decide +kernel
set_option maxRecDepth 100000 in
theorem dA_make_47 : decode bA_make 47 = .ok (.aload_n 0, 1) := by decide +kernel
set_option maxRecDepth 100000 in
theorem dA_make_48 : decode bA_make 48 = .ok (.getfield 22, 3) := by decide +kernel
set_option maxRecDepth 100000 in
theorem dA_make_51 : decode bA_make 51 = .ok (.iload_n 1, 1) := by decide +kernel
set_option maxRecDepth 100000 in
theorem dA_make_52 : decode bA_make 52 = .ok (.iastore, 1) := by decide +kernel
set_option maxRecDepth 100000 in
theorem dA_make_53 : decode bA_make 53 = .ok (.aload_n 0, 1) := by decide +kernel
set_option maxRecDepth 100000 in
theorem dA_make_54 : decode bA_make 54 = .ok (.getfield 19, 3) := by decide +kernel
set_option maxRecDepth 100000 in
theorem dA_make_57 : decode bA_make 57 = .ok (.aload_n 0, 1) := by decide +kernel
set_option maxRecDepth 100000 in
theorem dA_make_58 : decode bA_make 58 = .ok (.getfield 22, 3) := by decide +kernel
set_option maxRecDepth 100000 in
theorem dA_make_61 : decode bA_make 61 = .ok (.iload_n 2, 1) := by decide +kernel
set_option maxRecDepth 100000 in
theorem dA_make_62 : decode bA_make 62 = .ok (.iastore, 1) := by decide +kernel
set_option maxRecDepth 100000 in
theorem dA_make_63 : decode bA_make 63 = .ok (.aload_n 0, 1) := by decide +kernel
set_option maxRecDepth 100000 in
theorem dA_make_64 : decode bA_make 64 = .ok (.dup, 1) := by decide +kernel
set_option maxRecDepth 100000 in
theorem dA_make_65 : decode bA_make 65 = .ok (.getfield 22, 3) := by decide +kernel
set_option maxRecDepth 100000 in
theorem dA_make_68 : decode bA_make 68 = .ok (.iconst 1, 1) := by decide +kernel
set_option maxRecDepth 100000 in
theorem dA_make_69 : decode bA_make 69 = .ok (.iadd, 1) := by decide +kernel
set_option maxRecDepth 100000 in
theorem dA_make_70 : decode bA_make 70 = .ok (.putfield 22, 3) := by decide +kernel
set_option maxRecDepth 100000 in
theorem dA_make_73 : decode bA_make 73 = .ok (.aload_n 0, 1) := by decide +kernel
set_option maxRecDepth 100000 in
theorem dA_make_74 : decode bA_make 74 = .ok (.aload_n 0, 1) := by decide +kernel
set_option maxRecDepth 100000 in
theorem dA_make_75 : decode bA_make 75 = .ok (.getfield 22, 3) := by decide +kernel
set_option maxRecDepth 100000 in
theorem dA_make_78 : decode bA_make 78 = .ok (.iconst 1, 1) := by decide +kernel
set_option maxRecDepth 100000 in
theorem dA_make_79 : decode bA_make 79 = .ok (.isub, 1) := by decide +kernel
set_option maxRecDepth 100000 in
theorem dA_make_80 : decode bA_make 80 = .ok (.invokevirtual 112, 3) := by decide +kernel
set_option maxRecDepth 100000 in
theorem dA_make_83 : decode bA_make 83 = .ok (.ireturn, 1) := by decide +kernel
def fA_make (σ : xS) (a1 : Int32) (a2 : Int32) : Option (Int32 × xS) :=
  if (fA_isBelow a1 3) = 0 then
  (some ((-1), σ))
  else
  (if a2 < 0 then
  (some ((-1), σ))
  else
  (if a2 ≤ 2 then
  (if (σ.1 0 0 3) < 6 then
  (xb (fA_misuseOfPlainStep σ 0) fun r7 s8 =>
  if r7 = 0 then
  (if ¬ ((s8.1 0 0 3) < 0 ∨ 6 ≤ (s8.1 0 0 3).toNatClampNeg) then
  xl (x_si s8 2 0 ((s8.1 0 0 3).toNatClampNeg) a1) fun s11 =>
  if ¬ ((s11.1 0 0 3) < 0 ∨ 6 ≤ (s11.1 0 0 3).toNatClampNeg) then
  xl (x_si s11 3 0 ((s11.1 0 0 3).toNatClampNeg) a2) fun s13 =>
  xl (x_si s13 0 0 3 ((s13.1 0 0 3) + 1)) fun s14 =>
  xl (fA_idleWith s14 ((s14.1 0 0 3) - 1)) fun s16 =>
  some (s16.1, s16.2)
  else none
  else none)
  else
  (some (r7, s8)))
  else
  (some ((-2), σ)))
  else
  (some ((-1), σ))))
set_option maxHeartbeats 4000000 in
set_option maxRecDepth 100000 in
theorem cA_make (l : Launch) (E : xE) (σ : xS) (τ : yS) (a1 : Int32) (a2 : Int32) (res : Int32 × xS) (hf : fA_make σ a1 a2 = some res) : xM l E yA_make bA_make 4 (some .int) 5 0 0 [.ref (E.2.2.1 0 0), .int a1, .int a2] σ τ (some (.int res.1)) res.2 τ := by
  refine x_met (by decide) (Nat.le_of_ble_eq_true rfl) (fun p e R s m args below meth c A ls H locs C hw hl => ?_)
  have hl : lv_has ls 4 [(0, .ref (E.2.2.1 0 0)), (1, .int a1), (2, .int a2)] := hl
  have hx := C.1
  have hb := C.2.1
  unfold fA_make at hf
  refine lv_iload_n hx hb dA_make_0 rfl (lv_at hl 1 rfl) ?_
  refine lv_iconst (v := 3) hx hb dA_make_1 (by decide) ?_
  refine x_callS (As := [.int a1, .int 3]) (rest := []) (st1 := [.int (fA_isBelow a1 3)]) C hw (cA_isBelow l E σ τ a1 3) kA_97 (by decide) rfl rfl hl.1 (lv_room (Nat.le_of_ble_eq_true rfl)) dA_make_2 ⟨by decide, by decide⟩ rfl (fun H locs hw => ?_)
  refine lv_if_eq (tgt := 17) hx hb dA_make_5 (by decide) (fun c2 => ?_) (fun c2 => ?_)
  · replace hf := x_ip c2 hf
    refine lv_iconst (v := (-1)) hx hb dA_make_17 (by decide) ?_
    obtain rfl := Option.some.inj hf
    exact x_iret C hw dA_make_18
  · replace hf := x_in c2 hf
    refine lv_iload_n hx hb dA_make_8 rfl (lv_at hl 2 rfl) ?_
    refine lv_if_lt (tgt := 17) hx hb dA_make_9 (by decide) (fun c3 => ?_) (fun c3 => ?_)
    · replace hf := x_ip c3 hf
      refine lv_iconst (v := (-1)) hx hb dA_make_17 (by decide) ?_
      obtain rfl := Option.some.inj hf
      exact x_iret C hw dA_make_18
    · replace hf := x_in c3 hf
      refine lv_iload_n hx hb dA_make_12 rfl (lv_at hl 2 rfl) ?_
      refine lv_iconst (v := 2) hx hb dA_make_13 (by decide) ?_
      refine lv_icmp_le (tgt := 19) hx hb dA_make_14 (by decide) (fun c4 => ?_) (fun c4 => ?_)
      · replace hf := x_ip c4 hf
        refine lv_aload_n hx hb dA_make_19 rfl (lv_at hl 0 rfl) ?_
        refine x_get C hw 0 0 3 (v := .int (σ.1 0 0 3)) at_0 rfl rfl ⟨by decide, by decide⟩ wA_22 rfl dA_make_20 ?_
        refine lv_bipush (v := 6) hx hb dA_make_23 (by decide) ?_
        refine lv_icmp_lt (tgt := 31) hx hb dA_make_25 (by decide) (fun c5 => ?_) (fun c5 => ?_)
        · replace hf := x_ip c5 hf
          refine lv_aload_n hx hb dA_make_31 rfl (lv_at hl 0 rfl) ?_
          refine lv_iconst (v := 0) hx hb dA_make_32 (by decide) ?_
          obtain ⟨r7, s8, h6, hf⟩ := x_b hf
          refine x_callV (As := [.int 0]) (rest := []) (st1 := [.int r7]) C hw (cA_misuseOfPlainStep l E σ τ 0 (r7, s8) h6) kA_101 (x_recv C hw 0 0 at_0 rfl rfl) (by decide) rfl rfl hl.1 (lv_room (Nat.le_of_ble_eq_true rfl)) dA_make_33 ⟨by decide, by decide⟩ rfl (fun H locs hw => ?_)
          refine lv_istore_n (lv' := [(3, .int r7), (0, .ref (E.2.2.1 0 0)), (1, .int a1), (2, .int a2)]) hx hb dA_make_36 rfl hl (by decide) rfl (fun ls hl => ?_)
          refine lv_iload_n hx hb dA_make_37 rfl (lv_at hl 0 rfl) ?_
          refine lv_if_eq (tgt := 43) hx hb dA_make_38 (by decide) (fun c9 => ?_) (fun c9 => ?_)
          · replace hf := x_ip c9 hf
            refine lv_aload_n hx hb dA_make_43 rfl (lv_at hl 1 rfl) ?_
            refine x_get C hw 0 0 1 (v := .ref (E.2.2.1 2 0)) at_0 rfl rfl ⟨by decide, by decide⟩ wA_15 rfl dA_make_44 ?_
            refine lv_aload_n hx hb dA_make_47 rfl (lv_at hl 1 rfl) ?_
            refine x_get C hw 0 0 3 (v := .int (s8.1 0 0 3)) at_0 rfl rfl ⟨by decide, by decide⟩ wA_22 rfl dA_make_48 ?_
            refine lv_iload_n hx hb dA_make_51 rfl (lv_at hl 2 rfl) ?_
            obtain ⟨g10, hf⟩ := x_g hf
            refine x_ist C hw 2 0 at_2 rfl rfl g10 dA_make_52 (fun H locs hw => ?_)
            obtain ⟨s11, es11, hf⟩ := x_l hf
            rw [← es11] at hw
            refine lv_aload_n hx hb dA_make_53 rfl (lv_at hl 1 rfl) ?_
            refine x_get C hw 0 0 2 (v := .ref (E.2.2.1 3 0)) at_0 rfl rfl ⟨by decide, by decide⟩ wA_19 rfl dA_make_54 ?_
            refine lv_aload_n hx hb dA_make_57 rfl (lv_at hl 1 rfl) ?_
            refine x_get C hw 0 0 3 (v := .int (s11.1 0 0 3)) at_0 rfl rfl ⟨by decide, by decide⟩ wA_22 rfl dA_make_58 ?_
            refine lv_iload_n hx hb dA_make_61 rfl (lv_at hl 3 rfl) ?_
            obtain ⟨g12, hf⟩ := x_g hf
            refine x_ist C hw 3 0 at_3 rfl rfl g12 dA_make_62 (fun H locs hw => ?_)
            obtain ⟨s13, es13, hf⟩ := x_l hf
            rw [← es13] at hw
            refine lv_aload_n hx hb dA_make_63 rfl (lv_at hl 1 rfl) ?_
            refine lv_dup hx hb dA_make_64 rfl ?_
            refine x_get C hw 0 0 3 (v := .int (s13.1 0 0 3)) at_0 rfl rfl ⟨by decide, by decide⟩ wA_22 rfl dA_make_65 ?_
            refine lv_iconst (v := 1) hx hb dA_make_68 (by decide) ?_
            refine lv_iadd hx hb dA_make_69 ?_
            refine x_puti C hw 0 0 3 at_0 rfl rfl rfl ⟨rfl, rfl⟩ ⟨by decide, by decide⟩ (Nat.le_of_ble_eq_true rfl) wA_22 dA_make_70 (fun H locs hw => ?_)
            obtain ⟨s14, es14, hf⟩ := x_l hf
            rw [← es14] at hw
            refine lv_aload_n hx hb dA_make_73 rfl (lv_at hl 1 rfl) ?_
            refine lv_aload_n hx hb dA_make_74 rfl (lv_at hl 1 rfl) ?_
            refine x_get C hw 0 0 3 (v := .int (s14.1 0 0 3)) at_0 rfl rfl ⟨by decide, by decide⟩ wA_22 rfl dA_make_75 ?_
            refine lv_iconst (v := 1) hx hb dA_make_78 (by decide) ?_
            refine lv_isub hx hb dA_make_79 ?_
            obtain ⟨s16, h15, hf⟩ := x_l hf
            refine x_callV (As := [.int ((s14.1 0 0 3) - 1)]) (rest := []) (st1 := [.int s16.1]) C hw (cA_idleWith l E s14 τ ((s14.1 0 0 3) - 1) s16 h15.symm) kA_112 (x_recv C hw 0 0 at_0 rfl rfl) (by decide) rfl rfl hl.1 (lv_room (Nat.le_of_ble_eq_true rfl)) dA_make_80 ⟨by decide, by decide⟩ rfl (fun H locs hw => ?_)
            obtain rfl := Option.some.inj hf
            exact x_iret C hw dA_make_83
          · replace hf := x_in c9 hf
            refine lv_iload_n hx hb dA_make_41 rfl (lv_at hl 0 rfl) ?_
            obtain rfl := Option.some.inj hf
            exact x_iret C hw dA_make_42
        · replace hf := x_in c5 hf
          refine lv_bipush (v := (-2)) hx hb dA_make_28 (by decide) ?_
          obtain rfl := Option.some.inj hf
          exact x_iret C hw dA_make_30
      · replace hf := x_in c4 hf
        refine lv_iconst (v := (-1)) hx hb dA_make_17 (by decide) ?_
        obtain rfl := Option.some.inj hf
        exact x_iret C hw dA_make_18
-- StandIns$Matcher takenBy (I)I
set_option maxRecDepth 100000 in
theorem dH_takenBy_0 : decode bH_takenBy 0 = .ok (.iload_n 0, 1) := by decide +kernel
set_option maxRecDepth 100000 in
theorem dH_takenBy_1 : decode bH_takenBy 1 = .ok (.tableswitch 31 4 6 #[27, 27, 29], 27) := by decide +kernel
set_option maxRecDepth 100000 in
theorem dH_takenBy_28 : decode bH_takenBy 28 = .ok (.iconst 2, 1) := by decide +kernel
set_option maxRecDepth 100000 in
theorem dH_takenBy_29 : decode bH_takenBy 29 = .ok (.ireturn, 1) := by decide +kernel
set_option maxRecDepth 100000 in
theorem dH_takenBy_30 : decode bH_takenBy 30 = .ok (.iconst 1, 1) := by decide +kernel
set_option maxRecDepth 100000 in
theorem dH_takenBy_31 : decode bH_takenBy 31 = .ok (.ireturn, 1) := by decide +kernel
set_option maxRecDepth 100000 in
theorem dH_takenBy_32 : decode bH_takenBy 32 = .ok (.iconst 0, 1) := by decide +kernel
set_option maxRecDepth 100000 in
theorem dH_takenBy_33 : decode bH_takenBy 33 = .ok (.ireturn, 1) := by decide +kernel
def fH_takenBy (a0 : Int32) : Int32 :=
  if a0 = 4 then
  (2)
  else
  (if a0 = 5 then
  (2)
  else
  (if a0 = 6 then
  (1)
  else
  (0)))
set_option maxHeartbeats 4000000 in
set_option maxRecDepth 100000 in
theorem cH_takenBy (l : Launch) (E : xE) (σ : xS) (τ : yS) (a0 : Int32) : xM l E yH_takenBy bH_takenBy 1 (some .int) 0 0 0 [.int a0] σ τ (some (.int (fH_takenBy a0))) σ τ := by
  refine x_met (by decide) (Nat.le_of_ble_eq_true rfl) (fun p e R s m args below meth c A ls H locs C hw hl => ?_)
  have hl : lv_has ls 1 [(0, .int a0)] := hl
  have hx := C.1
  have hb := C.2.1
  obtain ⟨res, hf⟩ : ∃ z, fH_takenBy a0 = z := ⟨_, rfl⟩
  rw [hf]
  unfold fH_takenBy at hf
  refine lv_iload_n hx hb dH_takenBy_0 rfl (lv_at hl 0 rfl) ?_
  by_cases c1 : a0 = 4
  · replace hf := x_ip c1 hf
    refine lv_tableIn (tgt := 28) hx hb dH_takenBy_1 (by rw [c1]; decide) (by rw [c1]; decide) (by rw [c1]; rfl) (by decide) ?_
    refine lv_iconst (v := 2) hx hb dH_takenBy_28 (by decide) ?_
    obtain rfl := hf
    exact x_iret C hw dH_takenBy_29
  · replace hf := x_in c1 hf
    by_cases c2 : a0 = 5
    · replace hf := x_ip c2 hf
      refine lv_tableIn (tgt := 28) hx hb dH_takenBy_1 (by rw [c2]; decide) (by rw [c2]; decide) (by rw [c2]; rfl) (by decide) ?_
      refine lv_iconst (v := 2) hx hb dH_takenBy_28 (by decide) ?_
      obtain rfl := hf
      exact x_iret C hw dH_takenBy_29
    · replace hf := x_in c2 hf
      by_cases c3 : a0 = 6
      · replace hf := x_ip c3 hf
        refine lv_tableIn (tgt := 30) hx hb dH_takenBy_1 (by rw [c3]; decide) (by rw [c3]; decide) (by rw [c3]; rfl) (by decide) ?_
        refine lv_iconst (v := 1) hx hb dH_takenBy_30 (by decide) ?_
        obtain rfl := hf
        exact x_iret C hw dH_takenBy_31
      · replace hf := x_in c3 hf
        refine lv_tableOut (tgt := 32) hx hb dH_takenBy_1 (by have nc1 := lv_neT c1 (a := 4) (by decide); have nc2 := lv_neT c2 (a := 5) (by decide); have nc3 := lv_neT c3 (a := 6) (by decide); omega) (by decide) ?_
        refine lv_iconst (v := 0) hx hb dH_takenBy_32 (by decide) ?_
        obtain rfl := hf
        exact x_iret C hw dH_takenBy_33
-- StandIns$Matcher sizeOf (LStandIns$Matcher;)I
set_option maxRecDepth 100000 in
theorem dH_sizeOf_0 : decode bH_sizeOf 0 = .ok (.aload_n 0, 1) := by decide +kernel
set_option maxRecDepth 100000 in
theorem dH_sizeOf_1 : decode bH_sizeOf 1 = .ok (.ifnonnull 7, 3) := by decide +kernel
set_option maxRecDepth 100000 in
theorem dH_sizeOf_4 : decode bH_sizeOf 4 = .ok (.iconst 0, 1) := by decide +kernel
set_option maxRecDepth 100000 in
theorem dH_sizeOf_5 : decode bH_sizeOf 5 = .ok (.goto 7, 3) := by decide +kernel
set_option maxRecDepth 100000 in
theorem dH_sizeOf_8 : decode bH_sizeOf 8 = .ok (.aload_n 0, 1) := by decide +kernel
set_option maxRecDepth 100000 in
theorem dH_sizeOf_9 : decode bH_sizeOf 9 = .ok (.getfield 29, 3) := by decide +kernel
set_option maxRecDepth 100000 in
theorem dH_sizeOf_12 : decode bH_sizeOf 12 = .ok (.ireturn, 1) := by decide +kernel
def fH_sizeOf (σ : xS) (o0 : Option Nat) : Option (Int32) :=
  if o0 = none then
  (some 0)
  else
  (xp (xd σ.2.2.1 o0) fun q2 =>
  some (σ.1 21 q2 4))
set_option maxHeartbeats 4000000 in
set_option maxRecDepth 100000 in
theorem cH_sizeOf (l : Launch) (E : xE) (σ : xS) (τ : yS) (o0 : Option Nat) (res : Int32) (hf : fH_sizeOf σ o0 = some res) : xM l E yH_sizeOf bH_sizeOf 1 (some .int) 0 0 0 [va_rf o0] σ τ (some (.int res)) σ τ := by
  refine x_met (by decide) (by simp [lg_sl, x_cat, x_cati, x_catr, x_catl]) (fun p e R s m args below meth c A ls H locs C hw hl => ?_)
  have hl : lv_has ls 1 [(0, va_rf o0)] := by simpa [lv_args, x_cat, x_cati, x_catr, x_catl] using hl
  have hx := C.1
  have hb := C.2.1
  unfold fH_sizeOf at hf
  refine x_aload_n hx hb dH_sizeOf_0 rfl (lv_at hl 0 rfl) ?_
  refine x_ifnonnull (tgt := 8) hx hb dH_sizeOf_1 (by decide) (fun c1 => ?_) (fun c1 => ?_)
  · replace hf := x_ip c1 hf
    refine lv_iconst (v := 0) hx hb dH_sizeOf_4 (by decide) ?_
    refine lv_goto (tgt := 12) hx hb dH_sizeOf_5 (by decide) ?_
    obtain rfl := Option.some.inj hf
    exact x_iret C hw dH_sizeOf_12
  · replace hf := x_in c1 hf
    refine x_aload_n hx hb dH_sizeOf_8 rfl (lv_at hl 0 rfl) ?_
    obtain ⟨q2, eq2, hf⟩ := x_p hf
    refine x_getM C hw eq2 4 (v := .int (σ.1 21 q2 4)) (by decide) wH_29 rfl dH_sizeOf_9 ?_
    obtain rfl := Option.some.inj hf
    exact x_iret C hw dH_sizeOf_12
-- StandIns$Stack hasRoomFor (I)Z
set_option maxRecDepth 100000 in
theorem dK_hasRoomFor_0 : decode bK_hasRoomFor 0 = .ok (.iconst 1, 1) := by decide +kernel
set_option maxRecDepth 100000 in
theorem dK_hasRoomFor_1 : decode bK_hasRoomFor 1 = .ok (.istore_n 2, 1) := by decide +kernel
set_option maxRecDepth 100000 in
theorem dK_hasRoomFor_2 : decode bK_hasRoomFor 2 = .ok (.aload_n 0, 1) := by decide +kernel
set_option maxRecDepth 100000 in
theorem dK_hasRoomFor_3 : decode bK_hasRoomFor 3 = .ok (.getfield 17, 3) := by decide +kernel
set_option maxRecDepth 100000 in
theorem dK_hasRoomFor_6 : decode bK_hasRoomFor 6 = .ok (.iload_n 1, 1) := by decide +kernel
set_option maxRecDepth 100000 in
theorem dK_hasRoomFor_7 : decode bK_hasRoomFor 7 = .ok (.isub, 1) := by decide +kernel
set_option maxRecDepth 100000 in
theorem dK_hasRoomFor_8 : decode bK_hasRoomFor 8 = .ok (.iconst 0, 1) := by decide +kernel
set_option maxRecDepth 100000 in
theorem dK_hasRoomFor_9 : decode bK_hasRoomFor 9 = .ok (.invokestatic 21, 3) := by decide +kernel
set_option maxRecDepth 100000 in
theorem dK_hasRoomFor_12 : decode bK_hasRoomFor 12 = .ok (.istore_n 3, 1) := by decide +kernel
set_option maxRecDepth 100000 in
theorem dK_hasRoomFor_13 : decode bK_hasRoomFor 13 = .ok (.iload_n 3, 1) := by decide +kernel
set_option maxRecDepth 100000 in
theorem dK_hasRoomFor_14 : decode bK_hasRoomFor 14 = .ok (.aload_n 0, 1) := by decide +kernel
set_option maxRecDepth 100000 in
theorem dK_hasRoomFor_15 : decode bK_hasRoomFor 15 = .ok (.getfield 17, 3) := by decide +kernel
set_option maxRecDepth 100000 in
theorem dK_hasRoomFor_18 : decode bK_hasRoomFor 18 = .ok (.if_icmp .ge 21, 3) := by decide +kernel
set_option maxRecDepth 100000 in
theorem dK_hasRoomFor_21 : decode bK_hasRoomFor 21 = .ok (.iload_n 2, 1) := by decide +kernel
set_option maxRecDepth 100000 in
theorem dK_hasRoomFor_22 : decode bK_hasRoomFor 22 = .ok (.aload_n 0, 1) := by decide +kernel
set_option maxRecDepth 100000 in
theorem dK_hasRoomFor_23 : decode bK_hasRoomFor 23 = .ok (.getfield 11, 3) := by decide +kernel
set_option maxRecDepth 100000 in
theorem dK_hasRoomFor_26 : decode bK_hasRoomFor 26 = .ok (.iload_n 3, 1) := by decide +kernel
set_option maxRecDepth 100000 in
theorem dK_hasRoomFor_27 : decode bK_hasRoomFor 27 = .ok (.aaload, 1) := by decide +kernel
set_option maxRecDepth 100000 in
theorem dK_hasRoomFor_28 : decode bK_hasRoomFor 28 = .ok (.invokestatic 27, 3) := by decide +kernel
set_option maxRecDepth 100000 in
theorem dK_hasRoomFor_31 : decode bK_hasRoomFor 31 = .ok (.iadd, 1) := by decide +kernel
set_option maxRecDepth 100000 in
theorem dK_hasRoomFor_32 : decode bK_hasRoomFor 32 = .ok (.istore_n 2, 1) := by decide +kernel
set_option maxRecDepth 100000 in
theorem dK_hasRoomFor_33 : decode bK_hasRoomFor 33 = .ok (.iinc 3 1, 3) := by decide +kernel
set_option maxRecDepth 100000 in
theorem dK_hasRoomFor_36 : decode bK_hasRoomFor 36 = .ok (.goto (-23), 3) := by decide +kernel
set_option maxRecDepth 100000 in
theorem dK_hasRoomFor_39 : decode bK_hasRoomFor 39 = .ok (.aload_n 0, 1) := by decide +kernel
set_option maxRecDepth 100000 in
theorem dK_hasRoomFor_40 : decode bK_hasRoomFor 40 = .ok (.getfield 17, 3) := by decide +kernel
set_option maxRecDepth 100000 in
theorem dK_hasRoomFor_43 : decode bK_hasRoomFor 43 = .ok (.iload_n 1, 1) := by decide +kernel
set_option maxRecDepth 100000 in
theorem dK_hasRoomFor_44 : decode bK_hasRoomFor 44 = .ok (.isub, 1) := by decide +kernel
set_option maxRecDepth 100000 in
theorem dK_hasRoomFor_45 : decode bK_hasRoomFor 45 = .ok (.bipush 6, 2) := by decide +kernel
set_option maxRecDepth 100000 in
theorem dK_hasRoomFor_47 : decode bK_hasRoomFor 47 = .ok (.if_icmp .ge 13, 3) := by decide +kernel
set_option maxRecDepth 100000 in
theorem dK_hasRoomFor_50 : decode bK_hasRoomFor 50 = .ok (.iload_n 2, 1) := by decide +kernel
set_option maxRecDepth 100000 in
theorem dK_hasRoomFor_51 : decode bK_hasRoomFor 51 = .ok (.bipush 8, 2) := by decide +kernel
set_option maxRecDepth 100000 in
theorem dK_hasRoomFor_53 : decode bK_hasRoomFor 53 = .ok (.if_icmp .gt 7, 3) := by decide +kernel
set_option maxRecDepth 100000 in
theorem dK_hasRoomFor_56 : decode bK_hasRoomFor 56 = .ok (.iconst 1, 1) := by decide +kernel
set_option maxRecDepth 100000 in
theorem dK_hasRoomFor_57 : decode bK_hasRoomFor 57 = .ok (.goto 4, 3) := by decide +kernel
set_option maxRecDepth 100000 in
theorem dK_hasRoomFor_60 : decode bK_hasRoomFor 60 = .ok (.iconst 0, 1) := by decide +kernel
set_option maxRecDepth 100000 in
theorem dK_hasRoomFor_61 : decode bK_hasRoomFor 61 = .ok (.ireturn, 1) := by decide +kernel
def fK_hasRoomFor_13b (N : Nat) (rec13 : Int32 → Int32 → Int32 → Option (Int32)) (σ : xS) (a1 : Int32) (a2 : Int32) (a3 : Int32) : Option (Int32) :=
  if (σ.1 4 0 1) ≤ a3 then
  (if 6 ≤ ((σ.1 4 0 1) - a1) then
  (some 0)
  else
  (if 8 < a2 then
  (some 0)
  else
  (some 1)))
  else
  (if ¬ (a3 < 0 ∨ 6 ≤ a3.toNatClampNeg) then
  xp (fH_sizeOf σ (σ.2.1 5 0 a3.toNatClampNeg)) fun r12 =>
  rec13 a1 (a2 + r12) (a3 + 1)
  else none)
def fK_hasRoomFor_13 (N : Nat) (σ : xS) : Nat → Int32 → Int32 → Int32 → Option (Int32)
  | 0, _, _, _ => none
  | n + 1, a1, a2, a3 => fK_hasRoomFor_13b N (fK_hasRoomFor_13 N σ n) σ a1 a2 a3
def fK_hasRoomFor (N : Nat) (σ : xS) (a1 : Int32) : Option (Int32) :=
  fK_hasRoomFor_13 N σ N a1 1 (if ((σ.1 4 0 1) - a1) < 0 then 0 else (σ.1 4 0 1) - a1)
set_option maxHeartbeats 4000000 in
set_option maxRecDepth 100000 in
theorem wK_hasRoomFor_13b {p : Program} {l : Launch} {e : Env} {R : Room} {s : State} {m : MethodId} {args : Array Value} {below : List Frame} {meth : Method} {c : Code} {E : xE} {A : Nat → Prop} {τ : yS} (C : xC p s m args meth c R E A bK_hasRoomFor 4 yK_hasRoomFor (some .boolean) 1 0 0) (N : Nat) (rec13 : Int32 → Int32 → Int32 → Option (Int32)) (σ : xS) (hrec13 : ∀ (a1 : Int32) (a2 : Int32) (a3 : Int32) (res : Int32), rec13 a1 a2 a3 = some res → ∀ (H : Heap) (locs : List Loc) (ls : Array Slot), xW E A s σ τ H locs → lv_has ls 4 [(0, .ref (E.2.2.1 4 0)), (1, .int a1), (2, .int a2), (3, .int a3)] → W p l e R s m args below meth c H locs 0 0 (MQ below (xQ E A (some (.int res)) σ τ) args s 0 0 A) (F0 m 13 ls [])) (a1 : Int32) (a2 : Int32) (a3 : Int32) (res : Int32) (hf : fK_hasRoomFor_13b N rec13 σ a1 a2 a3 = some res) (H : Heap) (locs : List Loc) (ls : Array Slot) (hw : xW E A s σ τ H locs) (hl : lv_has ls 4 [(0, .ref (E.2.2.1 4 0)), (1, .int a1), (2, .int a2), (3, .int a3)]) : W p l e R s m args below meth c H locs 0 0 (MQ below (xQ E A (some (.int res)) σ τ) args s 0 0 A) (F0 m 13 ls []) := by
  have hx := C.1
  have hb := C.2.1
  unfold fK_hasRoomFor_13b at hf
  refine lv_iload_n hx hb dK_hasRoomFor_13 rfl (lv_at hl 3 rfl) ?_
  refine lv_aload_n hx hb dK_hasRoomFor_14 rfl (lv_at hl 0 rfl) ?_
  refine x_get C hw 4 0 1 (v := .int (σ.1 4 0 1)) at_4 rfl rfl ⟨by decide, by decide⟩ wK_17 rfl dK_hasRoomFor_15 ?_
  refine lv_icmp_ge (tgt := 39) hx hb dK_hasRoomFor_18 (by decide) (fun c7 => ?_) (fun c7 => ?_)
  · replace hf := x_ip c7 hf
    refine lv_aload_n hx hb dK_hasRoomFor_39 rfl (lv_at hl 0 rfl) ?_
    refine x_get C hw 4 0 1 (v := .int (σ.1 4 0 1)) at_4 rfl rfl ⟨by decide, by decide⟩ wK_17 rfl dK_hasRoomFor_40 ?_
    refine lv_iload_n hx hb dK_hasRoomFor_43 rfl (lv_at hl 1 rfl) ?_
    refine lv_isub hx hb dK_hasRoomFor_44 ?_
    refine lv_bipush (v := 6) hx hb dK_hasRoomFor_45 (by decide) ?_
    refine lv_icmp_ge (tgt := 60) hx hb dK_hasRoomFor_47 (by decide) (fun c8 => ?_) (fun c8 => ?_)
    · replace hf := x_ip c8 hf
      refine lv_iconst (v := 0) hx hb dK_hasRoomFor_60 (by decide) ?_
      obtain rfl := Option.some.inj hf
      exact x_zret C hw rfl dK_hasRoomFor_61
    · replace hf := x_in c8 hf
      refine lv_iload_n hx hb dK_hasRoomFor_50 rfl (lv_at hl 2 rfl) ?_
      refine lv_bipush (v := 8) hx hb dK_hasRoomFor_51 (by decide) ?_
      refine lv_icmp_gt (tgt := 60) hx hb dK_hasRoomFor_53 (by decide) (fun c9 => ?_) (fun c9 => ?_)
      · replace hf := x_ip c9 hf
        refine lv_iconst (v := 0) hx hb dK_hasRoomFor_60 (by decide) ?_
        obtain rfl := Option.some.inj hf
        exact x_zret C hw rfl dK_hasRoomFor_61
      · replace hf := x_in c9 hf
        refine lv_iconst (v := 1) hx hb dK_hasRoomFor_56 (by decide) ?_
        refine lv_goto (tgt := 61) hx hb dK_hasRoomFor_57 (by decide) ?_
        obtain rfl := Option.some.inj hf
        exact x_zret C hw rfl dK_hasRoomFor_61
  · replace hf := x_in c7 hf
    refine lv_iload_n hx hb dK_hasRoomFor_21 rfl (lv_at hl 2 rfl) ?_
    refine lv_aload_n hx hb dK_hasRoomFor_22 rfl (lv_at hl 0 rfl) ?_
    refine x_get C hw 4 0 0 (v := .ref (E.2.2.1 5 0)) at_4 rfl rfl ⟨by decide, by decide⟩ wK_11 rfl dK_hasRoomFor_23 ?_
    refine lv_iload_n hx hb dK_hasRoomFor_26 rfl (lv_at hl 3 rfl) ?_
    obtain ⟨g10, hf⟩ := x_g hf
    refine x_oald C hw g10 dK_hasRoomFor_27 ?_
    obtain ⟨r12, h11, hf⟩ := x_p hf
    refine x_callSN (As := [va_rf (σ.2.1 5 0 a3.toNatClampNeg)]) (rest := [.int a2]) (st1 := [.int r12, .int a2]) C hw (cH_sizeOf l E σ τ (σ.2.1 5 0 a3.toNatClampNeg) r12 h11) kK_27 (by decide) rfl rfl hl.1 (lv_room (Nat.le_of_ble_eq_true rfl)) dK_hasRoomFor_28 ⟨by decide, by decide⟩ rfl (fun H locs hw => ?_)
    refine lv_iadd hx hb dK_hasRoomFor_31 ?_
    refine lv_istore_n (lv' := [(2, .int (a2 + r12)), (0, .ref (E.2.2.1 4 0)), (1, .int a1), (3, .int a3)]) hx hb dK_hasRoomFor_32 rfl hl (by decide) rfl (fun ls hl => ?_)
    refine lv_iinc (v := a3 + 1) (lv' := [(3, .int (a3 + 1)), (2, .int (a2 + r12)), (0, .ref (E.2.2.1 4 0)), (1, .int a1)]) hx hb dK_hasRoomFor_33 hl (k := 3) rfl rfl (by decide) rfl (fun ls hl => ?_)
    refine lv_goto (tgt := 13) hx hb dK_hasRoomFor_36 (by decide) ?_
    exact hrec13 a1 (a2 + r12) (a3 + 1) res hf H locs ls hw (lv_sub hl [2, 3, 1, 0] rfl)
set_option maxHeartbeats 4000000 in
set_option maxRecDepth 100000 in
theorem wK_hasRoomFor_13 {p : Program} {l : Launch} {e : Env} {R : Room} {s : State} {m : MethodId} {args : Array Value} {below : List Frame} {meth : Method} {c : Code} {E : xE} {A : Nat → Prop} {τ : yS} (C : xC p s m args meth c R E A bK_hasRoomFor 4 yK_hasRoomFor (some .boolean) 1 0 0) (N : Nat) (σ : xS) (n : Nat) : ∀ (a1 : Int32) (a2 : Int32) (a3 : Int32) (res : Int32), fK_hasRoomFor_13 N σ n a1 a2 a3 = some res → ∀ (H : Heap) (locs : List Loc) (ls : Array Slot), xW E A s σ τ H locs → lv_has ls 4 [(0, .ref (E.2.2.1 4 0)), (1, .int a1), (2, .int a2), (3, .int a3)] → W p l e R s m args below meth c H locs 0 0 (MQ below (xQ E A (some (.int res)) σ τ) args s 0 0 A) (F0 m 13 ls []) := by
  induction n with
  | zero => intro a1 a2 a3 res hf; cases hf
  | succ n ih =>
    intro a1 a2 a3 res hf H locs ls hw hl
    exact wK_hasRoomFor_13b C N (fK_hasRoomFor_13 N σ n) σ ih a1 a2 a3 res hf H locs ls hw hl
set_option maxHeartbeats 4000000 in
set_option maxRecDepth 100000 in
theorem cK_hasRoomFor (l : Launch) (E : xE) (N : Nat) (σ : xS) (τ : yS) (a1 : Int32) (res : Int32) (hf : fK_hasRoomFor N σ a1 = some res) : xM l E yK_hasRoomFor bK_hasRoomFor 4 (some .boolean) 1 0 0 [.ref (E.2.2.1 4 0), .int a1] σ τ (some (.int res)) σ τ := by
  refine x_met (by decide) (Nat.le_of_ble_eq_true rfl) (fun p e R s m args below meth c A ls H locs C hw hl => ?_)
  have hl : lv_has ls 4 [(0, .ref (E.2.2.1 4 0)), (1, .int a1)] := hl
  have hx := C.1
  have hb := C.2.1
  unfold fK_hasRoomFor at hf
  refine lv_iconst (v := 1) hx hb dK_hasRoomFor_0 (by decide) ?_
  refine lv_istore_n (lv' := [(2, .int 1), (0, .ref (E.2.2.1 4 0)), (1, .int a1)]) hx hb dK_hasRoomFor_1 rfl hl (by decide) rfl (fun ls hl => ?_)
  refine lv_aload_n hx hb dK_hasRoomFor_2 rfl (lv_at hl 1 rfl) ?_
  refine x_get C hw 4 0 1 (v := .int (σ.1 4 0 1)) at_4 rfl rfl ⟨by decide, by decide⟩ wK_17 rfl dK_hasRoomFor_3 ?_
  refine lv_iload_n hx hb dK_hasRoomFor_6 rfl (lv_at hl 2 rfl) ?_
  refine lv_isub hx hb dK_hasRoomFor_7 ?_
  refine lv_iconst (v := 0) hx hb dK_hasRoomFor_8 (by decide) ?_
  refine x_mmax C hl wK_21 dK_hasRoomFor_9 ?_
  refine lv_istore_n (lv' := [(3, .int (if ((σ.1 4 0 1) - a1) < 0 then 0 else (σ.1 4 0 1) - a1)), (2, .int 1), (0, .ref (E.2.2.1 4 0)), (1, .int a1)]) hx hb dK_hasRoomFor_12 rfl hl (by decide) rfl (fun ls hl => ?_)
  exact wK_hasRoomFor_13 C N σ N a1 1 (if ((σ.1 4 0 1) - a1) < 0 then 0 else (σ.1 4 0 1) - a1) res hf H locs ls hw (lv_sub hl [2, 3, 1, 0] rfl)
-- StandIns$Stack pop ()LStandIns$Matcher;
set_option maxRecDepth 100000 in
theorem dK_pop_0 : decode bK_pop 0 = .ok (.aload_n 0, 1) := by decide +kernel
set_option maxRecDepth 100000 in
theorem dK_pop_1 : decode bK_pop 1 = .ok (.getfield 17, 3) := by decide +kernel
set_option maxRecDepth 100000 in
theorem dK_pop_4 : decode bK_pop 4 = .ok (.ifCond .ne 5, 3) := by decide +kernel
set_option maxRecDepth 100000 in
theorem dK_pop_7 : decode bK_pop 7 = .ok (.aconst_null, 1) := by decide +kernel
set_option maxRecDepth 100000 in
theorem dK_pop_8 : decode bK_pop 8 = .ok (.areturn, 1) := by decide +kernel
set_option maxRecDepth 100000 in
theorem dK_pop_9 : decode bK_pop 9 = .ok (.aload_n 0, 1) := by decide +kernel
set_option maxRecDepth 100000 in
theorem dK_pop_10 : decode bK_pop 10 = .ok (.dup, 1) := by decide +kernel
set_option maxRecDepth 100000 in
theorem dK_pop_11 : decode bK_pop 11 = .ok (.getfield 17, 3) := by decide +kernel
set_option maxRecDepth 100000 in
theorem dK_pop_14 : decode bK_pop 14 = .ok (.iconst 1, 1) := by decide +kernel
set_option maxRecDepth 100000 in
theorem dK_pop_15 : decode bK_pop 15 = .ok (.isub, 1) := by decide +kernel
set_option maxRecDepth 100000 in
theorem dK_pop_16 : decode bK_pop 16 = .ok (.putfield 17, 3) := by decide +kernel
set_option maxRecDepth 100000 in
theorem dK_pop_19 : decode bK_pop 19 = .ok (.aload_n 0, 1) := by decide +kernel
set_option maxRecDepth 100000 in
theorem dK_pop_20 : decode bK_pop 20 = .ok (.getfield 11, 3) := by decide +kernel
set_option maxRecDepth 100000 in
theorem dK_pop_23 : decode bK_pop 23 = .ok (.aload_n 0, 1) := by decide +kernel
set_option maxRecDepth 100000 in
theorem dK_pop_24 : decode bK_pop 24 = .ok (.getfield 17, 3) := by decide +kernel
set_option maxRecDepth 100000 in
theorem dK_pop_27 : decode bK_pop 27 = .ok (.aaload, 1) := by decide +kernel
set_option maxRecDepth 100000 in
theorem dK_pop_28 : decode bK_pop 28 = .ok (.areturn, 1) := by decide +kernel
def fK_pop (σ : xS) : Option (Option Nat × xS) :=
  if (σ.1 4 0 1) = 0 then
  (some (none, σ))
  else
  (xl (x_si σ 4 0 1 ((σ.1 4 0 1) - 1)) fun s2 =>
  if ¬ ((s2.1 4 0 1) < 0 ∨ 6 ≤ (s2.1 4 0 1).toNatClampNeg) then
  some (s2.2.1 5 0 ((s2.1 4 0 1).toNatClampNeg), s2)
  else none)
set_option maxHeartbeats 4000000 in
set_option maxRecDepth 100000 in
theorem cK_pop (l : Launch) (E : xE) (σ : xS) (τ : yS) (res : Option Nat × xS) (hf : fK_pop σ = some res) : xM l E yK_pop bK_pop 1 (some (.object "StandIns$Matcher")) 0 0 0 [.ref (E.2.2.1 4 0)] σ τ (some (va_rf res.1)) res.2 τ := by
  refine x_met (by decide) (Nat.le_of_ble_eq_true rfl) (fun p e R s m args below meth c A ls H locs C hw hl => ?_)
  have hl : lv_has ls 1 [(0, .ref (E.2.2.1 4 0))] := hl
  have hx := C.1
  have hb := C.2.1
  unfold fK_pop at hf
  refine lv_aload_n hx hb dK_pop_0 rfl (lv_at hl 0 rfl) ?_
  refine x_get C hw 4 0 1 (v := .int (σ.1 4 0 1)) at_4 rfl rfl ⟨by decide, by decide⟩ wK_17 rfl dK_pop_1 ?_
  refine lv_if_ne (tgt := 9) hx hb dK_pop_4 (by decide) (fun c1 => ?_) (fun c1 => ?_)
  · replace hf := x_in c1 hf
    refine lv_aload_n hx hb dK_pop_9 rfl (lv_at hl 0 rfl) ?_
    refine lv_dup hx hb dK_pop_10 rfl ?_
    refine x_get C hw 4 0 1 (v := .int (σ.1 4 0 1)) at_4 rfl rfl ⟨by decide, by decide⟩ wK_17 rfl dK_pop_11 ?_
    refine lv_iconst (v := 1) hx hb dK_pop_14 (by decide) ?_
    refine lv_isub hx hb dK_pop_15 ?_
    refine x_puti C hw 4 0 1 at_4 rfl rfl rfl ⟨rfl, rfl⟩ ⟨by decide, by decide⟩ (Nat.le_of_ble_eq_true rfl) wK_17 dK_pop_16 (fun H locs hw => ?_)
    obtain ⟨s2, es2, hf⟩ := x_l hf
    rw [← es2] at hw
    refine lv_aload_n hx hb dK_pop_19 rfl (lv_at hl 0 rfl) ?_
    refine x_get C hw 4 0 0 (v := .ref (E.2.2.1 5 0)) at_4 rfl rfl ⟨by decide, by decide⟩ wK_11 rfl dK_pop_20 ?_
    refine lv_aload_n hx hb dK_pop_23 rfl (lv_at hl 0 rfl) ?_
    refine x_get C hw 4 0 1 (v := .int (s2.1 4 0 1)) at_4 rfl rfl ⟨by decide, by decide⟩ wK_17 rfl dK_pop_24 ?_
    obtain ⟨g3, hf⟩ := x_g hf
    refine x_oald C hw g3 dK_pop_27 ?_
    obtain rfl := Option.some.inj hf
    exact x_aret C hw (va_rf_or _) dK_pop_28
  · replace hf := x_ip c1 hf
    refine x_null hx hb dK_pop_7 ?_
    obtain rfl := Option.some.inj hf
    exact x_aret C hw (va_rf_or _) dK_pop_8
-- StandIns$Matcher <init> (IILStandIns$Matcher;LStandIns$Matcher;)V
set_option maxRecDepth 100000 in
theorem dH_init_0 : decode bH_init 0 = .ok (.aload_n 0, 1) := by decide +kernel
set_option maxRecDepth 100000 in
theorem dH_init_1 : decode bH_init 1 = .ok (.invokespecial 3, 3) := by decide +kernel
set_option maxRecDepth 100000 in
theorem dH_init_4 : decode bH_init 4 = .ok (.aload_n 0, 1) := by decide +kernel
set_option maxRecDepth 100000 in
theorem dH_init_5 : decode bH_init 5 = .ok (.iload_n 1, 1) := by decide +kernel
set_option maxRecDepth 100000 in
theorem dH_init_6 : decode bH_init 6 = .ok (.putfield 9, 3) := by decide +kernel
set_option maxRecDepth 100000 in
theorem dH_init_9 : decode bH_init 9 = .ok (.aload_n 0, 1) := by decide +kernel
set_option maxRecDepth 100000 in
theorem dH_init_10 : decode bH_init 10 = .ok (.iload_n 2, 1) := by decide +kernel
set_option maxRecDepth 100000 in
theorem dH_init_11 : decode bH_init 11 = .ok (.putfield 15, 3) := by decide +kernel
set_option maxRecDepth 100000 in
theorem dH_init_14 : decode bH_init 14 = .ok (.aload_n 0, 1) := by decide +kernel
set_option maxRecDepth 100000 in
theorem dH_init_15 : decode bH_init 15 = .ok (.aload_n 3, 1) := by decide +kernel
set_option maxRecDepth 100000 in
theorem dH_init_16 : decode bH_init 16 = .ok (.putfield 18, 3) := by decide +kernel
set_option maxRecDepth 100000 in
theorem dH_init_19 : decode bH_init 19 = .ok (.aload_n 0, 1) := by decide +kernel
set_option maxRecDepth 100000 in
theorem dH_init_20 : decode bH_init 20 = .ok (.aload 4, 2) := by decide +kernel
set_option maxRecDepth 100000 in
theorem dH_init_22 : decode bH_init 22 = .ok (.putfield 22, 3) := by decide +kernel
set_option maxRecDepth 100000 in
theorem dH_init_25 : decode bH_init 25 = .ok (.aload_n 0, 1) := by decide +kernel
set_option maxRecDepth 100000 in
theorem dH_init_26 : decode bH_init 26 = .ok (.iconst 1, 1) := by decide +kernel
set_option maxRecDepth 100000 in
theorem dH_init_27 : decode bH_init 27 = .ok (.aload_n 3, 1) := by decide +kernel
set_option maxRecDepth 100000 in
theorem dH_init_28 : decode bH_init 28 = .ok (.invokestatic 25, 3) := by decide +kernel
set_option maxRecDepth 100000 in
theorem dH_init_31 : decode bH_init 31 = .ok (.iadd, 1) := by decide +kernel
set_option maxRecDepth 100000 in
theorem dH_init_32 : decode bH_init 32 = .ok (.aload 4, 2) := by decide +kernel
set_option maxRecDepth 100000 in
theorem dH_init_34 : decode bH_init 34 = .ok (.invokestatic 25, 3) := by decide +kernel
set_option maxRecDepth 100000 in
theorem dH_init_37 : decode bH_init 37 = .ok (.iadd, 1) := by decide +kernel
set_option maxRecDepth 100000 in
theorem dH_init_38 : decode bH_init 38 = .ok (.putfield 29, 3) := by decide +kernel
set_option maxRecDepth 100000 in
theorem dH_init_41 : decode bH_init 41 = .ok (.return_, 1) := by decide +kernel
def fH_init (σ : xS) (k0 : Nat) (a1 : Int32) (a2 : Int32) (o3 : Option Nat) (o4 : Option Nat) : Option (xS) :=
  if k0 ∈ σ.2.2.1 then
  xl (x_si σ 21 k0 0 a1) fun s2 =>
  if k0 ∈ s2.2.2.1 then
  xl (x_si s2 21 k0 1 a2) fun s4 =>
  if k0 ∈ s4.2.2.1 then
  xl (x_sp s4 21 k0 2 o3) fun s6 =>
  if k0 ∈ s6.2.2.1 then
  xl (x_sp s6 21 k0 3 o4) fun s8 =>
  xp (fH_sizeOf s8 o3) fun r10 =>
  xp (fH_sizeOf s8 o4) fun r12 =>
  if k0 ∈ s8.2.2.1 then
  xl (x_si s8 21 k0 4 ((1 + r10) + r12)) fun s14 =>
  some s14
  else none
  else none
  else none
  else none
  else none
set_option maxHeartbeats 4000000 in
set_option maxRecDepth 100000 in
theorem cH_init (l : Launch) (E : xE) (σ : xS) (τ : yS) (k0 : Nat) (a1 : Int32) (a2 : Int32) (o3 : Option Nat) (o4 : Option Nat) (res : xS) (hf : fH_init σ k0 a1 a2 o3 o4 = some res) : xM l E yH_init bH_init 5 none 1 0 0 [.ref k0, .int a1, .int a2, va_rf o3, va_rf o4] σ τ none res τ := by
  refine x_met (by decide) (by simp [lg_sl, x_cat, x_cati, x_catr, x_catl]) (fun p e R s m args below meth c A ls H locs C hw hl => ?_)
  have hl : lv_has ls 5 [(0, .ref k0), (1, .int a1), (2, .int a2), (3, va_rf o3), (4, va_rf o4)] := by simpa [lv_args, x_cat, x_cati, x_catr, x_catl] using hl
  have hx := C.1
  have hb := C.2.1
  unfold fH_init at hf
  refine lv_aload_n hx hb dH_init_0 rfl (lv_at hl 0 rfl) ?_
  refine x_objinit C hl wH_3 dH_init_1 ?_
  refine lv_aload_n hx hb dH_init_4 rfl (lv_at hl 0 rfl) ?_
  refine lv_iload_n hx hb dH_init_5 rfl (lv_at hl 1 rfl) ?_
  obtain ⟨g1, hf⟩ := x_g hf
  refine x_putFiM C hw k0 0 g1 rfl rfl rfl ⟨rfl, rfl⟩ (by decide) wH_9 dH_init_6 (fun H locs hw => ?_)
  obtain ⟨s2, es2, hf⟩ := x_l hf
  rw [← es2] at hw
  refine lv_aload_n hx hb dH_init_9 rfl (lv_at hl 0 rfl) ?_
  refine lv_iload_n hx hb dH_init_10 rfl (lv_at hl 2 rfl) ?_
  obtain ⟨g3, hf⟩ := x_g hf
  refine x_putFiM C hw k0 1 g3 rfl rfl rfl ⟨rfl, rfl⟩ (by decide) wH_15 dH_init_11 (fun H locs hw => ?_)
  obtain ⟨s4, es4, hf⟩ := x_l hf
  rw [← es4] at hw
  refine lv_aload_n hx hb dH_init_14 rfl (lv_at hl 0 rfl) ?_
  refine x_aload_n hx hb dH_init_15 rfl (lv_at hl 3 rfl) ?_
  obtain ⟨g5, hf⟩ := x_g hf
  refine x_putFoM C hw k0 2 g5 rfl rfl rfl ⟨rfl, rfl⟩ (by decide) wH_18 dH_init_16 (fun H locs hw => ?_)
  obtain ⟨s6, es6, hf⟩ := x_l hf
  rw [← es6] at hw
  refine lv_aload_n hx hb dH_init_19 rfl (lv_at hl 0 rfl) ?_
  refine x_aload hx hb dH_init_20 (lv_at hl 4 rfl) ?_
  obtain ⟨g7, hf⟩ := x_g hf
  refine x_putFoM C hw k0 3 g7 rfl rfl rfl ⟨rfl, rfl⟩ (by decide) wH_22 dH_init_22 (fun H locs hw => ?_)
  obtain ⟨s8, es8, hf⟩ := x_l hf
  rw [← es8] at hw
  refine lv_aload_n hx hb dH_init_25 rfl (lv_at hl 0 rfl) ?_
  refine lv_iconst (v := 1) hx hb dH_init_26 (by decide) ?_
  refine x_aload_n hx hb dH_init_27 rfl (lv_at hl 3 rfl) ?_
  obtain ⟨r10, h9, hf⟩ := x_p hf
  refine x_callS (As := [va_rf o3]) (rest := [.int 1, .ref k0]) (st1 := [.int r10, .int 1, .ref k0]) C hw (cH_sizeOf l E s8 τ o3 r10 h9) kH_25 (by decide) rfl rfl hl.1 (lv_room (Nat.le_of_ble_eq_true rfl)) dH_init_28 ⟨by decide, by decide⟩ rfl (fun H locs hw => ?_)
  refine lv_iadd hx hb dH_init_31 ?_
  refine x_aload hx hb dH_init_32 (lv_at hl 4 rfl) ?_
  obtain ⟨r12, h11, hf⟩ := x_p hf
  refine x_callS (As := [va_rf o4]) (rest := [.int (1 + r10), .ref k0]) (st1 := [.int r12, .int (1 + r10), .ref k0]) C hw (cH_sizeOf l E s8 τ o4 r12 h11) kH_25 (by decide) rfl rfl hl.1 (lv_room (Nat.le_of_ble_eq_true rfl)) dH_init_34 ⟨by decide, by decide⟩ rfl (fun H locs hw => ?_)
  refine lv_iadd hx hb dH_init_37 ?_
  obtain ⟨g13, hf⟩ := x_g hf
  refine x_putFiM C hw k0 4 g13 rfl rfl rfl ⟨rfl, rfl⟩ (by decide) wH_29 dH_init_38 (fun H locs hw => ?_)
  obtain ⟨s14, es14, hf⟩ := x_l hf
  rw [← es14] at hw
  obtain rfl := Option.some.inj hf
  exact x_vret C hw dH_init_41
-- StandIns$Stack push (LStandIns$Matcher;)V
set_option maxRecDepth 100000 in
theorem dK_push_0 : decode bK_push 0 = .ok (.aload_n 0, 1) := by decide +kernel
set_option maxRecDepth 100000 in
theorem dK_push_1 : decode bK_push 1 = .ok (.getfield 17, 3) := by decide +kernel
set_option maxRecDepth 100000 in
theorem dK_push_4 : decode bK_push 4 = .ok (.bipush 6, 2) := by decide +kernel
set_option maxRecDepth 100000 in
theorem dK_push_6 : decode bK_push 6 = .ok (.if_icmp .ge 23, 3) := by decide +kernel
set_option maxRecDepth 100000 in
theorem dK_push_9 : decode bK_push 9 = .ok (.aload_n 0, 1) := by decide +kernel
set_option maxRecDepth 100000 in
theorem dK_push_10 : decode bK_push 10 = .ok (.getfield 11, 3) := by decide +kernel
set_option maxRecDepth 100000 in
theorem dK_push_13 : decode bK_push 13 = .ok (.aload_n 0, 1) := by decide +kernel
set_option maxRecDepth 100000 in
theorem dK_push_14 : decode bK_push 14 = .ok (.getfield 17, 3) := by decide +kernel
set_option maxRecDepth 100000 in
theorem dK_push_17 : decode bK_push 17 = .ok (.aload_n 1, 1) := by decide +kernel
set_option maxRecDepth 100000 in
theorem dK_push_18 : decode bK_push 18 = .ok (.aastore, 1) := by decide +kernel
set_option maxRecDepth 100000 in
theorem dK_push_19 : decode bK_push 19 = .ok (.aload_n 0, 1) := by decide +kernel
set_option maxRecDepth 100000 in
theorem dK_push_20 : decode bK_push 20 = .ok (.dup, 1) := by decide +kernel
set_option maxRecDepth 100000 in
theorem dK_push_21 : decode bK_push 21 = .ok (.getfield 17, 3) := by decide +kernel
set_option maxRecDepth 100000 in
theorem dK_push_24 : decode bK_push 24 = .ok (.iconst 1, 1) := by decide +kernel
set_option maxRecDepth 100000 in
theorem dK_push_25 : decode bK_push 25 = .ok (.iadd, 1) := by decide +kernel
set_option maxRecDepth 100000 in
theorem dK_push_26 : decode bK_push 26 = .ok (.putfield 17, 3) := by decide +kernel
set_option maxRecDepth 100000 in
theorem dK_push_29 : decode bK_push 29 = .ok (.return_, 1) := by decide +kernel
def fK_push (σ : xS) (o1 : Option Nat) : Option (xS) :=
  if 6 ≤ (σ.1 4 0 1) then
  (some σ)
  else
  (if ¬ ((σ.1 4 0 1) < 0 ∨ 6 ≤ (σ.1 4 0 1).toNatClampNeg) then
  if xo σ.2.2.1 o1 = true then
  xl (x_sp σ 5 0 ((σ.1 4 0 1).toNatClampNeg) o1) fun s4 =>
  xl (x_si s4 4 0 1 ((s4.1 4 0 1) + 1)) fun s5 =>
  some s5
  else none
  else none)
set_option maxHeartbeats 4000000 in
set_option maxRecDepth 100000 in
theorem cK_push (l : Launch) (E : xE) (σ : xS) (τ : yS) (o1 : Option Nat) (res : xS) (hf : fK_push σ o1 = some res) : xM l E yK_push bK_push 2 none 0 0 0 [.ref (E.2.2.1 4 0), va_rf o1] σ τ none res τ := by
  refine x_met (by decide) (by simp [lg_sl, x_cat, x_cati, x_catr, x_catl]) (fun p e R s m args below meth c A ls H locs C hw hl => ?_)
  have hl : lv_has ls 2 [(0, .ref (E.2.2.1 4 0)), (1, va_rf o1)] := by simpa [lv_args, x_cat, x_cati, x_catr, x_catl] using hl
  have hx := C.1
  have hb := C.2.1
  unfold fK_push at hf
  refine lv_aload_n hx hb dK_push_0 rfl (lv_at hl 0 rfl) ?_
  refine x_get C hw 4 0 1 (v := .int (σ.1 4 0 1)) at_4 rfl rfl ⟨by decide, by decide⟩ wK_17 rfl dK_push_1 ?_
  refine lv_bipush (v := 6) hx hb dK_push_4 (by decide) ?_
  refine lv_icmp_ge (tgt := 29) hx hb dK_push_6 (by decide) (fun c1 => ?_) (fun c1 => ?_)
  · replace hf := x_ip c1 hf
    obtain rfl := Option.some.inj hf
    exact x_vret C hw dK_push_29
  · replace hf := x_in c1 hf
    refine lv_aload_n hx hb dK_push_9 rfl (lv_at hl 0 rfl) ?_
    refine x_get C hw 4 0 0 (v := .ref (E.2.2.1 5 0)) at_4 rfl rfl ⟨by decide, by decide⟩ wK_11 rfl dK_push_10 ?_
    refine lv_aload_n hx hb dK_push_13 rfl (lv_at hl 0 rfl) ?_
    refine x_get C hw 4 0 1 (v := .int (σ.1 4 0 1)) at_4 rfl rfl ⟨by decide, by decide⟩ wK_17 rfl dK_push_14 ?_
    refine x_aload_n hx hb dK_push_17 rfl (lv_at hl 1 rfl) ?_
    obtain ⟨g2, hf⟩ := x_g hf
    obtain ⟨g3, hf⟩ := x_g hf
    refine x_oast C hw g3 g2 dK_push_18 (fun H locs hw => ?_)
    obtain ⟨s4, es4, hf⟩ := x_l hf
    rw [← es4] at hw
    refine lv_aload_n hx hb dK_push_19 rfl (lv_at hl 0 rfl) ?_
    refine lv_dup hx hb dK_push_20 rfl ?_
    refine x_get C hw 4 0 1 (v := .int (s4.1 4 0 1)) at_4 rfl rfl ⟨by decide, by decide⟩ wK_17 rfl dK_push_21 ?_
    refine lv_iconst (v := 1) hx hb dK_push_24 (by decide) ?_
    refine lv_iadd hx hb dK_push_25 ?_
    refine x_puti C hw 4 0 1 at_4 rfl rfl rfl ⟨rfl, rfl⟩ ⟨by decide, by decide⟩ (Nat.le_of_ble_eq_true rfl) wK_17 dK_push_26 (fun H locs hw => ?_)
    obtain ⟨s5, es5, hf⟩ := x_l hf
    rw [← es5] at hw
    obtain rfl := Option.some.inj hf
    exact x_vret C hw dK_push_29
end
section
-- StandIns matcher (II)I
set_option maxRecDepth 100000 in
theorem dA_matcher_0 : decode bA_matcher 0 = .ok (.iload_n 1, 1) := by decide +kernel
set_option maxRecDepth 100000 in
theorem dA_matcher_1 : decode bA_matcher 1 = .ok (.ifCond .lt 9, 3) := by decide +kernel
set_option maxRecDepth 100000 in
theorem dA_matcher_4 : decode bA_matcher 4 = .ok (.iload_n 1, 1) := by decide +kernel
set_option maxRecDepth 100000 in
theorem dA_matcher_5 : decode bA_matcher 5 = .ok (.bipush 7, 2) := by decide +kernel
set_option maxRecDepth 100000 in
theorem dA_matcher_7 : decode bA_matcher 7 = .ok (.if_icmp .le 5, 3) := by decide +kernel
set_option maxRecDepth 100000 in
theorem dA_matcher_10 : decode bA_matcher 10 = .ok (.iconst (-1), 1) := by decide +kernel
set_option maxRecDepth 100000 in
theorem dA_matcher_11 : decode bA_matcher 11 = .ok (.ireturn, 1) := by decide +kernel
set_option maxRecDepth 100000 in
theorem dA_matcher_12 : decode bA_matcher 12 = .ok (.iload_n 1, 1) := by decide +kernel
set_option maxRecDepth 100000 in
theorem dA_matcher_13 : decode bA_matcher 13 = .ok (.invokestatic 116, 3) := by decide +kernel
set_option maxRecDepth 100000 in
theorem dA_matcher_16 : decode bA_matcher 16 = .ok (.istore_n 3, 1) := by decide +kernel
set_option maxRecDepth 100000 in
theorem dA_matcher_17 : decode bA_matcher 17 = .ok (.aload_n 0, 1) := by decide +kernel
set_option maxRecDepth 100000 in
theorem dA_matcher_18 : decode bA_matcher 18 = .ok (.getfield 29, 3) := by decide +kernel
set_option maxRecDepth 100000 in
theorem dA_matcher_21 : decode bA_matcher 21 = .ok (.getfield 121, 3) := by decide +kernel
set_option maxRecDepth 100000 in
theorem dA_matcher_24 : decode bA_matcher 24 = .ok (.iload_n 3, 1) := by decide +kernel
set_option maxRecDepth 100000 in
theorem dA_matcher_25 : decode bA_matcher 25 = .ok (.if_icmp .lt 7, 3) := by decide +kernel
set_option maxRecDepth 100000 in
theorem dA_matcher_28 : decode bA_matcher 28 = .ok (.iconst 1, 1) := by decide +kernel
set_option maxRecDepth 100000 in
theorem dA_matcher_29 : decode bA_matcher 29 = .ok (.goto 4, 3) := by decide +kernel
set_option maxRecDepth 100000 in
theorem dA_matcher_32 : decode bA_matcher 32 = .ok (.iconst 0, 1) := by decide +kernel
set_option maxRecDepth 100000 in
theorem dA_matcher_33 : decode bA_matcher 33 = .ok (.istore 4, 2) := by decide +kernel
set_option maxRecDepth 100000 in
theorem dA_matcher_35 : decode bA_matcher 35 = .ok (.iload 4, 2) := by decide +kernel
set_option maxRecDepth 100000 in
theorem dA_matcher_37 : decode bA_matcher 37 = .ok (.ifCond .eq 17, 3) := by decide +kernel
set_option maxRecDepth 100000 in
theorem dA_matcher_40 : decode bA_matcher 40 = .ok (.aload_n 0, 1) := by decide +kernel
set_option maxRecDepth 100000 in
theorem dA_matcher_41 : decode bA_matcher 41 = .ok (.getfield 29, 3) := by decide +kernel
set_option maxRecDepth 100000 in
theorem dA_matcher_44 : decode bA_matcher 44 = .ok (.iload_n 3, 1) := by decide +kernel
set_option maxRecDepth 100000 in
theorem dA_matcher_45 : decode bA_matcher 45 = .ok (.invokevirtual 124, 3) := by decide +kernel
set_option maxRecDepth 100000 in
theorem dA_matcher_48 : decode bA_matcher 48 = .ok (.ifCond .ne 6, 3) := by decide +kernel
set_option maxRecDepth 100000 in
theorem dA_matcher_51 : decode bA_matcher 51 = .ok (.bipush (-2), 2) := by decide +kernel
set_option maxRecDepth 100000 in
theorem dA_matcher_53 : decode bA_matcher 53 = .ok (.ireturn, 1) := by decide +kernel
set_option maxRecDepth 100000 in
theorem dA_matcher_54 : decode bA_matcher 54 = .ok (.aload_n 0, 1) := by decide +kernel
set_option maxRecDepth 100000 in
theorem dA_matcher_55 : decode bA_matcher 55 = .ok (.aload_n 0, 1) := by decide +kernel
set_option maxRecDepth 100000 in
theorem dA_matcher_56 : decode bA_matcher 56 = .ok (.invokevirtual 128, 3) := by decide +kernel
set_option maxRecDepth 100000 in
theorem dA_matcher_59 : decode bA_matcher 59 = .ok (.iconst 0, 1) := by decide +kernel
set_option maxRecDepth 100000 in
theorem dA_matcher_60 : decode bA_matcher 60 = .ok (.iload 4, 2) := by decide +kernel
set_option maxRecDepth 100000 in
theorem dA_matcher_62 : decode bA_matcher 62 = .ok (.ifCond .ne 7, 3) := by decide +kernel
set_option maxRecDepth 100000 in
theorem dA_matcher_65 : decode bA_matcher 65 = .ok (.iconst 1, 1) := by decide +kernel
set_option maxRecDepth 100000 in
theorem dA_matcher_66 : decode bA_matcher 66 = .ok (.goto 4, 3) := by decide +kernel
set_option maxRecDepth 100000 in
theorem dA_matcher_69 : decode bA_matcher 69 = .ok (.iconst 0, 1) := by decide +kernel
set_option maxRecDepth 100000 in
theorem dA_matcher_70 : decode bA_matcher 70 = .ok (.invokevirtual 132, 3) := by decide +kernel
set_option maxRecDepth 100000 in
theorem dA_matcher_73 : decode bA_matcher 73 = .ok (.istore 5, 2) := by decide +kernel
set_option maxRecDepth 100000 in
theorem dA_matcher_75 : decode bA_matcher 75 = .ok (.iload 5, 2) := by decide +kernel
set_option maxRecDepth 100000 in
theorem dA_matcher_77 : decode bA_matcher 77 = .ok (.ifCond .eq 6, 3) := by decide +kernel
set_option maxRecDepth 100000 in
theorem dA_matcher_80 : decode bA_matcher 80 = .ok (.iload 5, 2) := by decide +kernel
set_option maxRecDepth 100000 in
theorem dA_matcher_82 : decode bA_matcher 82 = .ok (.ireturn, 1) := by decide +kernel
set_option maxRecDepth 100000 in
theorem dA_matcher_83 : decode bA_matcher 83 = .ok (.iload_n 3, 1) := by decide +kernel
set_option maxRecDepth 100000 in
theorem dA_matcher_84 : decode bA_matcher 84 = .ok (.iconst 1, 1) := by decide +kernel
set_option maxRecDepth 100000 in
theorem dA_matcher_85 : decode bA_matcher 85 = .ok (.if_icmp .le 13, 3) := by decide +kernel
set_option maxRecDepth 100000 in
theorem dA_matcher_88 : decode bA_matcher 88 = .ok (.aload_n 0, 1) := by decide +kernel
set_option maxRecDepth 100000 in
theorem dA_matcher_89 : decode bA_matcher 89 = .ok (.getfield 29, 3) := by decide +kernel
set_option maxRecDepth 100000 in
theorem dA_matcher_92 : decode bA_matcher 92 = .ok (.invokevirtual 136, 3) := by decide +kernel
set_option maxRecDepth 100000 in
theorem dA_matcher_95 : decode bA_matcher 95 = .ok (.goto 4, 3) := by decide +kernel
set_option maxRecDepth 100000 in
theorem dA_matcher_98 : decode bA_matcher 98 = .ok (.aconst_null, 1) := by decide +kernel
set_option maxRecDepth 100000 in
theorem dA_matcher_99 : decode bA_matcher 99 = .ok (.astore 6, 2) := by decide +kernel
set_option maxRecDepth 100000 in
theorem dA_matcher_101 : decode bA_matcher 101 = .ok (.iload_n 3, 1) := by decide +kernel
set_option maxRecDepth 100000 in
theorem dA_matcher_102 : decode bA_matcher 102 = .ok (.ifCond .le 13, 3) := by decide +kernel
set_option maxRecDepth 100000 in
theorem dA_matcher_105 : decode bA_matcher 105 = .ok (.aload_n 0, 1) := by decide +kernel
set_option maxRecDepth 100000 in
theorem dA_matcher_106 : decode bA_matcher 106 = .ok (.getfield 29, 3) := by decide +kernel
set_option maxRecDepth 100000 in
theorem dA_matcher_109 : decode bA_matcher 109 = .ok (.invokevirtual 136, 3) := by decide +kernel
set_option maxRecDepth 100000 in
theorem dA_matcher_112 : decode bA_matcher 112 = .ok (.goto 4, 3) := by decide +kernel
set_option maxRecDepth 100000 in
theorem dA_matcher_115 : decode bA_matcher 115 = .ok (.aconst_null, 1) := by decide +kernel
set_option maxRecDepth 100000 in
theorem dA_matcher_116 : decode bA_matcher 116 = .ok (.astore 7, 2) := by decide +kernel
set_option maxRecDepth 100000 in
theorem dA_matcher_118 : decode bA_matcher 118 = .ok (.aload_n 0, 1) := by decide +kernel
set_option maxRecDepth 100000 in
theorem dA_matcher_119 : decode bA_matcher 119 = .ok (.getfield 29, 3) := by decide +kernel
set_option maxRecDepth 100000 in
theorem dA_matcher_122 : decode bA_matcher 122 = .ok (.new 117, 3) := by decide +kernel
set_option maxRecDepth 100000 in
theorem dA_matcher_125 : decode bA_matcher 125 = .ok (.dup, 1) := by decide +kernel
set_option maxRecDepth 100000 in
theorem dA_matcher_126 : decode bA_matcher 126 = .ok (.iload_n 1, 1) := by decide +kernel
set_option maxRecDepth 100000 in
theorem dA_matcher_127 : decode bA_matcher 127 = .ok (.iload_n 2, 1) := by decide +kernel
set_option maxRecDepth 100000 in
theorem dA_matcher_128 : decode bA_matcher 128 = .ok (.aload 7, 2) := by decide +kernel
set_option maxRecDepth 100000 in
theorem dA_matcher_130 : decode bA_matcher 130 = .ok (.aload 6, 2) := by decide +kernel
set_option maxRecDepth 100000 in
theorem dA_matcher_132 : decode bA_matcher 132 = .ok (.invokespecial 140, 3) := by decide +kernel
set_option maxRecDepth 100000 in
theorem dA_matcher_135 : decode bA_matcher 135 = .ok (.invokevirtual 143, 3) := by decide +kernel
set_option maxRecDepth 100000 in
theorem dA_matcher_138 : decode bA_matcher 138 = .ok (.aload_n 0, 1) := by decide +kernel
set_option maxRecDepth 100000 in
theorem dA_matcher_139 : decode bA_matcher 139 = .ok (.invokevirtual 147, 3) := by decide +kernel
set_option maxRecDepth 100000 in
theorem dA_matcher_142 : decode bA_matcher 142 = .ok (.ifCond .eq 13, 3) := by decide +kernel
set_option maxRecDepth 100000 in
theorem dA_matcher_145 : decode bA_matcher 145 = .ok (.aload_n 0, 1) := by decide +kernel
set_option maxRecDepth 100000 in
theorem dA_matcher_146 : decode bA_matcher 146 = .ok (.getfield 29, 3) := by decide +kernel
set_option maxRecDepth 100000 in
theorem dA_matcher_149 : decode bA_matcher 149 = .ok (.getfield 121, 3) := by decide +kernel
set_option maxRecDepth 100000 in
theorem dA_matcher_152 : decode bA_matcher 152 = .ok (.goto 14, 3) := by decide +kernel
set_option maxRecDepth 100000 in
theorem dA_matcher_155 : decode bA_matcher 155 = .ok (.aload_n 0, 1) := by decide +kernel
set_option maxRecDepth 100000 in
theorem dA_matcher_156 : decode bA_matcher 156 = .ok (.aload_n 0, 1) := by decide +kernel
set_option maxRecDepth 100000 in
theorem dA_matcher_157 : decode bA_matcher 157 = .ok (.getfield 29, 3) := by decide +kernel
set_option maxRecDepth 100000 in
theorem dA_matcher_160 : decode bA_matcher 160 = .ok (.getfield 121, 3) := by decide +kernel
set_option maxRecDepth 100000 in
theorem dA_matcher_163 : decode bA_matcher 163 = .ok (.invokevirtual 112, 3) := by decide +kernel
set_option maxRecDepth 100000 in
theorem dA_matcher_166 : decode bA_matcher 166 = .ok (.ireturn, 1) := by decide +kernel
def fA_matcher_116 (N : Nat) (σ : xS) (a1 : Int32) (a2 : Int32) (o6 : Option Nat) (t0 : Option Nat) : Option (Int32 × xS) :=
  xl (x_nw σ) fun s29 =>
  xp (fH_init s29 σ.2.2.2 a1 a2 t0 o6) fun s31 =>
  xp (fK_push s31 (some σ.2.2.2)) fun s33 =>
  if (fA_awaitsCall s33) = 0 then
  (xl (fA_idleWith s33 (s33.1 4 0 1)) fun s37 =>
  some (s37.1, s37.2))
  else
  (some (s33.1 4 0 1, s33))
def fA_matcher_99 (N : Nat) (σ : xS) (a1 : Int32) (a2 : Int32) (a3 : Int32) (t0 : Option Nat) : Option (Int32 × xS) :=
  if a3 ≤ 0 then
  (fA_matcher_116 N σ a1 a2 t0 none)
  else
  (xb (fK_pop σ) fun r40 s41 =>
  fA_matcher_116 N s41 a1 a2 t0 r40)
def fA_matcher_70 (N : Nat) (σ : xS) (a1 : Int32) (a2 : Int32) (a3 : Int32) (t0 : Int32) (t1 : Int32) (t2 : Int32) : Option (Int32 × xS) :=
  xb (fA_misuseIf σ t2 t1 t0) fun r43 s44 =>
  if r43 = 0 then
  (if a3 ≤ 1 then
  (fA_matcher_99 N s44 a1 a2 a3 none)
  else
  (xb (fK_pop s44) fun r48 s49 =>
  fA_matcher_99 N s49 a1 a2 a3 r48))
  else
  (some (r43, s44))
def fA_matcher_54 (N : Nat) (σ : xS) (a1 : Int32) (a2 : Int32) (a3 : Int32) (a4 : Int32) : Option (Int32 × xS) :=
  xp (fA_lacksAnswers σ) fun r51 =>
  if a4 = 0 then
  (fA_matcher_70 N σ a1 a2 a3 1 0 r51)
  else
  (fA_matcher_70 N σ a1 a2 a3 0 0 r51)
def fA_matcher_33 (N : Nat) (σ : xS) (a1 : Int32) (a2 : Int32) (a3 : Int32) (t0 : Int32) : Option (Int32 × xS) :=
  if t0 = 0 then
  (fA_matcher_54 N σ a1 a2 a3 t0)
  else
  (xp (fK_hasRoomFor N σ a3) fun r55 =>
  if r55 = 0 then
  (some ((-2), σ))
  else
  (fA_matcher_54 N σ a1 a2 a3 t0))
def fA_matcher (N : Nat) (σ : xS) (a1 : Int32) (a2 : Int32) : Option (Int32 × xS) :=
  if a1 < 0 then
  (some ((-1), σ))
  else
  (if a1 ≤ 7 then
  (if (σ.1 4 0 1) < (fH_takenBy a1) then
  (fA_matcher_33 N σ a1 a2 (fH_takenBy a1) 0)
  else
  (fA_matcher_33 N σ a1 a2 (fH_takenBy a1) 1))
  else
  (some ((-1), σ)))
set_option maxHeartbeats 4000000 in
set_option maxRecDepth 100000 in
theorem wA_matcher_116 {p : Program} {l : Launch} {e : Env} {R : Room} {s : State} {m : MethodId} {args : Array Value} {below : List Frame} {meth : Method} {c : Code} {E : xE} {A : Nat → Prop} {τ : yS} (C : xC p s m args meth c R E A bA_matcher 8 yA_matcher (some .int) 4 1 5) (N : Nat) (σ : xS) (a1 : Int32) (a2 : Int32) (o6 : Option Nat) (t0 : Option Nat) (res : Int32 × xS) (hf : fA_matcher_116 N σ a1 a2 o6 t0 = some res) (H : Heap) (locs : List Loc) (ls : Array Slot) (hw : xW E A s σ τ H locs) (hl : lv_has ls 8 [(0, .ref (E.2.2.1 0 0)), (1, .int a1), (2, .int a2), (6, va_rf o6)]) : W p l e R s m args below meth c H locs 0 0 (MQ below (xQ E A (some (.int res.1)) res.2 τ) args s 1 5 A) (F0 m 116 ls [va_rf t0]) := by
  have hx := C.1
  have hb := C.2.1
  unfold fA_matcher_116 at hf
  refine x_astore (lv' := [(7, va_rf t0), (0, .ref (E.2.2.1 0 0)), (1, .int a1), (2, .int a2), (6, va_rf o6)]) hx hb dA_matcher_116 hl (by decide) (by simp [x_cat]) (fun ls hl => ?_)
  refine lv_aload_n hx hb dA_matcher_118 rfl (lv_at hl 1 rfl) ?_
  refine x_get C hw 0 0 4 (v := .ref (E.2.2.1 4 0)) at_0 rfl rfl ⟨by decide, by decide⟩ wA_29 rfl dA_matcher_119 ?_
  refine x_new C hw wA_117 (by decide) (by decide) dA_matcher_122 (fun H hw => ?_)
  obtain ⟨s29, es29, hf⟩ := x_l hf
  rw [← es29] at hw
  refine lv_dup hx hb dA_matcher_125 rfl ?_
  refine lv_iload_n hx hb dA_matcher_126 rfl (lv_at hl 2 rfl) ?_
  refine lv_iload_n hx hb dA_matcher_127 rfl (lv_at hl 3 rfl) ?_
  refine x_aload hx hb dA_matcher_128 (lv_at hl 0 rfl) ?_
  refine x_aload hx hb dA_matcher_130 (lv_at hl 4 rfl) ?_
  obtain ⟨s31, h30, hf⟩ := x_p hf
  refine x_callIN (As := [.int a1, .int a2, va_rf t0, va_rf o6]) (rest := [.ref σ.2.2.2, .ref (E.2.2.1 4 0)]) (st1 := [.ref σ.2.2.2, .ref (E.2.2.1 4 0)]) C hw (cH_init l E s29 τ σ.2.2.2 a1 a2 t0 o6 s31 h30) kA_140 (by decide) rfl rfl hl.1 (lv_room (Nat.le_of_ble_eq_true rfl)) dA_matcher_132 ⟨by decide, by decide⟩ rfl (fun H locs hw => ?_)
  obtain ⟨s33, h32, hf⟩ := x_p hf
  refine x_callVN (As := [va_rf (some σ.2.2.2)]) (rest := []) (st1 := []) C hw (cK_push l E s31 τ (some σ.2.2.2) s33 h32) kA_143 (x_recv C hw 4 0 at_4 rfl rfl) (by decide) rfl rfl hl.1 (lv_room (Nat.le_of_ble_eq_true rfl)) dA_matcher_135 ⟨by decide, by decide⟩ rfl (fun H locs hw => ?_)
  refine lv_aload_n hx hb dA_matcher_138 rfl (lv_at hl 1 rfl) ?_
  refine x_callV (As := []) (rest := []) (st1 := [.int (fA_awaitsCall s33)]) C hw (cA_awaitsCall l E s33 τ) kA_147 (x_recv C hw 0 0 at_0 rfl rfl) (by decide) rfl rfl hl.1 (lv_room (Nat.le_of_ble_eq_true rfl)) dA_matcher_139 ⟨by decide, by decide⟩ rfl (fun H locs hw => ?_)
  refine lv_if_eq (tgt := 155) hx hb dA_matcher_142 (by decide) (fun c35 => ?_) (fun c35 => ?_)
  · replace hf := x_ip c35 hf
    refine lv_aload_n hx hb dA_matcher_155 rfl (lv_at hl 1 rfl) ?_
    refine lv_aload_n hx hb dA_matcher_156 rfl (lv_at hl 1 rfl) ?_
    refine x_get C hw 0 0 4 (v := .ref (E.2.2.1 4 0)) at_0 rfl rfl ⟨by decide, by decide⟩ wA_29 rfl dA_matcher_157 ?_
    refine x_getN C hw 4 0 1 (v := .int (s33.1 4 0 1)) at_4 rfl rfl ⟨by decide, by decide⟩ wA_121 rfl dA_matcher_160 ?_
    obtain ⟨s37, h36, hf⟩ := x_l hf
    refine x_callV (As := [.int (s33.1 4 0 1)]) (rest := []) (st1 := [.int s37.1]) C hw (cA_idleWith l E s33 τ (s33.1 4 0 1) s37 h36.symm) kA_112 (x_recv C hw 0 0 at_0 rfl rfl) (by decide) rfl rfl hl.1 (lv_room (Nat.le_of_ble_eq_true rfl)) dA_matcher_163 ⟨by decide, by decide⟩ rfl (fun H locs hw => ?_)
    obtain rfl := Option.some.inj hf
    refine W.widen (k := 1) (n := 5) (by decide) (by decide) ?_
    exact x_iret C hw dA_matcher_166
  · replace hf := x_in c35 hf
    refine lv_aload_n hx hb dA_matcher_145 rfl (lv_at hl 1 rfl) ?_
    refine x_get C hw 0 0 4 (v := .ref (E.2.2.1 4 0)) at_0 rfl rfl ⟨by decide, by decide⟩ wA_29 rfl dA_matcher_146 ?_
    refine x_getN C hw 4 0 1 (v := .int (s33.1 4 0 1)) at_4 rfl rfl ⟨by decide, by decide⟩ wA_121 rfl dA_matcher_149 ?_
    refine lv_goto (tgt := 166) hx hb dA_matcher_152 (by decide) ?_
    obtain rfl := Option.some.inj hf
    refine W.widen (k := 1) (n := 5) (by decide) (by decide) ?_
    exact x_iret C hw dA_matcher_166
set_option maxHeartbeats 4000000 in
set_option maxRecDepth 100000 in
theorem wA_matcher_99 {p : Program} {l : Launch} {e : Env} {R : Room} {s : State} {m : MethodId} {args : Array Value} {below : List Frame} {meth : Method} {c : Code} {E : xE} {A : Nat → Prop} {τ : yS} (C : xC p s m args meth c R E A bA_matcher 8 yA_matcher (some .int) 4 1 5) (N : Nat) (σ : xS) (a1 : Int32) (a2 : Int32) (a3 : Int32) (t0 : Option Nat) (res : Int32 × xS) (hf : fA_matcher_99 N σ a1 a2 a3 t0 = some res) (H : Heap) (locs : List Loc) (ls : Array Slot) (hw : xW E A s σ τ H locs) (hl : lv_has ls 8 [(0, .ref (E.2.2.1 0 0)), (1, .int a1), (2, .int a2), (3, .int a3)]) : W p l e R s m args below meth c H locs 0 0 (MQ below (xQ E A (some (.int res.1)) res.2 τ) args s 1 5 A) (F0 m 99 ls [va_rf t0]) := by
  have hx := C.1
  have hb := C.2.1
  unfold fA_matcher_99 at hf
  refine x_astore (lv' := [(6, va_rf t0), (0, .ref (E.2.2.1 0 0)), (1, .int a1), (2, .int a2), (3, .int a3)]) hx hb dA_matcher_99 hl (by decide) rfl (fun ls hl => ?_)
  refine lv_iload_n hx hb dA_matcher_101 rfl (lv_at hl 4 rfl) ?_
  refine lv_if_le (tgt := 115) hx hb dA_matcher_102 (by decide) (fun c38 => ?_) (fun c38 => ?_)
  · replace hf := x_ip c38 hf
    refine x_null hx hb dA_matcher_115 ?_
    exact wA_matcher_116 C N σ a1 a2 t0 none res hf H locs ls hw (lv_sub hl [1, 2, 3, 0] rfl)
  · replace hf := x_in c38 hf
    refine lv_aload_n hx hb dA_matcher_105 rfl (lv_at hl 1 rfl) ?_
    refine x_get C hw 0 0 4 (v := .ref (E.2.2.1 4 0)) at_0 rfl rfl ⟨by decide, by decide⟩ wA_29 rfl dA_matcher_106 ?_
    obtain ⟨r40, s41, h39, hf⟩ := x_b hf
    refine x_callVN (As := []) (rest := []) (st1 := [va_rf r40]) C hw (cK_pop l E σ τ (r40, s41) h39) kA_136 (x_recv C hw 4 0 at_4 rfl rfl) (by decide) rfl rfl hl.1 (lv_room (Nat.le_of_ble_eq_true rfl)) dA_matcher_109 ⟨by decide, by decide⟩ rfl (fun H locs hw => ?_)
    refine lv_goto (tgt := 116) hx hb dA_matcher_112 (by decide) ?_
    exact wA_matcher_116 C N s41 a1 a2 t0 r40 res hf H locs ls hw (lv_sub hl [1, 2, 3, 0] rfl)
set_option maxHeartbeats 4000000 in
set_option maxRecDepth 100000 in
theorem wA_matcher_70 {p : Program} {l : Launch} {e : Env} {R : Room} {s : State} {m : MethodId} {args : Array Value} {below : List Frame} {meth : Method} {c : Code} {E : xE} {A : Nat → Prop} {τ : yS} (C : xC p s m args meth c R E A bA_matcher 8 yA_matcher (some .int) 4 1 5) (N : Nat) (σ : xS) (a1 : Int32) (a2 : Int32) (a3 : Int32) (t0 : Int32) (t1 : Int32) (t2 : Int32) (res : Int32 × xS) (hf : fA_matcher_70 N σ a1 a2 a3 t0 t1 t2 = some res) (H : Heap) (locs : List Loc) (ls : Array Slot) (hw : xW E A s σ τ H locs) (hl : lv_has ls 8 [(0, .ref (E.2.2.1 0 0)), (1, .int a1), (2, .int a2), (3, .int a3)]) : W p l e R s m args below meth c H locs 0 0 (MQ below (xQ E A (some (.int res.1)) res.2 τ) args s 1 5 A) (F0 m 70 ls [.int t0, .int t1, .int t2, .ref (E.2.2.1 0 0)]) := by
  have hx := C.1
  have hb := C.2.1
  unfold fA_matcher_70 at hf
  obtain ⟨r43, s44, h42, hf⟩ := x_b hf
  refine x_callV (As := [.int t2, .int t1, .int t0]) (rest := []) (st1 := [.int r43]) C hw (cA_misuseIf l E σ τ t2 t1 t0 (r43, s44) h42) kA_132 (x_recv C hw 0 0 at_0 rfl rfl) (by decide) rfl rfl hl.1 (lv_room (Nat.le_of_ble_eq_true rfl)) dA_matcher_70 ⟨by decide, by decide⟩ rfl (fun H locs hw => ?_)
  refine lv_istore (lv' := [(5, .int r43), (0, .ref (E.2.2.1 0 0)), (1, .int a1), (2, .int a2), (3, .int a3)]) hx hb dA_matcher_73 hl (by decide) rfl (fun ls hl => ?_)
  refine lv_iload hx hb dA_matcher_75 (lv_at hl 0 rfl) ?_
  refine lv_if_eq (tgt := 83) hx hb dA_matcher_77 (by decide) (fun c45 => ?_) (fun c45 => ?_)
  · replace hf := x_ip c45 hf
    refine lv_iload_n hx hb dA_matcher_83 rfl (lv_at hl 4 rfl) ?_
    refine lv_iconst (v := 1) hx hb dA_matcher_84 (by decide) ?_
    refine lv_icmp_le (tgt := 98) hx hb dA_matcher_85 (by decide) (fun c46 => ?_) (fun c46 => ?_)
    · replace hf := x_ip c46 hf
      refine x_null hx hb dA_matcher_98 ?_
      exact wA_matcher_99 C N s44 a1 a2 a3 none res hf H locs ls hw (lv_sub hl [1, 2, 3, 4] rfl)
    · replace hf := x_in c46 hf
      refine lv_aload_n hx hb dA_matcher_88 rfl (lv_at hl 1 rfl) ?_
      refine x_get C hw 0 0 4 (v := .ref (E.2.2.1 4 0)) at_0 rfl rfl ⟨by decide, by decide⟩ wA_29 rfl dA_matcher_89 ?_
      obtain ⟨r48, s49, h47, hf⟩ := x_b hf
      refine x_callVN (As := []) (rest := []) (st1 := [va_rf r48]) C hw (cK_pop l E s44 τ (r48, s49) h47) kA_136 (x_recv C hw 4 0 at_4 rfl rfl) (by decide) rfl rfl hl.1 (lv_room (Nat.le_of_ble_eq_true rfl)) dA_matcher_92 ⟨by decide, by decide⟩ rfl (fun H locs hw => ?_)
      refine lv_goto (tgt := 99) hx hb dA_matcher_95 (by decide) ?_
      exact wA_matcher_99 C N s49 a1 a2 a3 r48 res hf H locs ls hw (lv_sub hl [1, 2, 3, 4] rfl)
  · replace hf := x_in c45 hf
    refine lv_iload hx hb dA_matcher_80 (lv_at hl 0 rfl) ?_
    obtain rfl := Option.some.inj hf
    refine W.widen (k := 1) (n := 5) (by decide) (by decide) ?_
    exact x_iret C hw dA_matcher_82
set_option maxHeartbeats 4000000 in
set_option maxRecDepth 100000 in
theorem wA_matcher_54 {p : Program} {l : Launch} {e : Env} {R : Room} {s : State} {m : MethodId} {args : Array Value} {below : List Frame} {meth : Method} {c : Code} {E : xE} {A : Nat → Prop} {τ : yS} (C : xC p s m args meth c R E A bA_matcher 8 yA_matcher (some .int) 4 1 5) (N : Nat) (σ : xS) (a1 : Int32) (a2 : Int32) (a3 : Int32) (a4 : Int32) (res : Int32 × xS) (hf : fA_matcher_54 N σ a1 a2 a3 a4 = some res) (H : Heap) (locs : List Loc) (ls : Array Slot) (hw : xW E A s σ τ H locs) (hl : lv_has ls 8 [(0, .ref (E.2.2.1 0 0)), (1, .int a1), (2, .int a2), (3, .int a3), (4, .int a4)]) : W p l e R s m args below meth c H locs 0 0 (MQ below (xQ E A (some (.int res.1)) res.2 τ) args s 1 5 A) (F0 m 54 ls []) := by
  have hx := C.1
  have hb := C.2.1
  unfold fA_matcher_54 at hf
  refine lv_aload_n hx hb dA_matcher_54 rfl (lv_at hl 0 rfl) ?_
  refine lv_aload_n hx hb dA_matcher_55 rfl (lv_at hl 0 rfl) ?_
  obtain ⟨r51, h50, hf⟩ := x_p hf
  refine x_callV (As := []) (rest := [.ref (E.2.2.1 0 0)]) (st1 := [.int r51, .ref (E.2.2.1 0 0)]) C hw (cA_lacksAnswers l E σ τ r51 h50) kA_128 (x_recv C hw 0 0 at_0 rfl rfl) (by decide) rfl rfl hl.1 (lv_room (Nat.le_of_ble_eq_true rfl)) dA_matcher_56 ⟨by decide, by decide⟩ rfl (fun H locs hw => ?_)
  refine lv_iconst (v := 0) hx hb dA_matcher_59 (by decide) ?_
  refine lv_iload hx hb dA_matcher_60 (lv_at hl 4 rfl) ?_
  refine lv_if_ne (tgt := 69) hx hb dA_matcher_62 (by decide) (fun c52 => ?_) (fun c52 => ?_)
  · replace hf := x_in c52 hf
    refine lv_iconst (v := 0) hx hb dA_matcher_69 (by decide) ?_
    exact wA_matcher_70 C N σ a1 a2 a3 0 0 r51 res hf H locs ls hw (lv_sub hl [0, 1, 2, 3] rfl)
  · replace hf := x_ip c52 hf
    refine lv_iconst (v := 1) hx hb dA_matcher_65 (by decide) ?_
    refine lv_goto (tgt := 70) hx hb dA_matcher_66 (by decide) ?_
    exact wA_matcher_70 C N σ a1 a2 a3 1 0 r51 res hf H locs ls hw (lv_sub hl [0, 1, 2, 3] rfl)
set_option maxHeartbeats 4000000 in
set_option maxRecDepth 100000 in
theorem wA_matcher_33 {p : Program} {l : Launch} {e : Env} {R : Room} {s : State} {m : MethodId} {args : Array Value} {below : List Frame} {meth : Method} {c : Code} {E : xE} {A : Nat → Prop} {τ : yS} (C : xC p s m args meth c R E A bA_matcher 8 yA_matcher (some .int) 4 1 5) (N : Nat) (σ : xS) (a1 : Int32) (a2 : Int32) (a3 : Int32) (t0 : Int32) (res : Int32 × xS) (hf : fA_matcher_33 N σ a1 a2 a3 t0 = some res) (H : Heap) (locs : List Loc) (ls : Array Slot) (hw : xW E A s σ τ H locs) (hl : lv_has ls 8 [(0, .ref (E.2.2.1 0 0)), (1, .int a1), (2, .int a2), (3, .int a3)]) : W p l e R s m args below meth c H locs 0 0 (MQ below (xQ E A (some (.int res.1)) res.2 τ) args s 1 5 A) (F0 m 33 ls [.int t0]) := by
  have hx := C.1
  have hb := C.2.1
  unfold fA_matcher_33 at hf
  refine lv_istore (lv' := [(4, .int t0), (0, .ref (E.2.2.1 0 0)), (1, .int a1), (2, .int a2), (3, .int a3)]) hx hb dA_matcher_33 hl (by decide) rfl (fun ls hl => ?_)
  refine lv_iload hx hb dA_matcher_35 (lv_at hl 0 rfl) ?_
  refine lv_if_eq (tgt := 54) hx hb dA_matcher_37 (by decide) (fun c53 => ?_) (fun c53 => ?_)
  · replace hf := x_ip c53 hf
    exact wA_matcher_54 C N σ a1 a2 a3 t0 res hf H locs ls hw (lv_sub hl [1, 2, 3, 4, 0] rfl)
  · replace hf := x_in c53 hf
    refine lv_aload_n hx hb dA_matcher_40 rfl (lv_at hl 1 rfl) ?_
    refine x_get C hw 0 0 4 (v := .ref (E.2.2.1 4 0)) at_0 rfl rfl ⟨by decide, by decide⟩ wA_29 rfl dA_matcher_41 ?_
    refine lv_iload_n hx hb dA_matcher_44 rfl (lv_at hl 4 rfl) ?_
    obtain ⟨r55, h54, hf⟩ := x_p hf
    refine x_callVN (As := [.int a3]) (rest := []) (st1 := [.int r55]) C hw (cK_hasRoomFor l E N σ τ a3 r55 h54) kA_124 (x_recv C hw 4 0 at_4 rfl rfl) (by decide) rfl rfl hl.1 (lv_room (Nat.le_of_ble_eq_true rfl)) dA_matcher_45 ⟨by decide, by decide⟩ rfl (fun H locs hw => ?_)
    refine lv_if_ne (tgt := 54) hx hb dA_matcher_48 (by decide) (fun c56 => ?_) (fun c56 => ?_)
    · replace hf := x_in c56 hf
      exact wA_matcher_54 C N σ a1 a2 a3 t0 res hf H locs ls hw (lv_sub hl [1, 2, 3, 4, 0] rfl)
    · replace hf := x_ip c56 hf
      refine lv_bipush (v := (-2)) hx hb dA_matcher_51 (by decide) ?_
      obtain rfl := Option.some.inj hf
      refine W.widen (k := 1) (n := 5) (by decide) (by decide) ?_
      exact x_iret C hw dA_matcher_53
set_option maxHeartbeats 4000000 in
set_option maxRecDepth 100000 in
theorem cA_matcher (l : Launch) (E : xE) (N : Nat) (σ : xS) (τ : yS) (a1 : Int32) (a2 : Int32) (res : Int32 × xS) (hf : fA_matcher N σ a1 a2 = some res) : xM l E yA_matcher bA_matcher 8 (some .int) 4 1 5 [.ref (E.2.2.1 0 0), .int a1, .int a2] σ τ (some (.int res.1)) res.2 τ := by
  refine x_met (by decide) (Nat.le_of_ble_eq_true rfl) (fun p e R s m args below meth c A ls H locs C hw hl => ?_)
  have hl : lv_has ls 8 [(0, .ref (E.2.2.1 0 0)), (1, .int a1), (2, .int a2)] := hl
  have hx := C.1
  have hb := C.2.1
  unfold fA_matcher at hf
  refine lv_iload_n hx hb dA_matcher_0 rfl (lv_at hl 1 rfl) ?_
  refine lv_if_lt (tgt := 10) hx hb dA_matcher_1 (by decide) (fun c57 => ?_) (fun c57 => ?_)
  · replace hf := x_ip c57 hf
    refine lv_iconst (v := (-1)) hx hb dA_matcher_10 (by decide) ?_
    obtain rfl := Option.some.inj hf
    refine W.widen (k := 1) (n := 5) (by decide) (by decide) ?_
    exact x_iret C hw dA_matcher_11
  · replace hf := x_in c57 hf
    refine lv_iload_n hx hb dA_matcher_4 rfl (lv_at hl 1 rfl) ?_
    refine lv_bipush (v := 7) hx hb dA_matcher_5 (by decide) ?_
    refine lv_icmp_le (tgt := 12) hx hb dA_matcher_7 (by decide) (fun c58 => ?_) (fun c58 => ?_)
    · replace hf := x_ip c58 hf
      refine lv_iload_n hx hb dA_matcher_12 rfl (lv_at hl 1 rfl) ?_
      refine x_callSN (As := [.int a1]) (rest := []) (st1 := [.int (fH_takenBy a1)]) C hw (cH_takenBy l E σ τ a1) kA_116 (by decide) rfl rfl hl.1 (lv_room (Nat.le_of_ble_eq_true rfl)) dA_matcher_13 ⟨by decide, by decide⟩ rfl (fun H locs hw => ?_)
      refine lv_istore_n (lv' := [(3, .int (fH_takenBy a1)), (0, .ref (E.2.2.1 0 0)), (1, .int a1), (2, .int a2)]) hx hb dA_matcher_16 rfl hl (by decide) rfl (fun ls hl => ?_)
      refine lv_aload_n hx hb dA_matcher_17 rfl (lv_at hl 1 rfl) ?_
      refine x_get C hw 0 0 4 (v := .ref (E.2.2.1 4 0)) at_0 rfl rfl ⟨by decide, by decide⟩ wA_29 rfl dA_matcher_18 ?_
      refine x_getN C hw 4 0 1 (v := .int (σ.1 4 0 1)) at_4 rfl rfl ⟨by decide, by decide⟩ wA_121 rfl dA_matcher_21 ?_
      refine lv_iload_n hx hb dA_matcher_24 rfl (lv_at hl 0 rfl) ?_
      refine lv_icmp_lt (tgt := 32) hx hb dA_matcher_25 (by decide) (fun c60 => ?_) (fun c60 => ?_)
      · replace hf := x_ip c60 hf
        refine lv_iconst (v := 0) hx hb dA_matcher_32 (by decide) ?_
        exact wA_matcher_33 C N σ a1 a2 (fH_takenBy a1) 0 res hf H locs ls hw (lv_sub hl [1, 2, 3, 0] rfl)
      · replace hf := x_in c60 hf
        refine lv_iconst (v := 1) hx hb dA_matcher_28 (by decide) ?_
        refine lv_goto (tgt := 33) hx hb dA_matcher_29 (by decide) ?_
        exact wA_matcher_33 C N σ a1 a2 (fH_takenBy a1) 1 res hf H locs ls hw (lv_sub hl [1, 2, 3, 0] rfl)
    · replace hf := x_in c58 hf
      refine lv_iconst (v := (-1)) hx hb dA_matcher_10 (by decide) ?_
      obtain rfl := Option.some.inj hf
      refine W.widen (k := 1) (n := 5) (by decide) (by decide) ?_
      exact x_iret C hw dA_matcher_11
-- StandIns isStandIn (I)Z
set_option maxRecDepth 100000 in
theorem dA_isStandIn_0 : decode bA_isStandIn 0 = .ok (.iload_n 1, 1) := by decide +kernel
set_option maxRecDepth 100000 in
theorem dA_isStandIn_1 : decode bA_isStandIn 1 = .ok (.aload_n 0, 1) := by decide +kernel
set_option maxRecDepth 100000 in
theorem dA_isStandIn_2 : decode bA_isStandIn 2 = .ok (.getfield 22, 3) := by decide +kernel
set_option maxRecDepth 100000 in
theorem dA_isStandIn_5 : decode bA_isStandIn 5 = .ok (.invokestatic 97, 3) := by decide +kernel
set_option maxRecDepth 100000 in
theorem dA_isStandIn_8 : decode bA_isStandIn 8 = .ok (.ireturn, 1) := by decide +kernel
def fA_isStandIn (σ : xS) (a1 : Int32) : Int32 :=
  fA_isBelow a1 (σ.1 0 0 3)
set_option maxHeartbeats 4000000 in
set_option maxRecDepth 100000 in
theorem cA_isStandIn (l : Launch) (E : xE) (σ : xS) (τ : yS) (a1 : Int32) : xM l E yA_isStandIn bA_isStandIn 2 (some .boolean) 1 0 0 [.ref (E.2.2.1 0 0), .int a1] σ τ (some (.int (fA_isStandIn σ a1))) σ τ := by
  refine x_met (by decide) (Nat.le_of_ble_eq_true rfl) (fun p e R s m args below meth c A ls H locs C hw hl => ?_)
  have hl : lv_has ls 2 [(0, .ref (E.2.2.1 0 0)), (1, .int a1)] := hl
  have hx := C.1
  have hb := C.2.1
  obtain ⟨res, hf⟩ : ∃ z, fA_isStandIn σ a1 = z := ⟨_, rfl⟩
  rw [hf]
  unfold fA_isStandIn at hf
  refine lv_iload_n hx hb dA_isStandIn_0 rfl (lv_at hl 1 rfl) ?_
  refine lv_aload_n hx hb dA_isStandIn_1 rfl (lv_at hl 0 rfl) ?_
  refine x_get C hw 0 0 3 (v := .int (σ.1 0 0 3)) at_0 rfl rfl ⟨by decide, by decide⟩ wA_22 rfl dA_isStandIn_2 ?_
  refine x_callS (As := [.int a1, .int (σ.1 0 0 3)]) (rest := []) (st1 := [.int (fA_isBelow a1 (σ.1 0 0 3))]) C hw (cA_isBelow l E σ τ a1 (σ.1 0 0 3)) kA_97 (by decide) rfl rfl hl.1 (lv_room (Nat.le_of_ble_eq_true rfl)) dA_isStandIn_5 ⟨by decide, by decide⟩ rfl (fun H locs hw => ?_)
  obtain rfl := hf
  exact x_zret C hw (zA_isBelow a1 (σ.1 0 0 3)) dA_isStandIn_8
theorem zA_isStandIn (σ : xS) (a1 : Int32) : narrow .boolean (.int (fA_isStandIn σ a1)) = .int (fA_isStandIn σ a1) := by
  unfold fA_isStandIn
  (repeat' split) <;> first | rfl | exact zA_isBelow _ _
-- StandIns hasNoRoomForCallOf (I)Z
set_option maxRecDepth 100000 in
theorem dA_hasNoRoomForCallOf_0 : decode bA_hasNoRoomForCallOf 0 = .ok (.aload_n 0, 1) := by decide +kernel
set_option maxRecDepth 100000 in
theorem dA_hasNoRoomForCallOf_1 : decode bA_hasNoRoomForCallOf 1 = .ok (.invokevirtual 147, 3) := by decide +kernel
set_option maxRecDepth 100000 in
theorem dA_hasNoRoomForCallOf_4 : decode bA_hasNoRoomForCallOf 4 = .ok (.ifCond .eq 34, 3) := by decide +kernel
set_option maxRecDepth 100000 in
theorem dA_hasNoRoomForCallOf_7 : decode bA_hasNoRoomForCallOf 7 = .ok (.aload_n 0, 1) := by decide +kernel
set_option maxRecDepth 100000 in
theorem dA_hasNoRoomForCallOf_8 : decode bA_hasNoRoomForCallOf 8 = .ok (.getfield 77, 3) := by decide +kernel
set_option maxRecDepth 100000 in
theorem dA_hasNoRoomForCallOf_11 : decode bA_hasNoRoomForCallOf 11 = .ok (.iconst 2, 1) := by decide +kernel
set_option maxRecDepth 100000 in
theorem dA_hasNoRoomForCallOf_12 : decode bA_hasNoRoomForCallOf 12 = .ok (.if_icmp .ne 24, 3) := by decide +kernel
set_option maxRecDepth 100000 in
theorem dA_hasNoRoomForCallOf_15 : decode bA_hasNoRoomForCallOf 15 = .ok (.iload_n 1, 1) := by decide +kernel
set_option maxRecDepth 100000 in
theorem dA_hasNoRoomForCallOf_16 : decode bA_hasNoRoomForCallOf 16 = .ok (.aload_n 0, 1) := by decide +kernel
set_option maxRecDepth 100000 in
theorem dA_hasNoRoomForCallOf_17 : decode bA_hasNoRoomForCallOf 17 = .ok (.getfield 80, 3) := by decide +kernel
set_option maxRecDepth 100000 in
theorem dA_hasNoRoomForCallOf_20 : decode bA_hasNoRoomForCallOf 20 = .ok (.if_icmp .ne 16, 3) := by decide +kernel
set_option maxRecDepth 100000 in
theorem dA_hasNoRoomForCallOf_23 : decode bA_hasNoRoomForCallOf 23 = .ok (.aload_n 0, 1) := by decide +kernel
set_option maxRecDepth 100000 in
theorem dA_hasNoRoomForCallOf_24 : decode bA_hasNoRoomForCallOf 24 = .ok (.getfield 53, 3) := by decide +kernel
set_option maxRecDepth 100000 in
theorem dA_hasNoRoomForCallOf_27 : decode bA_hasNoRoomForCallOf 27 = .ok (.bipush 16, 2) := by decide +kernel
set_option maxRecDepth 100000 in
theorem dA_hasNoRoomForCallOf_29 : decode bA_hasNoRoomForCallOf 29 = .ok (.if_icmp .lt 7, 3) := by decide +kernel
set_option maxRecDepth 100000 in
theorem dA_hasNoRoomForCallOf_32 : decode bA_hasNoRoomForCallOf 32 = .ok (.iconst 1, 1) := by decide +kernel
set_option maxRecDepth 100000 in
theorem dA_hasNoRoomForCallOf_33 : decode bA_hasNoRoomForCallOf 33 = .ok (.goto 4, 3) := by decide +kernel
set_option maxRecDepth 100000 in
theorem dA_hasNoRoomForCallOf_36 : decode bA_hasNoRoomForCallOf 36 = .ok (.iconst 0, 1) := by decide +kernel
set_option maxRecDepth 100000 in
theorem dA_hasNoRoomForCallOf_37 : decode bA_hasNoRoomForCallOf 37 = .ok (.ireturn, 1) := by decide +kernel
set_option maxRecDepth 100000 in
theorem dA_hasNoRoomForCallOf_38 : decode bA_hasNoRoomForCallOf 38 = .ok (.aload_n 0, 1) := by decide +kernel
set_option maxRecDepth 100000 in
theorem dA_hasNoRoomForCallOf_39 : decode bA_hasNoRoomForCallOf 39 = .ok (.getfield 43, 3) := by decide +kernel
set_option maxRecDepth 100000 in
theorem dA_hasNoRoomForCallOf_42 : decode bA_hasNoRoomForCallOf 42 = .ok (.getfield 225, 3) := by decide +kernel
set_option maxRecDepth 100000 in
theorem dA_hasNoRoomForCallOf_45 : decode bA_hasNoRoomForCallOf 45 = .ok (.bipush 40, 2) := by decide +kernel
set_option maxRecDepth 100000 in
theorem dA_hasNoRoomForCallOf_47 : decode bA_hasNoRoomForCallOf 47 = .ok (.if_icmp .lt 7, 3) := by decide +kernel
set_option maxRecDepth 100000 in
theorem dA_hasNoRoomForCallOf_50 : decode bA_hasNoRoomForCallOf 50 = .ok (.iconst 1, 1) := by decide +kernel
set_option maxRecDepth 100000 in
theorem dA_hasNoRoomForCallOf_51 : decode bA_hasNoRoomForCallOf 51 = .ok (.goto 4, 3) := by decide +kernel
set_option maxRecDepth 100000 in
theorem dA_hasNoRoomForCallOf_54 : decode bA_hasNoRoomForCallOf 54 = .ok (.iconst 0, 1) := by decide +kernel
set_option maxRecDepth 100000 in
theorem dA_hasNoRoomForCallOf_55 : decode bA_hasNoRoomForCallOf 55 = .ok (.ireturn, 1) := by decide +kernel
def fA_hasNoRoomForCallOf (σ : xS) (a1 : Int32) : Int32 :=
  if (fA_awaitsCall σ) = 0 then
  (if (σ.1 6 0 1) < 40 then
  (0)
  else
  (1))
  else
  (if (σ.1 0 0 12) = 2 then
  (if a1 = (σ.1 0 0 13) then
  (if (σ.1 0 0 8) < 16 then
  (0)
  else
  (1))
  else
  (0))
  else
  (0))
set_option maxHeartbeats 4000000 in
set_option maxRecDepth 100000 in
theorem cA_hasNoRoomForCallOf (l : Launch) (E : xE) (σ : xS) (τ : yS) (a1 : Int32) : xM l E yA_hasNoRoomForCallOf bA_hasNoRoomForCallOf 2 (some .boolean) 1 0 0 [.ref (E.2.2.1 0 0), .int a1] σ τ (some (.int (fA_hasNoRoomForCallOf σ a1))) σ τ := by
  refine x_met (by decide) (Nat.le_of_ble_eq_true rfl) (fun p e R s m args below meth c A ls H locs C hw hl => ?_)
  have hl : lv_has ls 2 [(0, .ref (E.2.2.1 0 0)), (1, .int a1)] := hl
  have hx := C.1
  have hb := C.2.1
  obtain ⟨res, hf⟩ : ∃ z, fA_hasNoRoomForCallOf σ a1 = z := ⟨_, rfl⟩
  rw [hf]
  unfold fA_hasNoRoomForCallOf at hf
  refine lv_aload_n hx hb dA_hasNoRoomForCallOf_0 rfl (lv_at hl 0 rfl) ?_
  refine x_callV (As := []) (rest := []) (st1 := [.int (fA_awaitsCall σ)]) C hw (cA_awaitsCall l E σ τ) kA_147 (x_recv C hw 0 0 at_0 rfl rfl) (by decide) rfl rfl hl.1 (lv_room (Nat.le_of_ble_eq_true rfl)) dA_hasNoRoomForCallOf_1 ⟨by decide, by decide⟩ rfl (fun H locs hw => ?_)
  refine lv_if_eq (tgt := 38) hx hb dA_hasNoRoomForCallOf_4 (by decide) (fun c2 => ?_) (fun c2 => ?_)
  · replace hf := x_ip c2 hf
    refine lv_aload_n hx hb dA_hasNoRoomForCallOf_38 rfl (lv_at hl 0 rfl) ?_
    refine x_get C hw 0 0 6 (v := .ref (E.2.2.1 6 0)) at_0 rfl rfl ⟨by decide, by decide⟩ wA_43 rfl dA_hasNoRoomForCallOf_39 ?_
    refine x_getN C hw 6 0 1 (v := .int (σ.1 6 0 1)) at_6 rfl rfl ⟨by decide, by decide⟩ wA_225 rfl dA_hasNoRoomForCallOf_42 ?_
    refine lv_bipush (v := 40) hx hb dA_hasNoRoomForCallOf_45 (by decide) ?_
    refine lv_icmp_lt (tgt := 54) hx hb dA_hasNoRoomForCallOf_47 (by decide) (fun c3 => ?_) (fun c3 => ?_)
    · replace hf := x_ip c3 hf
      refine lv_iconst (v := 0) hx hb dA_hasNoRoomForCallOf_54 (by decide) ?_
      obtain rfl := hf
      exact x_zret C hw rfl dA_hasNoRoomForCallOf_55
    · replace hf := x_in c3 hf
      refine lv_iconst (v := 1) hx hb dA_hasNoRoomForCallOf_50 (by decide) ?_
      refine lv_goto (tgt := 55) hx hb dA_hasNoRoomForCallOf_51 (by decide) ?_
      obtain rfl := hf
      exact x_zret C hw rfl dA_hasNoRoomForCallOf_55
  · replace hf := x_in c2 hf
    refine lv_aload_n hx hb dA_hasNoRoomForCallOf_7 rfl (lv_at hl 0 rfl) ?_
    refine x_get C hw 0 0 12 (v := .int (σ.1 0 0 12)) at_0 rfl rfl ⟨by decide, by decide⟩ wA_77 rfl dA_hasNoRoomForCallOf_8 ?_
    refine lv_iconst (v := 2) hx hb dA_hasNoRoomForCallOf_11 (by decide) ?_
    refine lv_icmp_ne (tgt := 36) hx hb dA_hasNoRoomForCallOf_12 (by decide) (fun c4 => ?_) (fun c4 => ?_)
    · replace hf := x_in c4 hf
      refine lv_iconst (v := 0) hx hb dA_hasNoRoomForCallOf_36 (by decide) ?_
      obtain rfl := hf
      exact x_zret C hw rfl dA_hasNoRoomForCallOf_37
    · replace hf := x_ip c4 hf
      refine lv_iload_n hx hb dA_hasNoRoomForCallOf_15 rfl (lv_at hl 1 rfl) ?_
      refine lv_aload_n hx hb dA_hasNoRoomForCallOf_16 rfl (lv_at hl 0 rfl) ?_
      refine x_get C hw 0 0 13 (v := .int (σ.1 0 0 13)) at_0 rfl rfl ⟨by decide, by decide⟩ wA_80 rfl dA_hasNoRoomForCallOf_17 ?_
      refine lv_icmp_ne (tgt := 36) hx hb dA_hasNoRoomForCallOf_20 (by decide) (fun c5 => ?_) (fun c5 => ?_)
      · replace hf := x_in c5 hf
        refine lv_iconst (v := 0) hx hb dA_hasNoRoomForCallOf_36 (by decide) ?_
        obtain rfl := hf
        exact x_zret C hw rfl dA_hasNoRoomForCallOf_37
      · replace hf := x_ip c5 hf
        refine lv_aload_n hx hb dA_hasNoRoomForCallOf_23 rfl (lv_at hl 0 rfl) ?_
        refine x_get C hw 0 0 8 (v := .int (σ.1 0 0 8)) at_0 rfl rfl ⟨by decide, by decide⟩ wA_53 rfl dA_hasNoRoomForCallOf_24 ?_
        refine lv_bipush (v := 16) hx hb dA_hasNoRoomForCallOf_27 (by decide) ?_
        refine lv_icmp_lt (tgt := 36) hx hb dA_hasNoRoomForCallOf_29 (by decide) (fun c6 => ?_) (fun c6 => ?_)
        · replace hf := x_ip c6 hf
          refine lv_iconst (v := 0) hx hb dA_hasNoRoomForCallOf_36 (by decide) ?_
          obtain rfl := hf
          exact x_zret C hw rfl dA_hasNoRoomForCallOf_37
        · replace hf := x_in c6 hf
          refine lv_iconst (v := 1) hx hb dA_hasNoRoomForCallOf_32 (by decide) ?_
          refine lv_goto (tgt := 37) hx hb dA_hasNoRoomForCallOf_33 (by decide) ?_
          obtain rfl := hf
          exact x_zret C hw rfl dA_hasNoRoomForCallOf_37
theorem zA_hasNoRoomForCallOf (σ : xS) (a1 : Int32) : narrow .boolean (.int (fA_hasNoRoomForCallOf σ a1)) = .int (fA_hasNoRoomForCallOf σ a1) := by
  unfold fA_hasNoRoomForCallOf
  (repeat' split) <;> first | rfl | exact zA_awaitsCall _
-- StandIns methodOf (II)LStandIns$Method;
set_option maxRecDepth 100000 in
theorem dA_methodOf_0 : decode bA_methodOf 0 = .ok (.aload_n 0, 1) := by decide +kernel
set_option maxRecDepth 100000 in
theorem dA_methodOf_1 : decode bA_methodOf 1 = .ok (.getfield 11, 3) := by decide +kernel
set_option maxRecDepth 100000 in
theorem dA_methodOf_4 : decode bA_methodOf 4 = .ok (.aload_n 0, 1) := by decide +kernel
set_option maxRecDepth 100000 in
theorem dA_methodOf_5 : decode bA_methodOf 5 = .ok (.getfield 15, 3) := by decide +kernel
set_option maxRecDepth 100000 in
theorem dA_methodOf_8 : decode bA_methodOf 8 = .ok (.iload_n 1, 1) := by decide +kernel
set_option maxRecDepth 100000 in
theorem dA_methodOf_9 : decode bA_methodOf 9 = .ok (.iaload, 1) := by decide +kernel
set_option maxRecDepth 100000 in
theorem dA_methodOf_10 : decode bA_methodOf 10 = .ok (.iconst 4, 1) := by decide +kernel
set_option maxRecDepth 100000 in
theorem dA_methodOf_11 : decode bA_methodOf 11 = .ok (.imul, 1) := by decide +kernel
set_option maxRecDepth 100000 in
theorem dA_methodOf_12 : decode bA_methodOf 12 = .ok (.iload_n 2, 1) := by decide +kernel
set_option maxRecDepth 100000 in
theorem dA_methodOf_13 : decode bA_methodOf 13 = .ok (.iadd, 1) := by decide +kernel
set_option maxRecDepth 100000 in
theorem dA_methodOf_14 : decode bA_methodOf 14 = .ok (.aaload, 1) := by decide +kernel
set_option maxRecDepth 100000 in
theorem dA_methodOf_15 : decode bA_methodOf 15 = .ok (.areturn, 1) := by decide +kernel
def fA_methodOf (σ : xS) (a1 : Int32) (a2 : Int32) : Option (Nat) :=
  if ¬ (a1 < 0 ∨ 6 ≤ a1.toNatClampNeg) then
  if ¬ ((((σ.1 2 0 a1.toNatClampNeg) * 4) + a2) < 0 ∨ 12 ≤ (((σ.1 2 0 a1.toNatClampNeg) * 4) + a2).toNatClampNeg) then
  some ((((σ.1 2 0 a1.toNatClampNeg) * 4) + a2).toNatClampNeg)
  else none
  else none
set_option maxHeartbeats 4000000 in
set_option maxRecDepth 100000 in
theorem cA_methodOf (l : Launch) (E : xE) (σ : xS) (τ : yS) (a1 : Int32) (a2 : Int32) (res : Nat) (hf : fA_methodOf σ a1 a2 = some res) : xM l E yA_methodOf bA_methodOf 3 (some (.object "StandIns$Method")) 0 0 0 [.ref (E.2.2.1 0 0), .int a1, .int a2] σ τ (some (.ref (E.2.2.1 14 res))) σ τ := by
  refine x_met (by decide) (Nat.le_of_ble_eq_true rfl) (fun p e R s m args below meth c A ls H locs C hw hl => ?_)
  have hl : lv_has ls 3 [(0, .ref (E.2.2.1 0 0)), (1, .int a1), (2, .int a2)] := hl
  have hx := C.1
  have hb := C.2.1
  unfold fA_methodOf at hf
  refine lv_aload_n hx hb dA_methodOf_0 rfl (lv_at hl 0 rfl) ?_
  refine x_get C hw 0 0 0 (v := .ref (E.2.2.1 1 0)) at_0 rfl rfl ⟨by decide, by decide⟩ wA_11 rfl dA_methodOf_1 ?_
  refine lv_aload_n hx hb dA_methodOf_4 rfl (lv_at hl 0 rfl) ?_
  refine x_get C hw 0 0 1 (v := .ref (E.2.2.1 2 0)) at_0 rfl rfl ⟨by decide, by decide⟩ wA_15 rfl dA_methodOf_5 ?_
  refine lv_iload_n hx hb dA_methodOf_8 rfl (lv_at hl 1 rfl) ?_
  obtain ⟨g1, hf⟩ := x_g hf
  refine x_ild C hw 2 0 at_2 rfl g1 dA_methodOf_9 ?_
  refine lv_iconst (v := 4) hx hb dA_methodOf_10 (by decide) ?_
  refine lv_imul hx hb dA_methodOf_11 ?_
  refine lv_iload_n hx hb dA_methodOf_12 rfl (lv_at hl 2 rfl) ?_
  refine lv_iadd hx hb dA_methodOf_13 ?_
  obtain ⟨g2, hf⟩ := x_g hf
  refine x_ald1 C hw g2 dA_methodOf_14 ?_
  have g3 := x_lt g2
  obtain rfl := Option.some.inj hf
  exact x_aret C hw (Or.inr ⟨_, rfl⟩) dA_methodOf_15
-- StandIns$Method canDo (II)Z
set_option maxRecDepth 100000 in
theorem dD_canDo_0 : decode bD_canDo 0 = .ok (.iload_n 1, 1) := by decide +kernel
set_option maxRecDepth 100000 in
theorem dD_canDo_1 : decode bD_canDo 1 = .ok (.iconst 2, 1) := by decide +kernel
set_option maxRecDepth 100000 in
theorem dD_canDo_2 : decode bD_canDo 2 = .ok (.if_icmp .ne 13, 3) := by decide +kernel
set_option maxRecDepth 100000 in
theorem dD_canDo_5 : decode bD_canDo 5 = .ok (.iload_n 2, 1) := by decide +kernel
set_option maxRecDepth 100000 in
theorem dD_canDo_6 : decode bD_canDo 6 = .ok (.aload_n 0, 1) := by decide +kernel
set_option maxRecDepth 100000 in
theorem dD_canDo_7 : decode bD_canDo 7 = .ok (.getfield 9, 3) := by decide +kernel
set_option maxRecDepth 100000 in
theorem dD_canDo_10 : decode bD_canDo 10 = .ok (.if_icmp .lt 5, 3) := by decide +kernel
set_option maxRecDepth 100000 in
theorem dD_canDo_13 : decode bD_canDo 13 = .ok (.iconst 0, 1) := by decide +kernel
set_option maxRecDepth 100000 in
theorem dD_canDo_14 : decode bD_canDo 14 = .ok (.ireturn, 1) := by decide +kernel
set_option maxRecDepth 100000 in
theorem dD_canDo_15 : decode bD_canDo 15 = .ok (.aload_n 0, 1) := by decide +kernel
set_option maxRecDepth 100000 in
theorem dD_canDo_16 : decode bD_canDo 16 = .ok (.getfield 15, 3) := by decide +kernel
set_option maxRecDepth 100000 in
theorem dD_canDo_19 : decode bD_canDo 19 = .ok (.ifCond .ne 8, 3) := by decide +kernel
set_option maxRecDepth 100000 in
theorem dD_canDo_22 : decode bD_canDo 22 = .ok (.iload_n 1, 1) := by decide +kernel
set_option maxRecDepth 100000 in
theorem dD_canDo_23 : decode bD_canDo 23 = .ok (.iconst 1, 1) := by decide +kernel
set_option maxRecDepth 100000 in
theorem dD_canDo_24 : decode bD_canDo 24 = .ok (.if_icmp .ne 7, 3) := by decide +kernel
set_option maxRecDepth 100000 in
theorem dD_canDo_27 : decode bD_canDo 27 = .ok (.iconst 1, 1) := by decide +kernel
set_option maxRecDepth 100000 in
theorem dD_canDo_28 : decode bD_canDo 28 = .ok (.goto 4, 3) := by decide +kernel
set_option maxRecDepth 100000 in
theorem dD_canDo_31 : decode bD_canDo 31 = .ok (.iconst 0, 1) := by decide +kernel
set_option maxRecDepth 100000 in
theorem dD_canDo_32 : decode bD_canDo 32 = .ok (.ireturn, 1) := by decide +kernel
def fD_canDo_27 (σ : xS) : Option (Int32) :=
  some 1
def fD_canDo_15 (σ : xS) (k0 : Nat) (a1 : Int32) : Option (Int32) :=
  if k0 < 12 then
  if (σ.1 14 k0 1) = 0 then
  (if a1 = 1 then
  (fD_canDo_27 σ)
  else
  (some 0))
  else
  (fD_canDo_27 σ)
  else none
def fD_canDo (σ : xS) (k0 : Nat) (a1 : Int32) (a2 : Int32) : Option (Int32) :=
  if a1 = 2 then
  (if k0 < 12 then
  if a2 < (σ.1 14 k0 0) then
  (fD_canDo_15 σ k0 a1)
  else
  (some 0)
  else none)
  else
  (fD_canDo_15 σ k0 a1)
set_option maxHeartbeats 4000000 in
set_option maxRecDepth 100000 in
theorem wD_canDo_27 {p : Program} {l : Launch} {e : Env} {R : Room} {s : State} {m : MethodId} {args : Array Value} {below : List Frame} {meth : Method} {c : Code} {E : xE} {A : Nat → Prop} {τ : yS} (C : xC p s m args meth c R E A bD_canDo 3 yD_canDo (some .boolean) 0 0 0) (σ : xS) (res : Int32) (hf : fD_canDo_27 σ = some res) (H : Heap) (locs : List Loc) (ls : Array Slot) (hw : xW E A s σ τ H locs) (hl : lv_has ls 3 []) : W p l e R s m args below meth c H locs 0 0 (MQ below (xQ E A (some (.int res)) σ τ) args s 0 0 A) (F0 m 27 ls []) := by
  have hx := C.1
  have hb := C.2.1
  unfold fD_canDo_27 at hf
  refine lv_iconst (v := 1) hx hb dD_canDo_27 (by decide) ?_
  refine lv_goto (tgt := 32) hx hb dD_canDo_28 (by decide) ?_
  obtain rfl := Option.some.inj hf
  exact x_zret C hw rfl dD_canDo_32
set_option maxHeartbeats 4000000 in
set_option maxRecDepth 100000 in
theorem wD_canDo_15 {p : Program} {l : Launch} {e : Env} {R : Room} {s : State} {m : MethodId} {args : Array Value} {below : List Frame} {meth : Method} {c : Code} {E : xE} {A : Nat → Prop} {τ : yS} (C : xC p s m args meth c R E A bD_canDo 3 yD_canDo (some .boolean) 0 0 0) (σ : xS) (k0 : Nat) (a1 : Int32) (res : Int32) (hf : fD_canDo_15 σ k0 a1 = some res) (H : Heap) (locs : List Loc) (ls : Array Slot) (hw : xW E A s σ τ H locs) (hl : lv_has ls 3 [(0, .ref (E.2.2.1 14 k0)), (1, .int a1)]) : W p l e R s m args below meth c H locs 0 0 (MQ below (xQ E A (some (.int res)) σ τ) args s 0 0 A) (F0 m 15 ls []) := by
  have hx := C.1
  have hb := C.2.1
  unfold fD_canDo_15 at hf
  refine lv_aload_n hx hb dD_canDo_15 rfl (lv_at hl 0 rfl) ?_
  obtain ⟨g4, hf⟩ := x_g hf
  refine x_get C hw 14 k0 1 (v := .int (σ.1 14 k0 1)) (at_14 g4) rfl rfl ⟨by decide, by decide⟩ wD_15 rfl dD_canDo_16 ?_
  refine lv_if_ne (tgt := 27) hx hb dD_canDo_19 (by decide) (fun c5 => ?_) (fun c5 => ?_)
  · replace hf := x_in c5 hf
    exact wD_canDo_27 C σ res hf H locs ls hw (lv_sub hl [] rfl)
  · replace hf := x_ip c5 hf
    refine lv_iload_n hx hb dD_canDo_22 rfl (lv_at hl 1 rfl) ?_
    refine lv_iconst (v := 1) hx hb dD_canDo_23 (by decide) ?_
    refine lv_icmp_ne (tgt := 31) hx hb dD_canDo_24 (by decide) (fun c6 => ?_) (fun c6 => ?_)
    · replace hf := x_in c6 hf
      refine lv_iconst (v := 0) hx hb dD_canDo_31 (by decide) ?_
      obtain rfl := Option.some.inj hf
      exact x_zret C hw rfl dD_canDo_32
    · replace hf := x_ip c6 hf
      exact wD_canDo_27 C σ res hf H locs ls hw (lv_sub hl [] rfl)
set_option maxHeartbeats 4000000 in
set_option maxRecDepth 100000 in
theorem cD_canDo (l : Launch) (E : xE) (σ : xS) (τ : yS) (k0 : Nat) (a1 : Int32) (a2 : Int32) (res : Int32) (hf : fD_canDo σ k0 a1 a2 = some res) : xM l E yD_canDo bD_canDo 3 (some .boolean) 0 0 0 [.ref (E.2.2.1 14 k0), .int a1, .int a2] σ τ (some (.int res)) σ τ := by
  refine x_met (by decide) (Nat.le_of_ble_eq_true rfl) (fun p e R s m args below meth c A ls H locs C hw hl => ?_)
  have hl : lv_has ls 3 [(0, .ref (E.2.2.1 14 k0)), (1, .int a1), (2, .int a2)] := hl
  have hx := C.1
  have hb := C.2.1
  unfold fD_canDo at hf
  refine lv_iload_n hx hb dD_canDo_0 rfl (lv_at hl 1 rfl) ?_
  refine lv_iconst (v := 2) hx hb dD_canDo_1 (by decide) ?_
  refine lv_icmp_ne (tgt := 15) hx hb dD_canDo_2 (by decide) (fun c7 => ?_) (fun c7 => ?_)
  · replace hf := x_in c7 hf
    exact wD_canDo_15 C σ k0 a1 res hf H locs ls hw (lv_sub hl [0, 1] rfl)
  · replace hf := x_ip c7 hf
    refine lv_iload_n hx hb dD_canDo_5 rfl (lv_at hl 2 rfl) ?_
    refine lv_aload_n hx hb dD_canDo_6 rfl (lv_at hl 0 rfl) ?_
    obtain ⟨g8, hf⟩ := x_g hf
    refine x_get C hw 14 k0 0 (v := .int (σ.1 14 k0 0)) (at_14 g8) rfl rfl ⟨by decide, by decide⟩ wD_9 rfl dD_canDo_7 ?_
    refine lv_icmp_lt (tgt := 15) hx hb dD_canDo_10 (by decide) (fun c9 => ?_) (fun c9 => ?_)
    · replace hf := x_ip c9 hf
      exact wD_canDo_15 C σ k0 a1 res hf H locs ls hw (lv_sub hl [0, 1] rfl)
    · replace hf := x_in c9 hf
      refine lv_iconst (v := 0) hx hb dD_canDo_13 (by decide) ?_
      obtain rfl := Option.some.inj hf
      exact x_zret C hw rfl dD_canDo_14
-- StandIns$Answers allDoFor (LStandIns$Method;)Z
set_option maxRecDepth 100000 in
theorem dQ_allDoFor_0 : decode bQ_allDoFor 0 = .ok (.iconst 0, 1) := by decide +kernel
set_option maxRecDepth 100000 in
theorem dQ_allDoFor_1 : decode bQ_allDoFor 1 = .ok (.istore_n 2, 1) := by decide +kernel
set_option maxRecDepth 100000 in
theorem dQ_allDoFor_2 : decode bQ_allDoFor 2 = .ok (.iload_n 2, 1) := by decide +kernel
set_option maxRecDepth 100000 in
theorem dQ_allDoFor_3 : decode bQ_allDoFor 3 = .ok (.aload_n 0, 1) := by decide +kernel
set_option maxRecDepth 100000 in
theorem dQ_allDoFor_4 : decode bQ_allDoFor 4 = .ok (.getfield 18, 3) := by decide +kernel
set_option maxRecDepth 100000 in
theorem dQ_allDoFor_7 : decode bQ_allDoFor 7 = .ok (.if_icmp .ge 30, 3) := by decide +kernel
set_option maxRecDepth 100000 in
theorem dQ_allDoFor_10 : decode bQ_allDoFor 10 = .ok (.aload_n 1, 1) := by decide +kernel
set_option maxRecDepth 100000 in
theorem dQ_allDoFor_11 : decode bQ_allDoFor 11 = .ok (.aload_n 0, 1) := by decide +kernel
set_option maxRecDepth 100000 in
theorem dQ_allDoFor_12 : decode bQ_allDoFor 12 = .ok (.getfield 9, 3) := by decide +kernel
set_option maxRecDepth 100000 in
theorem dQ_allDoFor_15 : decode bQ_allDoFor 15 = .ok (.iload_n 2, 1) := by decide +kernel
set_option maxRecDepth 100000 in
theorem dQ_allDoFor_16 : decode bQ_allDoFor 16 = .ok (.iaload, 1) := by decide +kernel
set_option maxRecDepth 100000 in
theorem dQ_allDoFor_17 : decode bQ_allDoFor 17 = .ok (.aload_n 0, 1) := by decide +kernel
set_option maxRecDepth 100000 in
theorem dQ_allDoFor_18 : decode bQ_allDoFor 18 = .ok (.getfield 15, 3) := by decide +kernel
set_option maxRecDepth 100000 in
theorem dQ_allDoFor_21 : decode bQ_allDoFor 21 = .ok (.iload_n 2, 1) := by decide +kernel
set_option maxRecDepth 100000 in
theorem dQ_allDoFor_22 : decode bQ_allDoFor 22 = .ok (.iaload, 1) := by decide +kernel
set_option maxRecDepth 100000 in
theorem dQ_allDoFor_23 : decode bQ_allDoFor 23 = .ok (.invokevirtual 26, 3) := by decide +kernel
set_option maxRecDepth 100000 in
theorem dQ_allDoFor_26 : decode bQ_allDoFor 26 = .ok (.ifCond .ne 5, 3) := by decide +kernel
set_option maxRecDepth 100000 in
theorem dQ_allDoFor_29 : decode bQ_allDoFor 29 = .ok (.iconst 0, 1) := by decide +kernel
set_option maxRecDepth 100000 in
theorem dQ_allDoFor_30 : decode bQ_allDoFor 30 = .ok (.ireturn, 1) := by decide +kernel
set_option maxRecDepth 100000 in
theorem dQ_allDoFor_31 : decode bQ_allDoFor 31 = .ok (.iinc 2 1, 3) := by decide +kernel
set_option maxRecDepth 100000 in
theorem dQ_allDoFor_34 : decode bQ_allDoFor 34 = .ok (.goto (-32), 3) := by decide +kernel
set_option maxRecDepth 100000 in
theorem dQ_allDoFor_37 : decode bQ_allDoFor 37 = .ok (.iconst 1, 1) := by decide +kernel
set_option maxRecDepth 100000 in
theorem dQ_allDoFor_38 : decode bQ_allDoFor 38 = .ok (.ireturn, 1) := by decide +kernel
def fQ_allDoFor_2b (N : Nat) (rec2 : Nat → Nat → Int32 → Option (Int32)) (σ : xS) (k0 : Nat) (k1 : Nat) (a2 : Int32) : Option (Int32) :=
  if k0 < 17 then
  if (σ.1 18 k0 2) ≤ a2 then
  (some 1)
  else
  (if ¬ (a2 < 0 ∨ 4 ≤ a2.toNatClampNeg) then
  xp (fD_canDo σ k1 (σ.1 19 k0 a2.toNatClampNeg) (σ.1 20 k0 a2.toNatClampNeg)) fun r12 =>
  if k1 < 12 then
  if r12 = 0 then
  (some 0)
  else
  (rec2 k0 k1 (a2 + 1))
  else none
  else none)
  else none
def fQ_allDoFor_2 (N : Nat) (σ : xS) : Nat → Nat → Nat → Int32 → Option (Int32)
  | 0, _, _, _ => none
  | n + 1, k0, k1, a2 => fQ_allDoFor_2b N (fQ_allDoFor_2 N σ n) σ k0 k1 a2
def fQ_allDoFor (N : Nat) (σ : xS) (k0 : Nat) (k1 : Nat) : Option (Int32) :=
  fQ_allDoFor_2 N σ N k0 k1 0
set_option maxHeartbeats 4000000 in
set_option maxRecDepth 100000 in
theorem wQ_allDoFor_2b {p : Program} {l : Launch} {e : Env} {R : Room} {s : State} {m : MethodId} {args : Array Value} {below : List Frame} {meth : Method} {c : Code} {E : xE} {A : Nat → Prop} {τ : yS} (C : xC p s m args meth c R E A bQ_allDoFor 3 yQ_allDoFor (some .boolean) 1 0 0) (N : Nat) (σ : xS) (rec2 : Nat → Nat → Int32 → Option (Int32)) (hrec2 : ∀ (k0 : Nat) (k1 : Nat) (a2 : Int32) (res : Int32), rec2 k0 k1 a2 = some res → ∀ (H : Heap) (locs : List Loc) (ls : Array Slot), xW E A s σ τ H locs → lv_has ls 3 [(0, .ref (E.2.2.1 18 k0)), (1, .ref (E.2.2.1 14 k1)), (2, .int a2)] → W p l e R s m args below meth c H locs 0 0 (MQ below (xQ E A (some (.int res)) σ τ) args s 0 0 A) (F0 m 2 ls [])) (k0 : Nat) (k1 : Nat) (a2 : Int32) (res : Int32) (hf : fQ_allDoFor_2b N rec2 σ k0 k1 a2 = some res) (H : Heap) (locs : List Loc) (ls : Array Slot) (hw : xW E A s σ τ H locs) (hl : lv_has ls 3 [(0, .ref (E.2.2.1 18 k0)), (1, .ref (E.2.2.1 14 k1)), (2, .int a2)]) : W p l e R s m args below meth c H locs 0 0 (MQ below (xQ E A (some (.int res)) σ τ) args s 0 0 A) (F0 m 2 ls []) := by
  have hx := C.1
  have hb := C.2.1
  unfold fQ_allDoFor_2b at hf
  refine lv_iload_n hx hb dQ_allDoFor_2 rfl (lv_at hl 2 rfl) ?_
  refine lv_aload_n hx hb dQ_allDoFor_3 rfl (lv_at hl 0 rfl) ?_
  obtain ⟨g8, hf⟩ := x_g hf
  refine x_get C hw 18 k0 2 (v := .int (σ.1 18 k0 2)) (at_18 g8) rfl rfl ⟨by decide, by decide⟩ wQ_18 rfl dQ_allDoFor_4 ?_
  refine lv_icmp_ge (tgt := 37) hx hb dQ_allDoFor_7 (by decide) (fun c9 => ?_) (fun c9 => ?_)
  · replace hf := x_ip c9 hf
    refine lv_iconst (v := 1) hx hb dQ_allDoFor_37 (by decide) ?_
    obtain rfl := Option.some.inj hf
    exact x_zret C hw rfl dQ_allDoFor_38
  · replace hf := x_in c9 hf
    refine lv_aload_n hx hb dQ_allDoFor_10 rfl (lv_at hl 1 rfl) ?_
    refine lv_aload_n hx hb dQ_allDoFor_11 rfl (lv_at hl 0 rfl) ?_
    refine x_get C hw 18 k0 0 (v := .ref (E.2.2.1 19 k0)) (at_18 g8) rfl rfl ⟨by decide, by decide⟩ wQ_9 rfl dQ_allDoFor_12 ?_
    refine lv_iload_n hx hb dQ_allDoFor_15 rfl (lv_at hl 2 rfl) ?_
    obtain ⟨g10, hf⟩ := x_g hf
    refine x_ild C hw 19 k0 (at_19 g8) rfl g10 dQ_allDoFor_16 ?_
    refine lv_aload_n hx hb dQ_allDoFor_17 rfl (lv_at hl 0 rfl) ?_
    refine x_get C hw 18 k0 1 (v := .ref (E.2.2.1 20 k0)) (at_18 g8) rfl rfl ⟨by decide, by decide⟩ wQ_15 rfl dQ_allDoFor_18 ?_
    refine lv_iload_n hx hb dQ_allDoFor_21 rfl (lv_at hl 2 rfl) ?_
    refine x_ild C hw 20 k0 (at_20 g8) rfl g10 dQ_allDoFor_22 ?_
    obtain ⟨r12, h11, hf⟩ := x_p hf
    obtain ⟨g13, hf⟩ := x_g hf
    refine x_callVN (As := [.int (σ.1 19 k0 a2.toNatClampNeg), .int (σ.1 20 k0 a2.toNatClampNeg)]) (rest := []) (st1 := [.int r12]) C hw (cD_canDo l E σ τ k1 (σ.1 19 k0 a2.toNatClampNeg) (σ.1 20 k0 a2.toNatClampNeg) r12 h11) kQ_26 (x_recv C hw 14 k1 (at_14 g13) rfl rfl) (by decide) rfl rfl hl.1 (lv_room (Nat.le_of_ble_eq_true rfl)) dQ_allDoFor_23 ⟨by decide, by decide⟩ rfl (fun H locs hw => ?_)
    refine lv_if_ne (tgt := 31) hx hb dQ_allDoFor_26 (by decide) (fun c14 => ?_) (fun c14 => ?_)
    · replace hf := x_in c14 hf
      refine lv_iinc (v := a2 + 1) (lv' := [(2, .int (a2 + 1)), (0, .ref (E.2.2.1 18 k0)), (1, .ref (E.2.2.1 14 k1))]) hx hb dQ_allDoFor_31 hl (k := 2) rfl rfl (by decide) rfl (fun ls hl => ?_)
      refine lv_goto (tgt := 2) hx hb dQ_allDoFor_34 (by decide) ?_
      exact hrec2 k0 k1 (a2 + 1) res hf H locs ls hw (lv_sub hl [1, 2, 0] rfl)
    · replace hf := x_ip c14 hf
      refine lv_iconst (v := 0) hx hb dQ_allDoFor_29 (by decide) ?_
      obtain rfl := Option.some.inj hf
      exact x_zret C hw rfl dQ_allDoFor_30
set_option maxHeartbeats 4000000 in
set_option maxRecDepth 100000 in
theorem wQ_allDoFor_2 {p : Program} {l : Launch} {e : Env} {R : Room} {s : State} {m : MethodId} {args : Array Value} {below : List Frame} {meth : Method} {c : Code} {E : xE} {A : Nat → Prop} {τ : yS} (C : xC p s m args meth c R E A bQ_allDoFor 3 yQ_allDoFor (some .boolean) 1 0 0) (N : Nat) (σ : xS) (n : Nat) : ∀ (k0 : Nat) (k1 : Nat) (a2 : Int32) (res : Int32), fQ_allDoFor_2 N σ n k0 k1 a2 = some res → ∀ (H : Heap) (locs : List Loc) (ls : Array Slot), xW E A s σ τ H locs → lv_has ls 3 [(0, .ref (E.2.2.1 18 k0)), (1, .ref (E.2.2.1 14 k1)), (2, .int a2)] → W p l e R s m args below meth c H locs 0 0 (MQ below (xQ E A (some (.int res)) σ τ) args s 0 0 A) (F0 m 2 ls []) := by
  induction n with
  | zero => intro k0 k1 a2 res hf; cases hf
  | succ n ih =>
    intro k0 k1 a2 res hf H locs ls hw hl
    exact wQ_allDoFor_2b C N σ (fQ_allDoFor_2 N σ n) ih k0 k1 a2 res hf H locs ls hw hl
set_option maxHeartbeats 4000000 in
set_option maxRecDepth 100000 in
theorem cQ_allDoFor (l : Launch) (E : xE) (N : Nat) (σ : xS) (τ : yS) (k0 : Nat) (k1 : Nat) (res : Int32) (hf : fQ_allDoFor N σ k0 k1 = some res) : xM l E yQ_allDoFor bQ_allDoFor 3 (some .boolean) 1 0 0 [.ref (E.2.2.1 18 k0), .ref (E.2.2.1 14 k1)] σ τ (some (.int res)) σ τ := by
  refine x_met (by decide) (Nat.le_of_ble_eq_true rfl) (fun p e R s m args below meth c A ls H locs C hw hl => ?_)
  have hl : lv_has ls 3 [(0, .ref (E.2.2.1 18 k0)), (1, .ref (E.2.2.1 14 k1))] := hl
  have hx := C.1
  have hb := C.2.1
  unfold fQ_allDoFor at hf
  refine lv_iconst (v := 0) hx hb dQ_allDoFor_0 (by decide) ?_
  refine lv_istore_n (lv' := [(2, .int 0), (0, .ref (E.2.2.1 18 k0)), (1, .ref (E.2.2.1 14 k1))]) hx hb dQ_allDoFor_1 rfl hl (by decide) rfl (fun ls hl => ?_)
  exact wQ_allDoFor_2 C N σ N k0 k1 0 res hf H locs ls hw (lv_sub hl [1, 2, 0] rfl)
-- StandIns misuseOfCall (ILStandIns$Method;)I
set_option maxRecDepth 100000 in
theorem dA_misuseOfCall_0 : decode bA_misuseOfCall 0 = .ok (.aload_n 0, 1) := by decide +kernel
set_option maxRecDepth 100000 in
theorem dA_misuseOfCall_1 : decode bA_misuseOfCall 1 = .ok (.invokevirtual 147, 3) := by decide +kernel
set_option maxRecDepth 100000 in
theorem dA_misuseOfCall_4 : decode bA_misuseOfCall 4 = .ok (.ifCond .eq 11, 3) := by decide +kernel
set_option maxRecDepth 100000 in
theorem dA_misuseOfCall_7 : decode bA_misuseOfCall 7 = .ok (.iload_n 1, 1) := by decide +kernel
set_option maxRecDepth 100000 in
theorem dA_misuseOfCall_8 : decode bA_misuseOfCall 8 = .ok (.aload_n 0, 1) := by decide +kernel
set_option maxRecDepth 100000 in
theorem dA_misuseOfCall_9 : decode bA_misuseOfCall 9 = .ok (.getfield 80, 3) := by decide +kernel
set_option maxRecDepth 100000 in
theorem dA_misuseOfCall_12 : decode bA_misuseOfCall 12 = .ok (.if_icmp .ne 10, 3) := by decide +kernel
set_option maxRecDepth 100000 in
theorem dA_misuseOfCall_15 : decode bA_misuseOfCall 15 = .ok (.aload_n 0, 1) := by decide +kernel
set_option maxRecDepth 100000 in
theorem dA_misuseOfCall_16 : decode bA_misuseOfCall 16 = .ok (.invokevirtual 128, 3) := by decide +kernel
set_option maxRecDepth 100000 in
theorem dA_misuseOfCall_19 : decode bA_misuseOfCall 19 = .ok (.ifCond .eq 7, 3) := by decide +kernel
set_option maxRecDepth 100000 in
theorem dA_misuseOfCall_22 : decode bA_misuseOfCall 22 = .ok (.iconst 1, 1) := by decide +kernel
set_option maxRecDepth 100000 in
theorem dA_misuseOfCall_23 : decode bA_misuseOfCall 23 = .ok (.goto 4, 3) := by decide +kernel
set_option maxRecDepth 100000 in
theorem dA_misuseOfCall_26 : decode bA_misuseOfCall 26 = .ok (.iconst 0, 1) := by decide +kernel
set_option maxRecDepth 100000 in
theorem dA_misuseOfCall_27 : decode bA_misuseOfCall 27 = .ok (.istore_n 3, 1) := by decide +kernel
set_option maxRecDepth 100000 in
theorem dA_misuseOfCall_28 : decode bA_misuseOfCall 28 = .ok (.aload_n 0, 1) := by decide +kernel
set_option maxRecDepth 100000 in
theorem dA_misuseOfCall_29 : decode bA_misuseOfCall 29 = .ok (.getfield 29, 3) := by decide +kernel
set_option maxRecDepth 100000 in
theorem dA_misuseOfCall_32 : decode bA_misuseOfCall 32 = .ok (.getfield 121, 3) := by decide +kernel
set_option maxRecDepth 100000 in
theorem dA_misuseOfCall_35 : decode bA_misuseOfCall 35 = .ok (.ifCond .le 17, 3) := by decide +kernel
set_option maxRecDepth 100000 in
theorem dA_misuseOfCall_38 : decode bA_misuseOfCall 38 = .ok (.aload_n 0, 1) := by decide +kernel
set_option maxRecDepth 100000 in
theorem dA_misuseOfCall_39 : decode bA_misuseOfCall 39 = .ok (.getfield 29, 3) := by decide +kernel
set_option maxRecDepth 100000 in
theorem dA_misuseOfCall_42 : decode bA_misuseOfCall 42 = .ok (.getfield 121, 3) := by decide +kernel
set_option maxRecDepth 100000 in
theorem dA_misuseOfCall_45 : decode bA_misuseOfCall 45 = .ok (.aload_n 2, 1) := by decide +kernel
set_option maxRecDepth 100000 in
theorem dA_misuseOfCall_46 : decode bA_misuseOfCall 46 = .ok (.getfield 105, 3) := by decide +kernel
set_option maxRecDepth 100000 in
theorem dA_misuseOfCall_49 : decode bA_misuseOfCall 49 = .ok (.if_icmp .ne 22, 3) := by decide +kernel
set_option maxRecDepth 100000 in
theorem dA_misuseOfCall_52 : decode bA_misuseOfCall 52 = .ok (.aload_n 0, 1) := by decide +kernel
set_option maxRecDepth 100000 in
theorem dA_misuseOfCall_53 : decode bA_misuseOfCall 53 = .ok (.getfield 77, 3) := by decide +kernel
set_option maxRecDepth 100000 in
theorem dA_misuseOfCall_56 : decode bA_misuseOfCall 56 = .ok (.iconst 2, 1) := by decide +kernel
set_option maxRecDepth 100000 in
theorem dA_misuseOfCall_57 : decode bA_misuseOfCall 57 = .ok (.if_icmp .ne 18, 3) := by decide +kernel
set_option maxRecDepth 100000 in
theorem dA_misuseOfCall_60 : decode bA_misuseOfCall 60 = .ok (.aload_n 0, 1) := by decide +kernel
set_option maxRecDepth 100000 in
theorem dA_misuseOfCall_61 : decode bA_misuseOfCall 61 = .ok (.getfield 36, 3) := by decide +kernel
set_option maxRecDepth 100000 in
theorem dA_misuseOfCall_64 : decode bA_misuseOfCall 64 = .ok (.aload_n 2, 1) := by decide +kernel
set_option maxRecDepth 100000 in
theorem dA_misuseOfCall_65 : decode bA_misuseOfCall 65 = .ok (.invokevirtual 281, 3) := by decide +kernel
set_option maxRecDepth 100000 in
theorem dA_misuseOfCall_68 : decode bA_misuseOfCall 68 = .ok (.ifCond .ne 7, 3) := by decide +kernel
set_option maxRecDepth 100000 in
theorem dA_misuseOfCall_71 : decode bA_misuseOfCall 71 = .ok (.iconst 1, 1) := by decide +kernel
set_option maxRecDepth 100000 in
theorem dA_misuseOfCall_72 : decode bA_misuseOfCall 72 = .ok (.goto 4, 3) := by decide +kernel
set_option maxRecDepth 100000 in
theorem dA_misuseOfCall_75 : decode bA_misuseOfCall 75 = .ok (.iconst 0, 1) := by decide +kernel
set_option maxRecDepth 100000 in
theorem dA_misuseOfCall_76 : decode bA_misuseOfCall 76 = .ok (.istore 4, 2) := by decide +kernel
set_option maxRecDepth 100000 in
theorem dA_misuseOfCall_78 : decode bA_misuseOfCall 78 = .ok (.aload_n 0, 1) := by decide +kernel
set_option maxRecDepth 100000 in
theorem dA_misuseOfCall_79 : decode bA_misuseOfCall 79 = .ok (.iload_n 3, 1) := by decide +kernel
set_option maxRecDepth 100000 in
theorem dA_misuseOfCall_80 : decode bA_misuseOfCall 80 = .ok (.iconst 0, 1) := by decide +kernel
set_option maxRecDepth 100000 in
theorem dA_misuseOfCall_81 : decode bA_misuseOfCall 81 = .ok (.iload 4, 2) := by decide +kernel
set_option maxRecDepth 100000 in
theorem dA_misuseOfCall_83 : decode bA_misuseOfCall 83 = .ok (.invokevirtual 132, 3) := by decide +kernel
set_option maxRecDepth 100000 in
theorem dA_misuseOfCall_86 : decode bA_misuseOfCall 86 = .ok (.ireturn, 1) := by decide +kernel
def fA_misuseOfCall_76 (N : Nat) (σ : xS) (a3 : Int32) (t0 : Int32) : Option (Int32 × xS) :=
  xb (fA_misuseIf σ a3 0 t0) fun r15 s16 =>
  some (r15, s16)
def fA_misuseOfCall_75 (N : Nat) (σ : xS) (a3 : Int32) : Option (Int32 × xS) :=
  fA_misuseOfCall_76 N σ a3 0
def fA_misuseOfCall_71 (N : Nat) (σ : xS) (a3 : Int32) : Option (Int32 × xS) :=
  fA_misuseOfCall_76 N σ a3 1
def fA_misuseOfCall_52 (N : Nat) (σ : xS) (k2 : Nat) (a3 : Int32) : Option (Int32 × xS) :=
  if (σ.1 0 0 12) = 2 then
  (xp (fQ_allDoFor N σ 16 k2) fun r19 =>
  if r19 = 0 then
  (fA_misuseOfCall_71 N σ a3)
  else
  (fA_misuseOfCall_75 N σ a3))
  else
  (fA_misuseOfCall_75 N σ a3)
def fA_misuseOfCall_27 (N : Nat) (σ : xS) (k2 : Nat) (t0 : Int32) : Option (Int32 × xS) :=
  if (σ.1 4 0 1) ≤ 0 then
  (fA_misuseOfCall_52 N σ k2 t0)
  else
  (if k2 < 12 then
  if (σ.1 4 0 1) = (σ.1 14 k2 0) then
  (fA_misuseOfCall_52 N σ k2 t0)
  else
  (fA_misuseOfCall_71 N σ t0)
  else none)
def fA_misuseOfCall_22 (N : Nat) (σ : xS) (k2 : Nat) : Option (Int32 × xS) :=
  fA_misuseOfCall_27 N σ k2 1
def fA_misuseOfCall_15 (N : Nat) (σ : xS) (k2 : Nat) : Option (Int32 × xS) :=
  xp (fA_lacksAnswers σ) fun r25 =>
  if r25 = 0 then
  (fA_misuseOfCall_27 N σ k2 0)
  else
  (fA_misuseOfCall_22 N σ k2)
def fA_misuseOfCall (N : Nat) (σ : xS) (a1 : Int32) (k2 : Nat) : Option (Int32 × xS) :=
  if (fA_awaitsCall σ) = 0 then
  (fA_misuseOfCall_15 N σ k2)
  else
  (if a1 = (σ.1 0 0 13) then
  (fA_misuseOfCall_15 N σ k2)
  else
  (fA_misuseOfCall_22 N σ k2))
set_option maxHeartbeats 4000000 in
set_option maxRecDepth 100000 in
theorem wA_misuseOfCall_76 {p : Program} {l : Launch} {e : Env} {R : Room} {s : State} {m : MethodId} {args : Array Value} {below : List Frame} {meth : Method} {c : Code} {E : xE} {A : Nat → Prop} {τ : yS} (C : xC p s m args meth c R E A bA_misuseOfCall 5 yA_misuseOfCall (some .int) 4 0 0) (N : Nat) (σ : xS) (a3 : Int32) (t0 : Int32) (res : Int32 × xS) (hf : fA_misuseOfCall_76 N σ a3 t0 = some res) (H : Heap) (locs : List Loc) (ls : Array Slot) (hw : xW E A s σ τ H locs) (hl : lv_has ls 5 [(0, .ref (E.2.2.1 0 0)), (3, .int a3)]) : W p l e R s m args below meth c H locs 0 0 (MQ below (xQ E A (some (.int res.1)) res.2 τ) args s 0 0 A) (F0 m 76 ls [.int t0]) := by
  have hx := C.1
  have hb := C.2.1
  unfold fA_misuseOfCall_76 at hf
  refine lv_istore (lv' := [(4, .int t0), (0, .ref (E.2.2.1 0 0)), (3, .int a3)]) hx hb dA_misuseOfCall_76 hl (by decide) rfl (fun ls hl => ?_)
  refine lv_aload_n hx hb dA_misuseOfCall_78 rfl (lv_at hl 1 rfl) ?_
  refine lv_iload_n hx hb dA_misuseOfCall_79 rfl (lv_at hl 2 rfl) ?_
  refine lv_iconst (v := 0) hx hb dA_misuseOfCall_80 (by decide) ?_
  refine lv_iload hx hb dA_misuseOfCall_81 (lv_at hl 0 rfl) ?_
  obtain ⟨r15, s16, h14, hf⟩ := x_b hf
  refine x_callV (As := [.int a3, .int 0, .int t0]) (rest := []) (st1 := [.int r15]) C hw (cA_misuseIf l E σ τ a3 0 t0 (r15, s16) h14) kA_132 (x_recv C hw 0 0 at_0 rfl rfl) (by decide) rfl rfl hl.1 (lv_room (Nat.le_of_ble_eq_true rfl)) dA_misuseOfCall_83 ⟨by decide, by decide⟩ rfl (fun H locs hw => ?_)
  obtain rfl := Option.some.inj hf
  exact x_iret C hw dA_misuseOfCall_86
set_option maxHeartbeats 4000000 in
set_option maxRecDepth 100000 in
theorem wA_misuseOfCall_75 {p : Program} {l : Launch} {e : Env} {R : Room} {s : State} {m : MethodId} {args : Array Value} {below : List Frame} {meth : Method} {c : Code} {E : xE} {A : Nat → Prop} {τ : yS} (C : xC p s m args meth c R E A bA_misuseOfCall 5 yA_misuseOfCall (some .int) 4 0 0) (N : Nat) (σ : xS) (a3 : Int32) (res : Int32 × xS) (hf : fA_misuseOfCall_75 N σ a3 = some res) (H : Heap) (locs : List Loc) (ls : Array Slot) (hw : xW E A s σ τ H locs) (hl : lv_has ls 5 [(0, .ref (E.2.2.1 0 0)), (3, .int a3)]) : W p l e R s m args below meth c H locs 0 0 (MQ below (xQ E A (some (.int res.1)) res.2 τ) args s 0 0 A) (F0 m 75 ls []) := by
  have hx := C.1
  have hb := C.2.1
  unfold fA_misuseOfCall_75 at hf
  refine lv_iconst (v := 0) hx hb dA_misuseOfCall_75 (by decide) ?_
  exact wA_misuseOfCall_76 C N σ a3 0 res hf H locs ls hw (lv_sub hl [0, 1] rfl)
set_option maxHeartbeats 4000000 in
set_option maxRecDepth 100000 in
theorem wA_misuseOfCall_71 {p : Program} {l : Launch} {e : Env} {R : Room} {s : State} {m : MethodId} {args : Array Value} {below : List Frame} {meth : Method} {c : Code} {E : xE} {A : Nat → Prop} {τ : yS} (C : xC p s m args meth c R E A bA_misuseOfCall 5 yA_misuseOfCall (some .int) 4 0 0) (N : Nat) (σ : xS) (a3 : Int32) (res : Int32 × xS) (hf : fA_misuseOfCall_71 N σ a3 = some res) (H : Heap) (locs : List Loc) (ls : Array Slot) (hw : xW E A s σ τ H locs) (hl : lv_has ls 5 [(0, .ref (E.2.2.1 0 0)), (3, .int a3)]) : W p l e R s m args below meth c H locs 0 0 (MQ below (xQ E A (some (.int res.1)) res.2 τ) args s 0 0 A) (F0 m 71 ls []) := by
  have hx := C.1
  have hb := C.2.1
  unfold fA_misuseOfCall_71 at hf
  refine lv_iconst (v := 1) hx hb dA_misuseOfCall_71 (by decide) ?_
  refine lv_goto (tgt := 76) hx hb dA_misuseOfCall_72 (by decide) ?_
  exact wA_misuseOfCall_76 C N σ a3 1 res hf H locs ls hw (lv_sub hl [0, 1] rfl)
set_option maxHeartbeats 4000000 in
set_option maxRecDepth 100000 in
theorem wA_misuseOfCall_52 {p : Program} {l : Launch} {e : Env} {R : Room} {s : State} {m : MethodId} {args : Array Value} {below : List Frame} {meth : Method} {c : Code} {E : xE} {A : Nat → Prop} {τ : yS} (C : xC p s m args meth c R E A bA_misuseOfCall 5 yA_misuseOfCall (some .int) 4 0 0) (N : Nat) (σ : xS) (k2 : Nat) (a3 : Int32) (res : Int32 × xS) (hf : fA_misuseOfCall_52 N σ k2 a3 = some res) (H : Heap) (locs : List Loc) (ls : Array Slot) (hw : xW E A s σ τ H locs) (hl : lv_has ls 5 [(0, .ref (E.2.2.1 0 0)), (2, .ref (E.2.2.1 14 k2)), (3, .int a3)]) : W p l e R s m args below meth c H locs 0 0 (MQ below (xQ E A (some (.int res.1)) res.2 τ) args s 0 0 A) (F0 m 52 ls []) := by
  have hx := C.1
  have hb := C.2.1
  unfold fA_misuseOfCall_52 at hf
  refine lv_aload_n hx hb dA_misuseOfCall_52 rfl (lv_at hl 0 rfl) ?_
  refine x_get C hw 0 0 12 (v := .int (σ.1 0 0 12)) at_0 rfl rfl ⟨by decide, by decide⟩ wA_77 rfl dA_misuseOfCall_53 ?_
  refine lv_iconst (v := 2) hx hb dA_misuseOfCall_56 (by decide) ?_
  refine lv_icmp_ne (tgt := 75) hx hb dA_misuseOfCall_57 (by decide) (fun c17 => ?_) (fun c17 => ?_)
  · replace hf := x_in c17 hf
    exact wA_misuseOfCall_75 C N σ a3 res hf H locs ls hw (lv_sub hl [0, 2] rfl)
  · replace hf := x_ip c17 hf
    refine lv_aload_n hx hb dA_misuseOfCall_60 rfl (lv_at hl 0 rfl) ?_
    refine x_get C hw 0 0 5 (v := .ref (E.2.2.1 18 16)) at_0 rfl rfl ⟨by decide, by decide⟩ wA_36 rfl dA_misuseOfCall_61 ?_
    refine lv_aload_n hx hb dA_misuseOfCall_64 rfl (lv_at hl 1 rfl) ?_
    obtain ⟨r19, h18, hf⟩ := x_p hf
    refine x_callVN (As := [.ref (E.2.2.1 14 k2)]) (rest := []) (st1 := [.int r19]) C hw (cQ_allDoFor l E N σ τ 16 k2 r19 h18) kA_281 (x_recv C hw 18 16 (at_18 (by decide)) rfl rfl) (by decide) rfl rfl hl.1 (lv_room (Nat.le_of_ble_eq_true rfl)) dA_misuseOfCall_65 ⟨by decide, by decide⟩ rfl (fun H locs hw => ?_)
    refine lv_if_ne (tgt := 75) hx hb dA_misuseOfCall_68 (by decide) (fun c20 => ?_) (fun c20 => ?_)
    · replace hf := x_in c20 hf
      exact wA_misuseOfCall_75 C N σ a3 res hf H locs ls hw (lv_sub hl [0, 2] rfl)
    · replace hf := x_ip c20 hf
      exact wA_misuseOfCall_71 C N σ a3 res hf H locs ls hw (lv_sub hl [0, 2] rfl)
set_option maxHeartbeats 4000000 in
set_option maxRecDepth 100000 in
theorem wA_misuseOfCall_27 {p : Program} {l : Launch} {e : Env} {R : Room} {s : State} {m : MethodId} {args : Array Value} {below : List Frame} {meth : Method} {c : Code} {E : xE} {A : Nat → Prop} {τ : yS} (C : xC p s m args meth c R E A bA_misuseOfCall 5 yA_misuseOfCall (some .int) 4 0 0) (N : Nat) (σ : xS) (k2 : Nat) (t0 : Int32) (res : Int32 × xS) (hf : fA_misuseOfCall_27 N σ k2 t0 = some res) (H : Heap) (locs : List Loc) (ls : Array Slot) (hw : xW E A s σ τ H locs) (hl : lv_has ls 5 [(0, .ref (E.2.2.1 0 0)), (2, .ref (E.2.2.1 14 k2))]) : W p l e R s m args below meth c H locs 0 0 (MQ below (xQ E A (some (.int res.1)) res.2 τ) args s 0 0 A) (F0 m 27 ls [.int t0]) := by
  have hx := C.1
  have hb := C.2.1
  unfold fA_misuseOfCall_27 at hf
  refine lv_istore_n (lv' := [(3, .int t0), (0, .ref (E.2.2.1 0 0)), (2, .ref (E.2.2.1 14 k2))]) hx hb dA_misuseOfCall_27 rfl hl (by decide) rfl (fun ls hl => ?_)
  refine lv_aload_n hx hb dA_misuseOfCall_28 rfl (lv_at hl 1 rfl) ?_
  refine x_get C hw 0 0 4 (v := .ref (E.2.2.1 4 0)) at_0 rfl rfl ⟨by decide, by decide⟩ wA_29 rfl dA_misuseOfCall_29 ?_
  refine x_getN C hw 4 0 1 (v := .int (σ.1 4 0 1)) at_4 rfl rfl ⟨by decide, by decide⟩ wA_121 rfl dA_misuseOfCall_32 ?_
  refine lv_if_le (tgt := 52) hx hb dA_misuseOfCall_35 (by decide) (fun c21 => ?_) (fun c21 => ?_)
  · replace hf := x_ip c21 hf
    exact wA_misuseOfCall_52 C N σ k2 t0 res hf H locs ls hw (lv_sub hl [1, 2, 0] rfl)
  · replace hf := x_in c21 hf
    refine lv_aload_n hx hb dA_misuseOfCall_38 rfl (lv_at hl 1 rfl) ?_
    refine x_get C hw 0 0 4 (v := .ref (E.2.2.1 4 0)) at_0 rfl rfl ⟨by decide, by decide⟩ wA_29 rfl dA_misuseOfCall_39 ?_
    refine x_getN C hw 4 0 1 (v := .int (σ.1 4 0 1)) at_4 rfl rfl ⟨by decide, by decide⟩ wA_121 rfl dA_misuseOfCall_42 ?_
    refine lv_aload_n hx hb dA_misuseOfCall_45 rfl (lv_at hl 2 rfl) ?_
    obtain ⟨g22, hf⟩ := x_g hf
    refine x_getN C hw 14 k2 0 (v := .int (σ.1 14 k2 0)) (at_14 g22) rfl rfl ⟨by decide, by decide⟩ wA_105 rfl dA_misuseOfCall_46 ?_
    refine lv_icmp_ne (tgt := 71) hx hb dA_misuseOfCall_49 (by decide) (fun c23 => ?_) (fun c23 => ?_)
    · replace hf := x_in c23 hf
      exact wA_misuseOfCall_71 C N σ t0 res hf H locs ls hw (lv_sub hl [1, 0] rfl)
    · replace hf := x_ip c23 hf
      exact wA_misuseOfCall_52 C N σ k2 t0 res hf H locs ls hw (lv_sub hl [1, 2, 0] rfl)
set_option maxHeartbeats 4000000 in
set_option maxRecDepth 100000 in
theorem wA_misuseOfCall_22 {p : Program} {l : Launch} {e : Env} {R : Room} {s : State} {m : MethodId} {args : Array Value} {below : List Frame} {meth : Method} {c : Code} {E : xE} {A : Nat → Prop} {τ : yS} (C : xC p s m args meth c R E A bA_misuseOfCall 5 yA_misuseOfCall (some .int) 4 0 0) (N : Nat) (σ : xS) (k2 : Nat) (res : Int32 × xS) (hf : fA_misuseOfCall_22 N σ k2 = some res) (H : Heap) (locs : List Loc) (ls : Array Slot) (hw : xW E A s σ τ H locs) (hl : lv_has ls 5 [(0, .ref (E.2.2.1 0 0)), (2, .ref (E.2.2.1 14 k2))]) : W p l e R s m args below meth c H locs 0 0 (MQ below (xQ E A (some (.int res.1)) res.2 τ) args s 0 0 A) (F0 m 22 ls []) := by
  have hx := C.1
  have hb := C.2.1
  unfold fA_misuseOfCall_22 at hf
  refine lv_iconst (v := 1) hx hb dA_misuseOfCall_22 (by decide) ?_
  refine lv_goto (tgt := 27) hx hb dA_misuseOfCall_23 (by decide) ?_
  exact wA_misuseOfCall_27 C N σ k2 1 res hf H locs ls hw (lv_sub hl [0, 1] rfl)
set_option maxHeartbeats 4000000 in
set_option maxRecDepth 100000 in
theorem wA_misuseOfCall_15 {p : Program} {l : Launch} {e : Env} {R : Room} {s : State} {m : MethodId} {args : Array Value} {below : List Frame} {meth : Method} {c : Code} {E : xE} {A : Nat → Prop} {τ : yS} (C : xC p s m args meth c R E A bA_misuseOfCall 5 yA_misuseOfCall (some .int) 4 0 0) (N : Nat) (σ : xS) (k2 : Nat) (res : Int32 × xS) (hf : fA_misuseOfCall_15 N σ k2 = some res) (H : Heap) (locs : List Loc) (ls : Array Slot) (hw : xW E A s σ τ H locs) (hl : lv_has ls 5 [(0, .ref (E.2.2.1 0 0)), (2, .ref (E.2.2.1 14 k2))]) : W p l e R s m args below meth c H locs 0 0 (MQ below (xQ E A (some (.int res.1)) res.2 τ) args s 0 0 A) (F0 m 15 ls []) := by
  have hx := C.1
  have hb := C.2.1
  unfold fA_misuseOfCall_15 at hf
  refine lv_aload_n hx hb dA_misuseOfCall_15 rfl (lv_at hl 0 rfl) ?_
  obtain ⟨r25, h24, hf⟩ := x_p hf
  refine x_callV (As := []) (rest := []) (st1 := [.int r25]) C hw (cA_lacksAnswers l E σ τ r25 h24) kA_128 (x_recv C hw 0 0 at_0 rfl rfl) (by decide) rfl rfl hl.1 (lv_room (Nat.le_of_ble_eq_true rfl)) dA_misuseOfCall_16 ⟨by decide, by decide⟩ rfl (fun H locs hw => ?_)
  refine lv_if_eq (tgt := 26) hx hb dA_misuseOfCall_19 (by decide) (fun c26 => ?_) (fun c26 => ?_)
  · replace hf := x_ip c26 hf
    refine lv_iconst (v := 0) hx hb dA_misuseOfCall_26 (by decide) ?_
    exact wA_misuseOfCall_27 C N σ k2 0 res hf H locs ls hw (lv_sub hl [0, 1] rfl)
  · replace hf := x_in c26 hf
    exact wA_misuseOfCall_22 C N σ k2 res hf H locs ls hw (lv_sub hl [0, 1] rfl)
set_option maxHeartbeats 4000000 in
set_option maxRecDepth 100000 in
theorem cA_misuseOfCall (l : Launch) (E : xE) (N : Nat) (σ : xS) (τ : yS) (a1 : Int32) (k2 : Nat) (res : Int32 × xS) (hf : fA_misuseOfCall N σ a1 k2 = some res) : xM l E yA_misuseOfCall bA_misuseOfCall 5 (some .int) 4 0 0 [.ref (E.2.2.1 0 0), .int a1, .ref (E.2.2.1 14 k2)] σ τ (some (.int res.1)) res.2 τ := by
  refine x_met (by decide) (Nat.le_of_ble_eq_true rfl) (fun p e R s m args below meth c A ls H locs C hw hl => ?_)
  have hl : lv_has ls 5 [(0, .ref (E.2.2.1 0 0)), (1, .int a1), (2, .ref (E.2.2.1 14 k2))] := hl
  have hx := C.1
  have hb := C.2.1
  unfold fA_misuseOfCall at hf
  refine lv_aload_n hx hb dA_misuseOfCall_0 rfl (lv_at hl 0 rfl) ?_
  refine x_callV (As := []) (rest := []) (st1 := [.int (fA_awaitsCall σ)]) C hw (cA_awaitsCall l E σ τ) kA_147 (x_recv C hw 0 0 at_0 rfl rfl) (by decide) rfl rfl hl.1 (lv_room (Nat.le_of_ble_eq_true rfl)) dA_misuseOfCall_1 ⟨by decide, by decide⟩ rfl (fun H locs hw => ?_)
  refine lv_if_eq (tgt := 15) hx hb dA_misuseOfCall_4 (by decide) (fun c28 => ?_) (fun c28 => ?_)
  · replace hf := x_ip c28 hf
    exact wA_misuseOfCall_15 C N σ k2 res hf H locs ls hw (lv_sub hl [0, 2] rfl)
  · replace hf := x_in c28 hf
    refine lv_iload_n hx hb dA_misuseOfCall_7 rfl (lv_at hl 1 rfl) ?_
    refine lv_aload_n hx hb dA_misuseOfCall_8 rfl (lv_at hl 0 rfl) ?_
    refine x_get C hw 0 0 13 (v := .int (σ.1 0 0 13)) at_0 rfl rfl ⟨by decide, by decide⟩ wA_80 rfl dA_misuseOfCall_9 ?_
    refine lv_icmp_ne (tgt := 22) hx hb dA_misuseOfCall_12 (by decide) (fun c29 => ?_) (fun c29 => ?_)
    · replace hf := x_in c29 hf
      exact wA_misuseOfCall_22 C N σ k2 res hf H locs ls hw (lv_sub hl [0, 2] rfl)
    · replace hf := x_ip c29 hf
      exact wA_misuseOfCall_15 C N σ k2 res hf H locs ls hw (lv_sub hl [0, 2] rfl)
-- StandIns matcherOf (III)LStandIns$Matcher;
set_option maxRecDepth 100000 in
theorem dA_matcherOf_0 : decode bA_matcherOf 0 = .ok (.iload_n 1, 1) := by decide +kernel
set_option maxRecDepth 100000 in
theorem dA_matcherOf_1 : decode bA_matcherOf 1 = .ok (.iload_n 2, 1) := by decide +kernel
set_option maxRecDepth 100000 in
theorem dA_matcherOf_2 : decode bA_matcherOf 2 = .ok (.if_icmp .lt 5, 3) := by decide +kernel
set_option maxRecDepth 100000 in
theorem dA_matcherOf_5 : decode bA_matcherOf 5 = .ok (.aconst_null, 1) := by decide +kernel
set_option maxRecDepth 100000 in
theorem dA_matcherOf_6 : decode bA_matcherOf 6 = .ok (.areturn, 1) := by decide +kernel
set_option maxRecDepth 100000 in
theorem dA_matcherOf_7 : decode bA_matcherOf 7 = .ok (.iload_n 1, 1) := by decide +kernel
set_option maxRecDepth 100000 in
theorem dA_matcherOf_8 : decode bA_matcherOf 8 = .ok (.aload_n 0, 1) := by decide +kernel
set_option maxRecDepth 100000 in
theorem dA_matcherOf_9 : decode bA_matcherOf 9 = .ok (.getfield 29, 3) := by decide +kernel
set_option maxRecDepth 100000 in
theorem dA_matcherOf_12 : decode bA_matcherOf 12 = .ok (.getfield 121, 3) := by decide +kernel
set_option maxRecDepth 100000 in
theorem dA_matcherOf_15 : decode bA_matcherOf 15 = .ok (.if_icmp .ge 15, 3) := by decide +kernel
set_option maxRecDepth 100000 in
theorem dA_matcherOf_18 : decode bA_matcherOf 18 = .ok (.aload_n 0, 1) := by decide +kernel
set_option maxRecDepth 100000 in
theorem dA_matcherOf_19 : decode bA_matcherOf 19 = .ok (.getfield 29, 3) := by decide +kernel
set_option maxRecDepth 100000 in
theorem dA_matcherOf_22 : decode bA_matcherOf 22 = .ok (.getfield 303, 3) := by decide +kernel
set_option maxRecDepth 100000 in
theorem dA_matcherOf_25 : decode bA_matcherOf 25 = .ok (.iload_n 1, 1) := by decide +kernel
set_option maxRecDepth 100000 in
theorem dA_matcherOf_26 : decode bA_matcherOf 26 = .ok (.aaload, 1) := by decide +kernel
set_option maxRecDepth 100000 in
theorem dA_matcherOf_27 : decode bA_matcherOf 27 = .ok (.goto 14, 3) := by decide +kernel
set_option maxRecDepth 100000 in
theorem dA_matcherOf_30 : decode bA_matcherOf 30 = .ok (.new 117, 3) := by decide +kernel
set_option maxRecDepth 100000 in
theorem dA_matcherOf_33 : decode bA_matcherOf 33 = .ok (.dup, 1) := by decide +kernel
set_option maxRecDepth 100000 in
theorem dA_matcherOf_34 : decode bA_matcherOf 34 = .ok (.iconst 1, 1) := by decide +kernel
set_option maxRecDepth 100000 in
theorem dA_matcherOf_35 : decode bA_matcherOf 35 = .ok (.iload_n 3, 1) := by decide +kernel
set_option maxRecDepth 100000 in
theorem dA_matcherOf_36 : decode bA_matcherOf 36 = .ok (.aconst_null, 1) := by decide +kernel
set_option maxRecDepth 100000 in
theorem dA_matcherOf_37 : decode bA_matcherOf 37 = .ok (.aconst_null, 1) := by decide +kernel
set_option maxRecDepth 100000 in
theorem dA_matcherOf_38 : decode bA_matcherOf 38 = .ok (.invokespecial 140, 3) := by decide +kernel
set_option maxRecDepth 100000 in
theorem dA_matcherOf_41 : decode bA_matcherOf 41 = .ok (.areturn, 1) := by decide +kernel
def fA_matcherOf (σ : xS) (a1 : Int32) (a2 : Int32) (a3 : Int32) : Option (Option Nat × xS) :=
  if a1 < a2 then
  (if (σ.1 4 0 1) ≤ a1 then
  (xl (x_nw σ) fun s3 =>
  xp (fH_init s3 σ.2.2.2 1 a3 none none) fun s5 =>
  some (some σ.2.2.2, s5))
  else
  (if ¬ (a1 < 0 ∨ 6 ≤ a1.toNatClampNeg) then
  some (σ.2.1 5 0 a1.toNatClampNeg, σ)
  else none))
  else
  (some (none, σ))
set_option maxHeartbeats 4000000 in
set_option maxRecDepth 100000 in
theorem cA_matcherOf (l : Launch) (E : xE) (σ : xS) (τ : yS) (a1 : Int32) (a2 : Int32) (a3 : Int32) (res : Option Nat × xS) (hf : fA_matcherOf σ a1 a2 a3 = some res) : xM l E yA_matcherOf bA_matcherOf 4 (some (.object "StandIns$Matcher")) 2 1 5 [.ref (E.2.2.1 0 0), .int a1, .int a2, .int a3] σ τ (some (va_rf res.1)) res.2 τ := by
  refine x_met (by decide) (Nat.le_of_ble_eq_true rfl) (fun p e R s m args below meth c A ls H locs C hw hl => ?_)
  have hl : lv_has ls 4 [(0, .ref (E.2.2.1 0 0)), (1, .int a1), (2, .int a2), (3, .int a3)] := hl
  have hx := C.1
  have hb := C.2.1
  unfold fA_matcherOf at hf
  refine lv_iload_n hx hb dA_matcherOf_0 rfl (lv_at hl 1 rfl) ?_
  refine lv_iload_n hx hb dA_matcherOf_1 rfl (lv_at hl 2 rfl) ?_
  refine lv_icmp_lt (tgt := 7) hx hb dA_matcherOf_2 (by decide) (fun c1 => ?_) (fun c1 => ?_)
  · replace hf := x_ip c1 hf
    refine lv_iload_n hx hb dA_matcherOf_7 rfl (lv_at hl 1 rfl) ?_
    refine lv_aload_n hx hb dA_matcherOf_8 rfl (lv_at hl 0 rfl) ?_
    refine x_get C hw 0 0 4 (v := .ref (E.2.2.1 4 0)) at_0 rfl rfl ⟨by decide, by decide⟩ wA_29 rfl dA_matcherOf_9 ?_
    refine x_getN C hw 4 0 1 (v := .int (σ.1 4 0 1)) at_4 rfl rfl ⟨by decide, by decide⟩ wA_121 rfl dA_matcherOf_12 ?_
    refine lv_icmp_ge (tgt := 30) hx hb dA_matcherOf_15 (by decide) (fun c2 => ?_) (fun c2 => ?_)
    · replace hf := x_ip c2 hf
      refine x_new C hw wA_117 (by decide) (by decide) dA_matcherOf_30 (fun H hw => ?_)
      obtain ⟨s3, es3, hf⟩ := x_l hf
      rw [← es3] at hw
      refine lv_dup hx hb dA_matcherOf_33 rfl ?_
      refine lv_iconst (v := 1) hx hb dA_matcherOf_34 (by decide) ?_
      refine lv_iload_n hx hb dA_matcherOf_35 rfl (lv_at hl 3 rfl) ?_
      refine x_null hx hb dA_matcherOf_36 ?_
      refine x_null hx hb dA_matcherOf_37 ?_
      obtain ⟨s5, h4, hf⟩ := x_p hf
      refine x_callIN (As := [.int 1, .int a3, va_rf none, va_rf none]) (rest := [.ref σ.2.2.2]) (st1 := [.ref σ.2.2.2]) C hw (cH_init l E s3 τ σ.2.2.2 1 a3 none none s5 h4) kA_140 (by decide) rfl rfl hl.1 (lv_room (Nat.le_of_ble_eq_true rfl)) dA_matcherOf_38 ⟨by decide, by decide⟩ rfl (fun H locs hw => ?_)
      obtain rfl := Option.some.inj hf
      refine W.widen (k := 1) (n := 5) (by decide) (by decide) ?_
      exact x_aret C hw (va_rf_or _) dA_matcherOf_41
    · replace hf := x_in c2 hf
      refine lv_aload_n hx hb dA_matcherOf_18 rfl (lv_at hl 0 rfl) ?_
      refine x_get C hw 0 0 4 (v := .ref (E.2.2.1 4 0)) at_0 rfl rfl ⟨by decide, by decide⟩ wA_29 rfl dA_matcherOf_19 ?_
      refine x_getN C hw 4 0 0 (v := .ref (E.2.2.1 5 0)) at_4 rfl rfl ⟨by decide, by decide⟩ wA_303 rfl dA_matcherOf_22 ?_
      refine lv_iload_n hx hb dA_matcherOf_25 rfl (lv_at hl 1 rfl) ?_
      obtain ⟨g6, hf⟩ := x_g hf
      refine x_oald C hw g6 dA_matcherOf_26 ?_
      refine lv_goto (tgt := 41) hx hb dA_matcherOf_27 (by decide) ?_
      obtain rfl := Option.some.inj hf
      refine W.widen (k := 1) (n := 5) (by decide) (by decide) ?_
      exact x_aret C hw (va_rf_or _) dA_matcherOf_41
  · replace hf := x_in c1 hf
    refine x_null hx hb dA_matcherOf_5 ?_
    obtain rfl := Option.some.inj hf
    refine W.widen (k := 1) (n := 5) (by decide) (by decide) ?_
    exact x_aret C hw (va_rf_or _) dA_matcherOf_6
-- StandIns$Pattern copy (LStandIns$Pattern;)V
set_option maxRecDepth 100000 in
theorem dP_copy_0 : decode bP_copy 0 = .ok (.aload_n 0, 1) := by decide +kernel
set_option maxRecDepth 100000 in
theorem dP_copy_1 : decode bP_copy 1 = .ok (.aload_n 1, 1) := by decide +kernel
set_option maxRecDepth 100000 in
theorem dP_copy_2 : decode bP_copy 2 = .ok (.getfield 9, 3) := by decide +kernel
set_option maxRecDepth 100000 in
theorem dP_copy_5 : decode bP_copy 5 = .ok (.putfield 9, 3) := by decide +kernel
set_option maxRecDepth 100000 in
theorem dP_copy_8 : decode bP_copy 8 = .ok (.aload_n 0, 1) := by decide +kernel
set_option maxRecDepth 100000 in
theorem dP_copy_9 : decode bP_copy 9 = .ok (.aload_n 1, 1) := by decide +kernel
set_option maxRecDepth 100000 in
theorem dP_copy_10 : decode bP_copy 10 = .ok (.getfield 15, 3) := by decide +kernel
set_option maxRecDepth 100000 in
theorem dP_copy_13 : decode bP_copy 13 = .ok (.putfield 15, 3) := by decide +kernel
set_option maxRecDepth 100000 in
theorem dP_copy_16 : decode bP_copy 16 = .ok (.aload_n 0, 1) := by decide +kernel
set_option maxRecDepth 100000 in
theorem dP_copy_17 : decode bP_copy 17 = .ok (.aload_n 1, 1) := by decide +kernel
set_option maxRecDepth 100000 in
theorem dP_copy_18 : decode bP_copy 18 = .ok (.getfield 18, 3) := by decide +kernel
set_option maxRecDepth 100000 in
theorem dP_copy_21 : decode bP_copy 21 = .ok (.putfield 18, 3) := by decide +kernel
set_option maxRecDepth 100000 in
theorem dP_copy_24 : decode bP_copy 24 = .ok (.aload_n 0, 1) := by decide +kernel
set_option maxRecDepth 100000 in
theorem dP_copy_25 : decode bP_copy 25 = .ok (.aload_n 1, 1) := by decide +kernel
set_option maxRecDepth 100000 in
theorem dP_copy_26 : decode bP_copy 26 = .ok (.getfield 22, 3) := by decide +kernel
set_option maxRecDepth 100000 in
theorem dP_copy_29 : decode bP_copy 29 = .ok (.putfield 22, 3) := by decide +kernel
set_option maxRecDepth 100000 in
theorem dP_copy_32 : decode bP_copy 32 = .ok (.return_, 1) := by decide +kernel
def fP_copy (σ : xS) (k0 : Nat) (k1 : Nat) : Option (xS) :=
  if k1 < 17 then
  if k0 < 17 then
  xl (x_si σ 17 k0 0 (σ.1 17 k1 0)) fun s3 =>
  xl (x_si s3 17 k0 1 (s3.1 17 k1 1)) fun s4 =>
  xl (x_sp s4 17 k0 2 (s4.2.1 17 k1 2)) fun s5 =>
  xl (x_sp s5 17 k0 3 (s5.2.1 17 k1 3)) fun s6 =>
  some s6
  else none
  else none
set_option maxHeartbeats 4000000 in
set_option maxRecDepth 100000 in
theorem cP_copy (l : Launch) (E : xE) (σ : xS) (τ : yS) (k0 : Nat) (k1 : Nat) (res : xS) (hf : fP_copy σ k0 k1 = some res) : xM l E yP_copy bP_copy 2 none 0 0 0 [.ref (E.2.2.1 17 k0), .ref (E.2.2.1 17 k1)] σ τ none res τ := by
  refine x_met (by decide) (Nat.le_of_ble_eq_true rfl) (fun p e R s m args below meth c A ls H locs C hw hl => ?_)
  have hl : lv_has ls 2 [(0, .ref (E.2.2.1 17 k0)), (1, .ref (E.2.2.1 17 k1))] := hl
  have hx := C.1
  have hb := C.2.1
  unfold fP_copy at hf
  refine lv_aload_n hx hb dP_copy_0 rfl (lv_at hl 0 rfl) ?_
  refine lv_aload_n hx hb dP_copy_1 rfl (lv_at hl 1 rfl) ?_
  obtain ⟨g1, hf⟩ := x_g hf
  refine x_get C hw 17 k1 0 (v := .int (σ.1 17 k1 0)) (at_17 g1) rfl rfl ⟨by decide, by decide⟩ wP_9 rfl dP_copy_2 ?_
  obtain ⟨g2, hf⟩ := x_g hf
  refine x_puti C hw 17 k0 0 (at_17 g2) rfl rfl rfl ⟨rfl, rfl⟩ ⟨by decide, by decide⟩ (Nat.le_of_ble_eq_true rfl) wP_9 dP_copy_5 (fun H locs hw => ?_)
  obtain ⟨s3, es3, hf⟩ := x_l hf
  rw [← es3] at hw
  refine lv_aload_n hx hb dP_copy_8 rfl (lv_at hl 0 rfl) ?_
  refine lv_aload_n hx hb dP_copy_9 rfl (lv_at hl 1 rfl) ?_
  refine x_get C hw 17 k1 1 (v := .int (s3.1 17 k1 1)) (at_17 g1) rfl rfl ⟨by decide, by decide⟩ wP_15 rfl dP_copy_10 ?_
  refine x_puti C hw 17 k0 1 (at_17 g2) rfl rfl rfl ⟨rfl, rfl⟩ ⟨by decide, by decide⟩ (Nat.le_of_ble_eq_true rfl) wP_15 dP_copy_13 (fun H locs hw => ?_)
  obtain ⟨s4, es4, hf⟩ := x_l hf
  rw [← es4] at hw
  refine lv_aload_n hx hb dP_copy_16 rfl (lv_at hl 0 rfl) ?_
  refine lv_aload_n hx hb dP_copy_17 rfl (lv_at hl 1 rfl) ?_
  refine x_get C hw 17 k1 2 (v := va_rf (s4.2.1 17 k1 2)) (at_17 g1) rfl rfl ⟨by decide, by decide⟩ wP_18 rfl dP_copy_18 ?_
  refine x_puto C hw 17 k0 2 (at_17 g2) rfl rfl rfl ⟨rfl, rfl⟩ ⟨by decide, by decide⟩ (Nat.le_of_ble_eq_true rfl) wP_18 dP_copy_21 (fun H locs hw => ?_)
  obtain ⟨s5, es5, hf⟩ := x_l hf
  rw [← es5] at hw
  refine lv_aload_n hx hb dP_copy_24 rfl (lv_at hl 0 rfl) ?_
  refine lv_aload_n hx hb dP_copy_25 rfl (lv_at hl 1 rfl) ?_
  refine x_get C hw 17 k1 3 (v := va_rf (s5.2.1 17 k1 3)) (at_17 g1) rfl rfl ⟨by decide, by decide⟩ wP_22 rfl dP_copy_26 ?_
  refine x_puto C hw 17 k0 3 (at_17 g2) rfl rfl rfl ⟨rfl, rfl⟩ ⟨by decide, by decide⟩ (Nat.le_of_ble_eq_true rfl) wP_22 dP_copy_29 (fun H locs hw => ?_)
  obtain ⟨s6, es6, hf⟩ := x_l hf
  rw [← es6] at hw
  obtain rfl := Option.some.inj hf
  exact x_vret C hw dP_copy_32
-- StandIns beginTelling ()V
set_option maxRecDepth 100000 in
theorem dA_beginTelling_0 : decode bA_beginTelling 0 = .ok (.aload_n 0, 1) := by decide +kernel
set_option maxRecDepth 100000 in
theorem dA_beginTelling_1 : decode bA_beginTelling 1 = .ok (.getfield 49, 3) := by decide +kernel
set_option maxRecDepth 100000 in
theorem dA_beginTelling_4 : decode bA_beginTelling 4 = .ok (.aload_n 0, 1) := by decide +kernel
set_option maxRecDepth 100000 in
theorem dA_beginTelling_5 : decode bA_beginTelling 5 = .ok (.getfield 53, 3) := by decide +kernel
set_option maxRecDepth 100000 in
theorem dA_beginTelling_8 : decode bA_beginTelling 8 = .ok (.aaload, 1) := by decide +kernel
set_option maxRecDepth 100000 in
theorem dA_beginTelling_9 : decode bA_beginTelling 9 = .ok (.getfield 249, 3) := by decide +kernel
set_option maxRecDepth 100000 in
theorem dA_beginTelling_12 : decode bA_beginTelling 12 = .ok (.aload_n 0, 1) := by decide +kernel
set_option maxRecDepth 100000 in
theorem dA_beginTelling_13 : decode bA_beginTelling 13 = .ok (.getfield 73, 3) := by decide +kernel
set_option maxRecDepth 100000 in
theorem dA_beginTelling_16 : decode bA_beginTelling 16 = .ok (.invokevirtual 291, 3) := by decide +kernel
set_option maxRecDepth 100000 in
theorem dA_beginTelling_19 : decode bA_beginTelling 19 = .ok (.aload_n 0, 1) := by decide +kernel
set_option maxRecDepth 100000 in
theorem dA_beginTelling_20 : decode bA_beginTelling 20 = .ok (.dup, 1) := by decide +kernel
set_option maxRecDepth 100000 in
theorem dA_beginTelling_21 : decode bA_beginTelling 21 = .ok (.getfield 53, 3) := by decide +kernel
set_option maxRecDepth 100000 in
theorem dA_beginTelling_24 : decode bA_beginTelling 24 = .ok (.iconst 1, 1) := by decide +kernel
set_option maxRecDepth 100000 in
theorem dA_beginTelling_25 : decode bA_beginTelling 25 = .ok (.iadd, 1) := by decide +kernel
set_option maxRecDepth 100000 in
theorem dA_beginTelling_26 : decode bA_beginTelling 26 = .ok (.putfield 53, 3) := by decide +kernel
set_option maxRecDepth 100000 in
theorem dA_beginTelling_29 : decode bA_beginTelling 29 = .ok (.return_, 1) := by decide +kernel
def fA_beginTelling (σ : xS) : Option (xS) :=
  if ¬ ((σ.1 0 0 8) < 0 ∨ 16 ≤ (σ.1 0 0 8).toNatClampNeg) then
  xp (fP_copy σ ((σ.1 0 0 8).toNatClampNeg) 16) fun s4 =>
  if ((σ.1 0 0 8).toNatClampNeg) < 17 then
  xl (x_si s4 0 0 8 ((s4.1 0 0 8) + 1)) fun s6 =>
  some s6
  else none
  else none
set_option maxHeartbeats 4000000 in
set_option maxRecDepth 100000 in
theorem cA_beginTelling (l : Launch) (E : xE) (σ : xS) (τ : yS) (res : xS) (hf : fA_beginTelling σ = some res) : xM l E yA_beginTelling bA_beginTelling 1 none 1 0 0 [.ref (E.2.2.1 0 0)] σ τ none res τ := by
  refine x_met (by decide) (Nat.le_of_ble_eq_true rfl) (fun p e R s m args below meth c A ls H locs C hw hl => ?_)
  have hl : lv_has ls 1 [(0, .ref (E.2.2.1 0 0))] := hl
  have hx := C.1
  have hb := C.2.1
  unfold fA_beginTelling at hf
  refine lv_aload_n hx hb dA_beginTelling_0 rfl (lv_at hl 0 rfl) ?_
  refine x_get C hw 0 0 7 (v := .ref (E.2.2.1 8 0)) at_0 rfl rfl ⟨by decide, by decide⟩ wA_49 rfl dA_beginTelling_1 ?_
  refine lv_aload_n hx hb dA_beginTelling_4 rfl (lv_at hl 0 rfl) ?_
  refine x_get C hw 0 0 8 (v := .int (σ.1 0 0 8)) at_0 rfl rfl ⟨by decide, by decide⟩ wA_53 rfl dA_beginTelling_5 ?_
  obtain ⟨g1, hf⟩ := x_g hf
  refine x_ald8 C hw g1 dA_beginTelling_8 ?_
  have g2 := x_lt g1
  refine x_getN C hw 16 ((σ.1 0 0 8).toNatClampNeg) 0 (v := .ref (E.2.2.1 17 ((σ.1 0 0 8).toNatClampNeg))) (at_16 g2) rfl rfl ⟨by decide, by decide⟩ wA_249 rfl dA_beginTelling_9 ?_
  refine lv_aload_n hx hb dA_beginTelling_12 rfl (lv_at hl 0 rfl) ?_
  refine x_get C hw 0 0 11 (v := .ref (E.2.2.1 17 16)) at_0 rfl rfl ⟨by decide, by decide⟩ wA_73 rfl dA_beginTelling_13 ?_
  obtain ⟨s4, h3, hf⟩ := x_p hf
  obtain ⟨g5, hf⟩ := x_g hf
  refine x_callVN (As := [.ref (E.2.2.1 17 16)]) (rest := []) (st1 := []) C hw (cP_copy l E σ τ ((σ.1 0 0 8).toNatClampNeg) 16 s4 h3) kA_291 (x_recv C hw 17 ((σ.1 0 0 8).toNatClampNeg) (at_17 g5) rfl rfl) (by decide) rfl rfl hl.1 (lv_room (Nat.le_of_ble_eq_true rfl)) dA_beginTelling_16 ⟨by decide, by decide⟩ rfl (fun H locs hw => ?_)
  refine lv_aload_n hx hb dA_beginTelling_19 rfl (lv_at hl 0 rfl) ?_
  refine lv_dup hx hb dA_beginTelling_20 rfl ?_
  refine x_get C hw 0 0 8 (v := .int (s4.1 0 0 8)) at_0 rfl rfl ⟨by decide, by decide⟩ wA_53 rfl dA_beginTelling_21 ?_
  refine lv_iconst (v := 1) hx hb dA_beginTelling_24 (by decide) ?_
  refine lv_iadd hx hb dA_beginTelling_25 ?_
  refine x_puti C hw 0 0 8 at_0 rfl rfl rfl ⟨rfl, rfl⟩ ⟨by decide, by decide⟩ (Nat.le_of_ble_eq_true rfl) wA_53 dA_beginTelling_26 (fun H locs hw => ?_)
  obtain ⟨s6, es6, hf⟩ := x_l hf
  rw [← es6] at hw
  obtain rfl := Option.some.inj hf
  exact x_vret C hw dA_beginTelling_29
-- StandIns$Answers add (II)V
set_option maxRecDepth 100000 in
theorem dQ_add_0 : decode bQ_add 0 = .ok (.aload_n 0, 1) := by decide +kernel
set_option maxRecDepth 100000 in
theorem dQ_add_1 : decode bQ_add 1 = .ok (.getfield 18, 3) := by decide +kernel
set_option maxRecDepth 100000 in
theorem dQ_add_4 : decode bQ_add 4 = .ok (.iconst 4, 1) := by decide +kernel
set_option maxRecDepth 100000 in
theorem dQ_add_5 : decode bQ_add 5 = .ok (.if_icmp .ge 33, 3) := by decide +kernel
set_option maxRecDepth 100000 in
theorem dQ_add_8 : decode bQ_add 8 = .ok (.aload_n 0, 1) := by decide +kernel
set_option maxRecDepth 100000 in
theorem dQ_add_9 : decode bQ_add 9 = .ok (.getfield 9, 3) := by decide +kernel
set_option maxRecDepth 100000 in
theorem dQ_add_12 : decode bQ_add 12 = .ok (.aload_n 0, 1) := by decide +kernel
set_option maxRecDepth 100000 in
theorem dQ_add_13 : decode bQ_add 13 = .ok (.getfield 18, 3) := by decide +kernel
set_option maxRecDepth 100000 in
theorem dQ_add_16 : decode bQ_add 16 = .ok (.iload_n 1, 1) := by decide +kernel
set_option maxRecDepth 100000 in
theorem dQ_add_17 : decode bQ_add 17 = .ok (.iastore, 1) := by decide +kernel
set_option maxRecDepth 100000 in
theorem dQ_add_18 : decode bQ_add 18 = .ok (.aload_n 0, 1) := by decide +kernel
set_option maxRecDepth 100000 in
theorem dQ_add_19 : decode bQ_add 19 = .ok (.getfield 15, 3) := by decide +kernel
set_option maxRecDepth 100000 in
theorem dQ_add_22 : decode bQ_add 22 = .ok (.aload_n 0, 1) := by decide +kernel
set_option maxRecDepth 100000 in
theorem dQ_add_23 : decode bQ_add 23 = .ok (.getfield 18, 3) := by decide +kernel
set_option maxRecDepth 100000 in
theorem dQ_add_26 : decode bQ_add 26 = .ok (.iload_n 2, 1) := by decide +kernel
set_option maxRecDepth 100000 in
theorem dQ_add_27 : decode bQ_add 27 = .ok (.iastore, 1) := by decide +kernel
set_option maxRecDepth 100000 in
theorem dQ_add_28 : decode bQ_add 28 = .ok (.aload_n 0, 1) := by decide +kernel
set_option maxRecDepth 100000 in
theorem dQ_add_29 : decode bQ_add 29 = .ok (.dup, 1) := by decide +kernel
set_option maxRecDepth 100000 in
theorem dQ_add_30 : decode bQ_add 30 = .ok (.getfield 18, 3) := by decide +kernel
set_option maxRecDepth 100000 in
theorem dQ_add_33 : decode bQ_add 33 = .ok (.iconst 1, 1) := by decide +kernel
set_option maxRecDepth 100000 in
theorem dQ_add_34 : decode bQ_add 34 = .ok (.iadd, 1) := by decide +kernel
set_option maxRecDepth 100000 in
theorem dQ_add_35 : decode bQ_add 35 = .ok (.putfield 18, 3) := by decide +kernel
set_option maxRecDepth 100000 in
theorem dQ_add_38 : decode bQ_add 38 = .ok (.return_, 1) := by decide +kernel
def fQ_add (σ : xS) (k0 : Nat) (a1 : Int32) (a2 : Int32) : Option (xS) :=
  if k0 < 17 then
  if 4 ≤ (σ.1 18 k0 2) then
  (some σ)
  else
  (if ¬ ((σ.1 18 k0 2) < 0 ∨ 4 ≤ (σ.1 18 k0 2).toNatClampNeg) then
  xl (x_si σ 19 k0 ((σ.1 18 k0 2).toNatClampNeg) a1) fun s4 =>
  if ¬ ((s4.1 18 k0 2) < 0 ∨ 4 ≤ (s4.1 18 k0 2).toNatClampNeg) then
  xl (x_si s4 20 k0 ((s4.1 18 k0 2).toNatClampNeg) a2) fun s6 =>
  xl (x_si s6 18 k0 2 ((s6.1 18 k0 2) + 1)) fun s7 =>
  some s7
  else none
  else none)
  else none
set_option maxHeartbeats 4000000 in
set_option maxRecDepth 100000 in
theorem cQ_add (l : Launch) (E : xE) (σ : xS) (τ : yS) (k0 : Nat) (a1 : Int32) (a2 : Int32) (res : xS) (hf : fQ_add σ k0 a1 a2 = some res) : xM l E yQ_add bQ_add 3 none 0 0 0 [.ref (E.2.2.1 18 k0), .int a1, .int a2] σ τ none res τ := by
  refine x_met (by decide) (Nat.le_of_ble_eq_true rfl) (fun p e R s m args below meth c A ls H locs C hw hl => ?_)
  have hl : lv_has ls 3 [(0, .ref (E.2.2.1 18 k0)), (1, .int a1), (2, .int a2)] := hl
  have hx := C.1
  have hb := C.2.1
  unfold fQ_add at hf
  refine lv_aload_n hx hb dQ_add_0 rfl (lv_at hl 0 rfl) ?_
  obtain ⟨g1, hf⟩ := x_g hf
  refine x_get C hw 18 k0 2 (v := .int (σ.1 18 k0 2)) (at_18 g1) rfl rfl ⟨by decide, by decide⟩ wQ_18 rfl dQ_add_1 ?_
  refine lv_iconst (v := 4) hx hb dQ_add_4 (by decide) ?_
  refine lv_icmp_ge (tgt := 38) hx hb dQ_add_5 (by decide) (fun c2 => ?_) (fun c2 => ?_)
  · replace hf := x_ip c2 hf
    obtain rfl := Option.some.inj hf
    exact x_vret C hw dQ_add_38
  · replace hf := x_in c2 hf
    refine lv_aload_n hx hb dQ_add_8 rfl (lv_at hl 0 rfl) ?_
    refine x_get C hw 18 k0 0 (v := .ref (E.2.2.1 19 k0)) (at_18 g1) rfl rfl ⟨by decide, by decide⟩ wQ_9 rfl dQ_add_9 ?_
    refine lv_aload_n hx hb dQ_add_12 rfl (lv_at hl 0 rfl) ?_
    refine x_get C hw 18 k0 2 (v := .int (σ.1 18 k0 2)) (at_18 g1) rfl rfl ⟨by decide, by decide⟩ wQ_18 rfl dQ_add_13 ?_
    refine lv_iload_n hx hb dQ_add_16 rfl (lv_at hl 1 rfl) ?_
    obtain ⟨g3, hf⟩ := x_g hf
    refine x_ist C hw 19 k0 (at_19 g1) rfl rfl g3 dQ_add_17 (fun H locs hw => ?_)
    obtain ⟨s4, es4, hf⟩ := x_l hf
    rw [← es4] at hw
    refine lv_aload_n hx hb dQ_add_18 rfl (lv_at hl 0 rfl) ?_
    refine x_get C hw 18 k0 1 (v := .ref (E.2.2.1 20 k0)) (at_18 g1) rfl rfl ⟨by decide, by decide⟩ wQ_15 rfl dQ_add_19 ?_
    refine lv_aload_n hx hb dQ_add_22 rfl (lv_at hl 0 rfl) ?_
    refine x_get C hw 18 k0 2 (v := .int (s4.1 18 k0 2)) (at_18 g1) rfl rfl ⟨by decide, by decide⟩ wQ_18 rfl dQ_add_23 ?_
    refine lv_iload_n hx hb dQ_add_26 rfl (lv_at hl 2 rfl) ?_
    obtain ⟨g5, hf⟩ := x_g hf
    refine x_ist C hw 20 k0 (at_20 g1) rfl rfl g5 dQ_add_27 (fun H locs hw => ?_)
    obtain ⟨s6, es6, hf⟩ := x_l hf
    rw [← es6] at hw
    refine lv_aload_n hx hb dQ_add_28 rfl (lv_at hl 0 rfl) ?_
    refine lv_dup hx hb dQ_add_29 rfl ?_
    refine x_get C hw 18 k0 2 (v := .int (s6.1 18 k0 2)) (at_18 g1) rfl rfl ⟨by decide, by decide⟩ wQ_18 rfl dQ_add_30 ?_
    refine lv_iconst (v := 1) hx hb dQ_add_33 (by decide) ?_
    refine lv_iadd hx hb dQ_add_34 ?_
    refine x_puti C hw 18 k0 2 (at_18 g1) rfl rfl rfl ⟨rfl, rfl⟩ ⟨by decide, by decide⟩ (Nat.le_of_ble_eq_true rfl) wQ_18 dQ_add_35 (fun H locs hw => ?_)
    obtain ⟨s7, es7, hf⟩ := x_l hf
    rw [← es7] at hw
    obtain rfl := Option.some.inj hf
    exact x_vret C hw dQ_add_38
-- StandIns$Answers takeAllOf (LStandIns$Answers;)V
set_option maxRecDepth 100000 in
theorem dQ_takeAllOf_0 : decode bQ_takeAllOf 0 = .ok (.iconst 0, 1) := by decide +kernel
set_option maxRecDepth 100000 in
theorem dQ_takeAllOf_1 : decode bQ_takeAllOf 1 = .ok (.istore_n 2, 1) := by decide +kernel
set_option maxRecDepth 100000 in
theorem dQ_takeAllOf_2 : decode bQ_takeAllOf 2 = .ok (.iload_n 2, 1) := by decide +kernel
set_option maxRecDepth 100000 in
theorem dQ_takeAllOf_3 : decode bQ_takeAllOf 3 = .ok (.aload_n 1, 1) := by decide +kernel
set_option maxRecDepth 100000 in
theorem dQ_takeAllOf_4 : decode bQ_takeAllOf 4 = .ok (.getfield 18, 3) := by decide +kernel
set_option maxRecDepth 100000 in
theorem dQ_takeAllOf_7 : decode bQ_takeAllOf 7 = .ok (.if_icmp .ge 25, 3) := by decide +kernel
set_option maxRecDepth 100000 in
theorem dQ_takeAllOf_10 : decode bQ_takeAllOf 10 = .ok (.aload_n 0, 1) := by decide +kernel
set_option maxRecDepth 100000 in
theorem dQ_takeAllOf_11 : decode bQ_takeAllOf 11 = .ok (.aload_n 1, 1) := by decide +kernel
set_option maxRecDepth 100000 in
theorem dQ_takeAllOf_12 : decode bQ_takeAllOf 12 = .ok (.getfield 9, 3) := by decide +kernel
set_option maxRecDepth 100000 in
theorem dQ_takeAllOf_15 : decode bQ_takeAllOf 15 = .ok (.iload_n 2, 1) := by decide +kernel
set_option maxRecDepth 100000 in
theorem dQ_takeAllOf_16 : decode bQ_takeAllOf 16 = .ok (.iaload, 1) := by decide +kernel
set_option maxRecDepth 100000 in
theorem dQ_takeAllOf_17 : decode bQ_takeAllOf 17 = .ok (.aload_n 1, 1) := by decide +kernel
set_option maxRecDepth 100000 in
theorem dQ_takeAllOf_18 : decode bQ_takeAllOf 18 = .ok (.getfield 15, 3) := by decide +kernel
set_option maxRecDepth 100000 in
theorem dQ_takeAllOf_21 : decode bQ_takeAllOf 21 = .ok (.iload_n 2, 1) := by decide +kernel
set_option maxRecDepth 100000 in
theorem dQ_takeAllOf_22 : decode bQ_takeAllOf 22 = .ok (.iaload, 1) := by decide +kernel
set_option maxRecDepth 100000 in
theorem dQ_takeAllOf_23 : decode bQ_takeAllOf 23 = .ok (.invokevirtual 22, 3) := by decide +kernel
set_option maxRecDepth 100000 in
theorem dQ_takeAllOf_26 : decode bQ_takeAllOf 26 = .ok (.iinc 2 1, 3) := by decide +kernel
set_option maxRecDepth 100000 in
theorem dQ_takeAllOf_29 : decode bQ_takeAllOf 29 = .ok (.goto (-27), 3) := by decide +kernel
set_option maxRecDepth 100000 in
theorem dQ_takeAllOf_32 : decode bQ_takeAllOf 32 = .ok (.aload_n 1, 1) := by decide +kernel
set_option maxRecDepth 100000 in
theorem dQ_takeAllOf_33 : decode bQ_takeAllOf 33 = .ok (.iconst 0, 1) := by decide +kernel
set_option maxRecDepth 100000 in
theorem dQ_takeAllOf_34 : decode bQ_takeAllOf 34 = .ok (.putfield 18, 3) := by decide +kernel
set_option maxRecDepth 100000 in
theorem dQ_takeAllOf_37 : decode bQ_takeAllOf 37 = .ok (.return_, 1) := by decide +kernel
def fQ_takeAllOf_2b (N : Nat) (rec2 : xS → Nat → Nat → Int32 → Option (xS)) (σ : xS) (k0 : Nat) (k1 : Nat) (a2 : Int32) : Option (xS) :=
  if k1 < 17 then
  if (σ.1 18 k1 2) ≤ a2 then
  (xl (x_si σ 18 k1 2 0) fun s10 =>
  some s10)
  else
  (if ¬ (a2 < 0 ∨ 4 ≤ a2.toNatClampNeg) then
  xp (fQ_add σ k0 (σ.1 19 k1 a2.toNatClampNeg) (σ.1 20 k1 a2.toNatClampNeg)) fun s13 =>
  if k0 < 17 then
  rec2 s13 k0 k1 (a2 + 1)
  else none
  else none)
  else none
def fQ_takeAllOf_2 (N : Nat) : Nat → xS → Nat → Nat → Int32 → Option (xS)
  | 0, _, _, _, _ => none
  | n + 1, σ, k0, k1, a2 => fQ_takeAllOf_2b N (fQ_takeAllOf_2 N n) σ k0 k1 a2
def fQ_takeAllOf (N : Nat) (σ : xS) (k0 : Nat) (k1 : Nat) : Option (xS) :=
  fQ_takeAllOf_2 N N σ k0 k1 0
set_option maxHeartbeats 4000000 in
set_option maxRecDepth 100000 in
theorem wQ_takeAllOf_2b {p : Program} {l : Launch} {e : Env} {R : Room} {s : State} {m : MethodId} {args : Array Value} {below : List Frame} {meth : Method} {c : Code} {E : xE} {A : Nat → Prop} {τ : yS} (C : xC p s m args meth c R E A bQ_takeAllOf 3 yQ_takeAllOf none 1 0 0) (N : Nat) (σ : xS) (rec2 : xS → Nat → Nat → Int32 → Option (xS)) (hrec2 : ∀ (σ : xS) (k0 : Nat) (k1 : Nat) (a2 : Int32) (res : xS), rec2 σ k0 k1 a2 = some res → ∀ (H : Heap) (locs : List Loc) (ls : Array Slot), xW E A s σ τ H locs → lv_has ls 3 [(0, .ref (E.2.2.1 18 k0)), (1, .ref (E.2.2.1 18 k1)), (2, .int a2)] → W p l e R s m args below meth c H locs 0 0 (MQ below (xQ E A none res τ) args s 0 0 A) (F0 m 2 ls [])) (k0 : Nat) (k1 : Nat) (a2 : Int32) (res : xS) (hf : fQ_takeAllOf_2b N rec2 σ k0 k1 a2 = some res) (H : Heap) (locs : List Loc) (ls : Array Slot) (hw : xW E A s σ τ H locs) (hl : lv_has ls 3 [(0, .ref (E.2.2.1 18 k0)), (1, .ref (E.2.2.1 18 k1)), (2, .int a2)]) : W p l e R s m args below meth c H locs 0 0 (MQ below (xQ E A none res τ) args s 0 0 A) (F0 m 2 ls []) := by
  have hx := C.1
  have hb := C.2.1
  unfold fQ_takeAllOf_2b at hf
  refine lv_iload_n hx hb dQ_takeAllOf_2 rfl (lv_at hl 2 rfl) ?_
  refine lv_aload_n hx hb dQ_takeAllOf_3 rfl (lv_at hl 1 rfl) ?_
  obtain ⟨g8, hf⟩ := x_g hf
  refine x_get C hw 18 k1 2 (v := .int (σ.1 18 k1 2)) (at_18 g8) rfl rfl ⟨by decide, by decide⟩ wQ_18 rfl dQ_takeAllOf_4 ?_
  refine lv_icmp_ge (tgt := 32) hx hb dQ_takeAllOf_7 (by decide) (fun c9 => ?_) (fun c9 => ?_)
  · replace hf := x_ip c9 hf
    refine lv_aload_n hx hb dQ_takeAllOf_32 rfl (lv_at hl 1 rfl) ?_
    refine lv_iconst (v := 0) hx hb dQ_takeAllOf_33 (by decide) ?_
    refine x_puti C hw 18 k1 2 (at_18 g8) rfl rfl rfl ⟨rfl, rfl⟩ ⟨by decide, by decide⟩ (Nat.le_of_ble_eq_true rfl) wQ_18 dQ_takeAllOf_34 (fun H locs hw => ?_)
    obtain ⟨s10, es10, hf⟩ := x_l hf
    rw [← es10] at hw
    obtain rfl := Option.some.inj hf
    exact x_vret C hw dQ_takeAllOf_37
  · replace hf := x_in c9 hf
    refine lv_aload_n hx hb dQ_takeAllOf_10 rfl (lv_at hl 0 rfl) ?_
    refine lv_aload_n hx hb dQ_takeAllOf_11 rfl (lv_at hl 1 rfl) ?_
    refine x_get C hw 18 k1 0 (v := .ref (E.2.2.1 19 k1)) (at_18 g8) rfl rfl ⟨by decide, by decide⟩ wQ_9 rfl dQ_takeAllOf_12 ?_
    refine lv_iload_n hx hb dQ_takeAllOf_15 rfl (lv_at hl 2 rfl) ?_
    obtain ⟨g11, hf⟩ := x_g hf
    refine x_ild C hw 19 k1 (at_19 g8) rfl g11 dQ_takeAllOf_16 ?_
    refine lv_aload_n hx hb dQ_takeAllOf_17 rfl (lv_at hl 1 rfl) ?_
    refine x_get C hw 18 k1 1 (v := .ref (E.2.2.1 20 k1)) (at_18 g8) rfl rfl ⟨by decide, by decide⟩ wQ_15 rfl dQ_takeAllOf_18 ?_
    refine lv_iload_n hx hb dQ_takeAllOf_21 rfl (lv_at hl 2 rfl) ?_
    refine x_ild C hw 20 k1 (at_20 g8) rfl g11 dQ_takeAllOf_22 ?_
    obtain ⟨s13, h12, hf⟩ := x_p hf
    obtain ⟨g14, hf⟩ := x_g hf
    refine x_callV (As := [.int (σ.1 19 k1 a2.toNatClampNeg), .int (σ.1 20 k1 a2.toNatClampNeg)]) (rest := []) (st1 := []) C hw (cQ_add l E σ τ k0 (σ.1 19 k1 a2.toNatClampNeg) (σ.1 20 k1 a2.toNatClampNeg) s13 h12) kQ_22 (x_recv C hw 18 k0 (at_18 g14) rfl rfl) (by decide) rfl rfl hl.1 (lv_room (Nat.le_of_ble_eq_true rfl)) dQ_takeAllOf_23 ⟨by decide, by decide⟩ rfl (fun H locs hw => ?_)
    refine lv_iinc (v := a2 + 1) (lv' := [(2, .int (a2 + 1)), (0, .ref (E.2.2.1 18 k0)), (1, .ref (E.2.2.1 18 k1))]) hx hb dQ_takeAllOf_26 hl (k := 2) rfl rfl (by decide) rfl (fun ls hl => ?_)
    refine lv_goto (tgt := 2) hx hb dQ_takeAllOf_29 (by decide) ?_
    exact hrec2 s13 k0 k1 (a2 + 1) res hf H locs ls hw (lv_sub hl [1, 2, 0] rfl)
set_option maxHeartbeats 4000000 in
set_option maxRecDepth 100000 in
theorem wQ_takeAllOf_2 {p : Program} {l : Launch} {e : Env} {R : Room} {s : State} {m : MethodId} {args : Array Value} {below : List Frame} {meth : Method} {c : Code} {E : xE} {A : Nat → Prop} {τ : yS} (C : xC p s m args meth c R E A bQ_takeAllOf 3 yQ_takeAllOf none 1 0 0) (N : Nat) (n : Nat) : ∀ (σ : xS) (k0 : Nat) (k1 : Nat) (a2 : Int32) (res : xS), fQ_takeAllOf_2 N n σ k0 k1 a2 = some res → ∀ (H : Heap) (locs : List Loc) (ls : Array Slot), xW E A s σ τ H locs → lv_has ls 3 [(0, .ref (E.2.2.1 18 k0)), (1, .ref (E.2.2.1 18 k1)), (2, .int a2)] → W p l e R s m args below meth c H locs 0 0 (MQ below (xQ E A none res τ) args s 0 0 A) (F0 m 2 ls []) := by
  induction n with
  | zero => intro σ k0 k1 a2 res hf; cases hf
  | succ n ih =>
    intro σ k0 k1 a2 res hf H locs ls hw hl
    exact wQ_takeAllOf_2b C N σ (fQ_takeAllOf_2 N n) ih k0 k1 a2 res hf H locs ls hw hl
set_option maxHeartbeats 4000000 in
set_option maxRecDepth 100000 in
theorem cQ_takeAllOf (l : Launch) (E : xE) (N : Nat) (σ : xS) (τ : yS) (k0 : Nat) (k1 : Nat) (res : xS) (hf : fQ_takeAllOf N σ k0 k1 = some res) : xM l E yQ_takeAllOf bQ_takeAllOf 3 none 1 0 0 [.ref (E.2.2.1 18 k0), .ref (E.2.2.1 18 k1)] σ τ none res τ := by
  refine x_met (by decide) (Nat.le_of_ble_eq_true rfl) (fun p e R s m args below meth c A ls H locs C hw hl => ?_)
  have hl : lv_has ls 3 [(0, .ref (E.2.2.1 18 k0)), (1, .ref (E.2.2.1 18 k1))] := hl
  have hx := C.1
  have hb := C.2.1
  unfold fQ_takeAllOf at hf
  refine lv_iconst (v := 0) hx hb dQ_takeAllOf_0 (by decide) ?_
  refine lv_istore_n (lv' := [(2, .int 0), (0, .ref (E.2.2.1 18 k0)), (1, .ref (E.2.2.1 18 k1))]) hx hb dQ_takeAllOf_1 rfl hl (by decide) rfl (fun ls hl => ?_)
  exact wQ_takeAllOf_2 C N N σ k0 k1 0 res hf H locs ls hw (lv_sub hl [1, 2, 0] rfl)
-- StandIns tellPrepared ()J
set_option maxRecDepth 100000 in
theorem dA_tellPrepared_0 : decode bA_tellPrepared 0 = .ok (.aload_n 0, 1) := by decide +kernel
set_option maxRecDepth 100000 in
theorem dA_tellPrepared_1 : decode bA_tellPrepared 1 = .ok (.invokevirtual 201, 3) := by decide +kernel
set_option maxRecDepth 100000 in
theorem dA_tellPrepared_4 : decode bA_tellPrepared 4 = .ok (.aload_n 0, 1) := by decide +kernel
set_option maxRecDepth 100000 in
theorem dA_tellPrepared_5 : decode bA_tellPrepared 5 = .ok (.invokevirtual 207, 3) := by decide +kernel
set_option maxRecDepth 100000 in
theorem dA_tellPrepared_8 : decode bA_tellPrepared 8 = .ok (.getfield 211, 3) := by decide +kernel
set_option maxRecDepth 100000 in
theorem dA_tellPrepared_11 : decode bA_tellPrepared 11 = .ok (.aload_n 0, 1) := by decide +kernel
set_option maxRecDepth 100000 in
theorem dA_tellPrepared_12 : decode bA_tellPrepared 12 = .ok (.getfield 36, 3) := by decide +kernel
set_option maxRecDepth 100000 in
theorem dA_tellPrepared_15 : decode bA_tellPrepared 15 = .ok (.invokevirtual 295, 3) := by decide +kernel
set_option maxRecDepth 100000 in
theorem dA_tellPrepared_18 : decode bA_tellPrepared 18 = .ok (.aload_n 0, 1) := by decide +kernel
set_option maxRecDepth 100000 in
theorem dA_tellPrepared_19 : decode bA_tellPrepared 19 = .ok (.iconst 0, 1) := by decide +kernel
set_option maxRecDepth 100000 in
theorem dA_tellPrepared_20 : decode bA_tellPrepared 20 = .ok (.invokevirtual 112, 3) := by decide +kernel
set_option maxRecDepth 100000 in
theorem dA_tellPrepared_23 : decode bA_tellPrepared 23 = .ok (.i2l, 1) := by decide +kernel
set_option maxRecDepth 100000 in
theorem dA_tellPrepared_24 : decode bA_tellPrepared 24 = .ok (.lreturn, 1) := by decide +kernel
def fA_tellPrepared (N : Nat) (σ : xS) : Option (Int64 × xS) :=
  xp (fA_beginTelling σ) fun s2 =>
  xp (fA_latestTelling s2) fun r4 =>
  if r4 < 16 then
  xp (fQ_takeAllOf N s2 r4 16) fun s7 =>
  if r4 < 17 then
  xl (fA_idleWith s7 0) fun s10 =>
  some (s10.1.toInt64, s10.2)
  else none
  else none
set_option maxHeartbeats 4000000 in
set_option maxRecDepth 100000 in
theorem cA_tellPrepared (l : Launch) (E : xE) (N : Nat) (σ : xS) (τ : yS) (res : Int64 × xS) (hf : fA_tellPrepared N σ = some res) : xM l E yA_tellPrepared bA_tellPrepared 1 (some .long) 2 0 0 [.ref (E.2.2.1 0 0)] σ τ (some (.long res.1)) res.2 τ := by
  refine x_met (by decide) (Nat.le_of_ble_eq_true rfl) (fun p e R s m args below meth c A ls H locs C hw hl => ?_)
  have hl : lv_has ls 1 [(0, .ref (E.2.2.1 0 0))] := hl
  have hx := C.1
  have hb := C.2.1
  unfold fA_tellPrepared at hf
  refine lv_aload_n hx hb dA_tellPrepared_0 rfl (lv_at hl 0 rfl) ?_
  obtain ⟨s2, h1, hf⟩ := x_p hf
  refine x_callV (As := []) (rest := []) (st1 := []) C hw (cA_beginTelling l E σ τ s2 h1) kA_201 (x_recv C hw 0 0 at_0 rfl rfl) (by decide) rfl rfl hl.1 (lv_room (Nat.le_of_ble_eq_true rfl)) dA_tellPrepared_1 ⟨by decide, by decide⟩ rfl (fun H locs hw => ?_)
  refine lv_aload_n hx hb dA_tellPrepared_4 rfl (lv_at hl 0 rfl) ?_
  obtain ⟨r4, h3, hf⟩ := x_p hf
  refine x_callV (As := []) (rest := []) (st1 := [.ref (E.2.2.1 16 r4)]) C hw (cA_latestTelling l E s2 τ r4 h3) kA_207 (x_recv C hw 0 0 at_0 rfl rfl) (by decide) rfl rfl hl.1 (lv_room (Nat.le_of_ble_eq_true rfl)) dA_tellPrepared_5 ⟨by decide, by decide⟩ rfl (fun H locs hw => ?_)
  obtain ⟨g5, hf⟩ := x_g hf
  refine x_getN C hw 16 r4 1 (v := .ref (E.2.2.1 18 r4)) (at_16 g5) rfl rfl ⟨by decide, by decide⟩ wA_211 rfl dA_tellPrepared_8 ?_
  refine lv_aload_n hx hb dA_tellPrepared_11 rfl (lv_at hl 0 rfl) ?_
  refine x_get C hw 0 0 5 (v := .ref (E.2.2.1 18 16)) at_0 rfl rfl ⟨by decide, by decide⟩ wA_36 rfl dA_tellPrepared_12 ?_
  obtain ⟨s7, h6, hf⟩ := x_p hf
  obtain ⟨g8, hf⟩ := x_g hf
  refine x_callVN (As := [.ref (E.2.2.1 18 16)]) (rest := []) (st1 := []) C hw (cQ_takeAllOf l E N s2 τ r4 16 s7 h6) kA_295 (x_recv C hw 18 r4 (at_18 g8) rfl rfl) (by decide) rfl rfl hl.1 (lv_room (Nat.le_of_ble_eq_true rfl)) dA_tellPrepared_15 ⟨by decide, by decide⟩ rfl (fun H locs hw => ?_)
  refine lv_aload_n hx hb dA_tellPrepared_18 rfl (lv_at hl 0 rfl) ?_
  refine lv_iconst (v := 0) hx hb dA_tellPrepared_19 (by decide) ?_
  obtain ⟨s10, h9, hf⟩ := x_l hf
  refine x_callV (As := [.int 0]) (rest := []) (st1 := [.int s10.1]) C hw (cA_idleWith l E s7 τ 0 s10 h9.symm) kA_112 (x_recv C hw 0 0 at_0 rfl rfl) (by decide) rfl rfl hl.1 (lv_room (Nat.le_of_ble_eq_true rfl)) dA_tellPrepared_20 ⟨by decide, by decide⟩ rfl (fun H locs hw => ?_)
  refine lv_i2l hx hb dA_tellPrepared_23 rfl ?_
  obtain rfl := Option.some.inj hf
  exact x_lret C hw dA_tellPrepared_24
end
section
-- StandIns$Matcher accepts (LStandIns$Matcher;I)Z
set_option maxRecDepth 100000 in
theorem dH_accepts_0 : decode bH_accepts 0 = .ok (.aload_n 0, 1) := by decide +kernel
set_option maxRecDepth 100000 in
theorem dH_accepts_1 : decode bH_accepts 1 = .ok (.ifnonnull 5, 3) := by decide +kernel
set_option maxRecDepth 100000 in
theorem dH_accepts_4 : decode bH_accepts 4 = .ok (.iconst 1, 1) := by decide +kernel
set_option maxRecDepth 100000 in
theorem dH_accepts_5 : decode bH_accepts 5 = .ok (.ireturn, 1) := by decide +kernel
set_option maxRecDepth 100000 in
theorem dH_accepts_6 : decode bH_accepts 6 = .ok (.aload_n 0, 1) := by decide +kernel
set_option maxRecDepth 100000 in
theorem dH_accepts_7 : decode bH_accepts 7 = .ok (.getfield 9, 3) := by decide +kernel
set_option maxRecDepth 100000 in
theorem dH_accepts_10 : decode bH_accepts 10 = .ok (.tableswitch 153 1 6 #[38, 52, 66, 80, 108, 136], 38) := by decide +kernel
set_option maxRecDepth 100000 in
theorem dH_accepts_48 : decode bH_accepts 48 = .ok (.iload_n 1, 1) := by decide +kernel
set_option maxRecDepth 100000 in
theorem dH_accepts_49 : decode bH_accepts 49 = .ok (.aload_n 0, 1) := by decide +kernel
set_option maxRecDepth 100000 in
theorem dH_accepts_50 : decode bH_accepts 50 = .ok (.getfield 15, 3) := by decide +kernel
set_option maxRecDepth 100000 in
theorem dH_accepts_53 : decode bH_accepts 53 = .ok (.if_icmp .ne 7, 3) := by decide +kernel
set_option maxRecDepth 100000 in
theorem dH_accepts_56 : decode bH_accepts 56 = .ok (.iconst 1, 1) := by decide +kernel
set_option maxRecDepth 100000 in
theorem dH_accepts_57 : decode bH_accepts 57 = .ok (.goto 4, 3) := by decide +kernel
set_option maxRecDepth 100000 in
theorem dH_accepts_60 : decode bH_accepts 60 = .ok (.iconst 0, 1) := by decide +kernel
set_option maxRecDepth 100000 in
theorem dH_accepts_61 : decode bH_accepts 61 = .ok (.ireturn, 1) := by decide +kernel
set_option maxRecDepth 100000 in
theorem dH_accepts_62 : decode bH_accepts 62 = .ok (.iload_n 1, 1) := by decide +kernel
set_option maxRecDepth 100000 in
theorem dH_accepts_63 : decode bH_accepts 63 = .ok (.aload_n 0, 1) := by decide +kernel
set_option maxRecDepth 100000 in
theorem dH_accepts_64 : decode bH_accepts 64 = .ok (.getfield 15, 3) := by decide +kernel
set_option maxRecDepth 100000 in
theorem dH_accepts_67 : decode bH_accepts 67 = .ok (.if_icmp .ge 7, 3) := by decide +kernel
set_option maxRecDepth 100000 in
theorem dH_accepts_70 : decode bH_accepts 70 = .ok (.iconst 1, 1) := by decide +kernel
set_option maxRecDepth 100000 in
theorem dH_accepts_71 : decode bH_accepts 71 = .ok (.goto 4, 3) := by decide +kernel
set_option maxRecDepth 100000 in
theorem dH_accepts_74 : decode bH_accepts 74 = .ok (.iconst 0, 1) := by decide +kernel
set_option maxRecDepth 100000 in
theorem dH_accepts_75 : decode bH_accepts 75 = .ok (.ireturn, 1) := by decide +kernel
set_option maxRecDepth 100000 in
theorem dH_accepts_76 : decode bH_accepts 76 = .ok (.iload_n 1, 1) := by decide +kernel
set_option maxRecDepth 100000 in
theorem dH_accepts_77 : decode bH_accepts 77 = .ok (.aload_n 0, 1) := by decide +kernel
set_option maxRecDepth 100000 in
theorem dH_accepts_78 : decode bH_accepts 78 = .ok (.getfield 15, 3) := by decide +kernel
set_option maxRecDepth 100000 in
theorem dH_accepts_81 : decode bH_accepts 81 = .ok (.if_icmp .le 7, 3) := by decide +kernel
set_option maxRecDepth 100000 in
theorem dH_accepts_84 : decode bH_accepts 84 = .ok (.iconst 1, 1) := by decide +kernel
set_option maxRecDepth 100000 in
theorem dH_accepts_85 : decode bH_accepts 85 = .ok (.goto 4, 3) := by decide +kernel
set_option maxRecDepth 100000 in
theorem dH_accepts_88 : decode bH_accepts 88 = .ok (.iconst 0, 1) := by decide +kernel
set_option maxRecDepth 100000 in
theorem dH_accepts_89 : decode bH_accepts 89 = .ok (.ireturn, 1) := by decide +kernel
set_option maxRecDepth 100000 in
theorem dH_accepts_90 : decode bH_accepts 90 = .ok (.aload_n 0, 1) := by decide +kernel
set_option maxRecDepth 100000 in
theorem dH_accepts_91 : decode bH_accepts 91 = .ok (.getfield 18, 3) := by decide +kernel
set_option maxRecDepth 100000 in
theorem dH_accepts_94 : decode bH_accepts 94 = .ok (.iload_n 1, 1) := by decide +kernel
set_option maxRecDepth 100000 in
theorem dH_accepts_95 : decode bH_accepts 95 = .ok (.invokestatic 32, 3) := by decide +kernel
set_option maxRecDepth 100000 in
theorem dH_accepts_98 : decode bH_accepts 98 = .ok (.ifCond .eq 18, 3) := by decide +kernel
set_option maxRecDepth 100000 in
theorem dH_accepts_101 : decode bH_accepts 101 = .ok (.aload_n 0, 1) := by decide +kernel
set_option maxRecDepth 100000 in
theorem dH_accepts_102 : decode bH_accepts 102 = .ok (.getfield 22, 3) := by decide +kernel
set_option maxRecDepth 100000 in
theorem dH_accepts_105 : decode bH_accepts 105 = .ok (.iload_n 1, 1) := by decide +kernel
set_option maxRecDepth 100000 in
theorem dH_accepts_106 : decode bH_accepts 106 = .ok (.invokestatic 32, 3) := by decide +kernel
set_option maxRecDepth 100000 in
theorem dH_accepts_109 : decode bH_accepts 109 = .ok (.ifCond .eq 7, 3) := by decide +kernel
set_option maxRecDepth 100000 in
theorem dH_accepts_112 : decode bH_accepts 112 = .ok (.iconst 1, 1) := by decide +kernel
set_option maxRecDepth 100000 in
theorem dH_accepts_113 : decode bH_accepts 113 = .ok (.goto 4, 3) := by decide +kernel
set_option maxRecDepth 100000 in
theorem dH_accepts_116 : decode bH_accepts 116 = .ok (.iconst 0, 1) := by decide +kernel
set_option maxRecDepth 100000 in
theorem dH_accepts_117 : decode bH_accepts 117 = .ok (.ireturn, 1) := by decide +kernel
set_option maxRecDepth 100000 in
theorem dH_accepts_118 : decode bH_accepts 118 = .ok (.aload_n 0, 1) := by decide +kernel
set_option maxRecDepth 100000 in
theorem dH_accepts_119 : decode bH_accepts 119 = .ok (.getfield 18, 3) := by decide +kernel
set_option maxRecDepth 100000 in
theorem dH_accepts_122 : decode bH_accepts 122 = .ok (.iload_n 1, 1) := by decide +kernel
set_option maxRecDepth 100000 in
theorem dH_accepts_123 : decode bH_accepts 123 = .ok (.invokestatic 32, 3) := by decide +kernel
set_option maxRecDepth 100000 in
theorem dH_accepts_126 : decode bH_accepts 126 = .ok (.ifCond .ne 14, 3) := by decide +kernel
set_option maxRecDepth 100000 in
theorem dH_accepts_129 : decode bH_accepts 129 = .ok (.aload_n 0, 1) := by decide +kernel
set_option maxRecDepth 100000 in
theorem dH_accepts_130 : decode bH_accepts 130 = .ok (.getfield 22, 3) := by decide +kernel
set_option maxRecDepth 100000 in
theorem dH_accepts_133 : decode bH_accepts 133 = .ok (.iload_n 1, 1) := by decide +kernel
set_option maxRecDepth 100000 in
theorem dH_accepts_134 : decode bH_accepts 134 = .ok (.invokestatic 32, 3) := by decide +kernel
set_option maxRecDepth 100000 in
theorem dH_accepts_137 : decode bH_accepts 137 = .ok (.ifCond .eq 7, 3) := by decide +kernel
set_option maxRecDepth 100000 in
theorem dH_accepts_140 : decode bH_accepts 140 = .ok (.iconst 1, 1) := by decide +kernel
set_option maxRecDepth 100000 in
theorem dH_accepts_141 : decode bH_accepts 141 = .ok (.goto 4, 3) := by decide +kernel
set_option maxRecDepth 100000 in
theorem dH_accepts_144 : decode bH_accepts 144 = .ok (.iconst 0, 1) := by decide +kernel
set_option maxRecDepth 100000 in
theorem dH_accepts_145 : decode bH_accepts 145 = .ok (.ireturn, 1) := by decide +kernel
set_option maxRecDepth 100000 in
theorem dH_accepts_146 : decode bH_accepts 146 = .ok (.aload_n 0, 1) := by decide +kernel
set_option maxRecDepth 100000 in
theorem dH_accepts_147 : decode bH_accepts 147 = .ok (.getfield 18, 3) := by decide +kernel
set_option maxRecDepth 100000 in
theorem dH_accepts_150 : decode bH_accepts 150 = .ok (.iload_n 1, 1) := by decide +kernel
set_option maxRecDepth 100000 in
theorem dH_accepts_151 : decode bH_accepts 151 = .ok (.invokestatic 32, 3) := by decide +kernel
set_option maxRecDepth 100000 in
theorem dH_accepts_154 : decode bH_accepts 154 = .ok (.ifCond .ne 7, 3) := by decide +kernel
set_option maxRecDepth 100000 in
theorem dH_accepts_157 : decode bH_accepts 157 = .ok (.iconst 1, 1) := by decide +kernel
set_option maxRecDepth 100000 in
theorem dH_accepts_158 : decode bH_accepts 158 = .ok (.goto 4, 3) := by decide +kernel
set_option maxRecDepth 100000 in
theorem dH_accepts_161 : decode bH_accepts 161 = .ok (.iconst 0, 1) := by decide +kernel
set_option maxRecDepth 100000 in
theorem dH_accepts_162 : decode bH_accepts 162 = .ok (.ireturn, 1) := by decide +kernel
set_option maxRecDepth 100000 in
theorem dH_accepts_163 : decode bH_accepts 163 = .ok (.iconst 1, 1) := by decide +kernel
set_option maxRecDepth 100000 in
theorem dH_accepts_164 : decode bH_accepts 164 = .ok (.ireturn, 1) := by decide +kernel
def fH_accepts_140 (self : xS → Option Nat → Int32 → Option (Int32)) (σ : xS) : Option (Int32) :=
  some 1
def fH_accepts_b (self : xS → Option Nat → Int32 → Option (Int32)) (σ : xS) (o0 : Option Nat) (a1 : Int32) : Option (Int32) :=
  if o0 = none then
  (some 1)
  else
  (xp (xd σ.2.2.1 o0) fun q2 =>
  if (σ.1 21 q2 0) = 1 then
  (if a1 = (σ.1 21 q2 1) then
  (some 1)
  else
  (some 0))
  else
  (if (σ.1 21 q2 0) = 2 then
  (if (σ.1 21 q2 1) ≤ a1 then
  (some 0)
  else
  (some 1))
  else
  (if (σ.1 21 q2 0) = 3 then
  (if a1 ≤ (σ.1 21 q2 1) then
  (some 0)
  else
  (some 1))
  else
  (if (σ.1 21 q2 0) = 4 then
  (xp (self σ (σ.2.1 21 q2 2) a1) fun r11 =>
  if r11 = 0 then
  (some 0)
  else
  (xp (self σ (σ.2.1 21 q2 3) a1) fun r14 =>
  if r14 = 0 then
  (some 0)
  else
  (some 1)))
  else
  (if (σ.1 21 q2 0) = 5 then
  (xp (self σ (σ.2.1 21 q2 2) a1) fun r18 =>
  if r18 = 0 then
  (xp (self σ (σ.2.1 21 q2 3) a1) fun r21 =>
  if r21 = 0 then
  (some 0)
  else
  (fH_accepts_140 self σ))
  else
  (fH_accepts_140 self σ))
  else
  (if (σ.1 21 q2 0) = 6 then
  (xp (self σ (σ.2.1 21 q2 2) a1) fun r25 =>
  if r25 = 0 then
  (some 1)
  else
  (some 0))
  else
  (some 1)))))))
def fH_accepts : Nat → xS → Option Nat → Int32 → Option (Int32)
  | 0, _, _, _ => none
  | n + 1, σ, o0, a1 => fH_accepts_b (fH_accepts n) σ o0 a1
set_option maxHeartbeats 4000000 in
set_option maxRecDepth 100000 in
theorem wH_accepts_140 {p : Program} {l : Launch} {e : Env} {R : Room} {s : State} {m : MethodId} {args : Array Value} {below : List Frame} {meth : Method} {c : Code} {E : xE} {A : Nat → Prop} {τ : yS} {n0 : Nat} (C : xC p s m args meth c R E A bH_accepts 2 yH_accepts (some .boolean) (n0 + 1) 0 0) (self : xS → Option Nat → Int32 → Option (Int32)) (hself : ∀ (σ : xS) (τ : yS) (o0 : Option Nat) (a1 : Int32) (res : Int32), self σ o0 a1 = some res → xM l E yH_accepts bH_accepts 2 (some .boolean) n0 0 0 [va_rf o0, .int a1] σ τ (some (.int res)) σ τ) (σ : xS) (res : Int32) (hf : fH_accepts_140 self σ = some res) (H : Heap) (locs : List Loc) (ls : Array Slot) (hw : xW E A s σ τ H locs) (hl : lv_has ls 2 []) : W p l e R s m args below meth c H locs 0 0 (MQ below (xQ E A (some (.int res)) σ τ) args s 0 0 A) (F0 m 140 ls []) := by
  have hx := C.1
  have hb := C.2.1
  unfold fH_accepts_140 at hf
  refine lv_iconst (v := 1) hx hb dH_accepts_140 (by decide) ?_
  refine lv_goto (tgt := 145) hx hb dH_accepts_141 (by decide) ?_
  obtain rfl := Option.some.inj hf
  exact x_zret C hw rfl dH_accepts_145
set_option maxHeartbeats 4000000 in
set_option maxRecDepth 100000 in
theorem cH_accepts (l : Launch) (E : xE) (n0 : Nat) : ∀ (σ : xS) (τ : yS) (o0 : Option Nat) (a1 : Int32) (res : Int32), fH_accepts n0 σ o0 a1 = some res → xM l E yH_accepts bH_accepts 2 (some .boolean) n0 0 0 [va_rf o0, .int a1] σ τ (some (.int res)) σ τ := by
  induction n0 with
  | zero => intro σ τ o0 a1 res hf; cases hf
  | succ n0 hself =>
  intro σ τ o0 a1 res hf
  refine x_met (by decide) (by simp [lg_sl, x_cat, x_cati, x_catr, x_catl]) (fun p e R s m args below meth c A ls H locs C hw hl => ?_)
  have hl : lv_has ls 2 [(0, va_rf o0), (1, .int a1)] := by simpa [lv_args, x_cat, x_cati, x_catr, x_catl] using hl
  have hx := C.1
  have hb := C.2.1
  obtain ⟨self, eself⟩ : ∃ z, z = fH_accepts n0 := ⟨_, rfl⟩
  rw [← eself] at hself
  have hf : fH_accepts_b self σ o0 a1 = some res := by rw [eself]; exact hf
  unfold fH_accepts_b at hf
  refine x_aload_n hx hb dH_accepts_0 rfl (lv_at hl 0 rfl) ?_
  refine x_ifnonnull (tgt := 6) hx hb dH_accepts_1 (by decide) (fun c1 => ?_) (fun c1 => ?_)
  · replace hf := x_ip c1 hf
    refine lv_iconst (v := 1) hx hb dH_accepts_4 (by decide) ?_
    obtain rfl := Option.some.inj hf
    exact x_zret C hw rfl dH_accepts_5
  · replace hf := x_in c1 hf
    refine x_aload_n hx hb dH_accepts_6 rfl (lv_at hl 0 rfl) ?_
    obtain ⟨q2, eq2, hf⟩ := x_p hf
    refine x_getM C hw eq2 0 (v := .int (σ.1 21 q2 0)) (by decide) wH_9 rfl dH_accepts_7 ?_
    by_cases c3 : (σ.1 21 q2 0) = 1
    · replace hf := x_ip c3 hf
      refine lv_tableIn (tgt := 48) hx hb dH_accepts_10 (by rw [c3]; decide) (by rw [c3]; decide) (by rw [c3]; rfl) (by decide) ?_
      refine lv_iload_n hx hb dH_accepts_48 rfl (lv_at hl 1 rfl) ?_
      refine x_aload_n hx hb dH_accepts_49 rfl (lv_at hl 0 rfl) ?_
      refine x_getM C hw eq2 1 (v := .int (σ.1 21 q2 1)) (by decide) wH_15 rfl dH_accepts_50 ?_
      refine lv_icmp_ne (tgt := 60) hx hb dH_accepts_53 (by decide) (fun c4 => ?_) (fun c4 => ?_)
      · replace hf := x_in c4 hf
        refine lv_iconst (v := 0) hx hb dH_accepts_60 (by decide) ?_
        obtain rfl := Option.some.inj hf
        exact x_zret C hw rfl dH_accepts_61
      · replace hf := x_ip c4 hf
        refine lv_iconst (v := 1) hx hb dH_accepts_56 (by decide) ?_
        refine lv_goto (tgt := 61) hx hb dH_accepts_57 (by decide) ?_
        obtain rfl := Option.some.inj hf
        exact x_zret C hw rfl dH_accepts_61
    · replace hf := x_in c3 hf
      by_cases c5 : (σ.1 21 q2 0) = 2
      · replace hf := x_ip c5 hf
        refine lv_tableIn (tgt := 62) hx hb dH_accepts_10 (by rw [c5]; decide) (by rw [c5]; decide) (by rw [c5]; rfl) (by decide) ?_
        refine lv_iload_n hx hb dH_accepts_62 rfl (lv_at hl 1 rfl) ?_
        refine x_aload_n hx hb dH_accepts_63 rfl (lv_at hl 0 rfl) ?_
        refine x_getM C hw eq2 1 (v := .int (σ.1 21 q2 1)) (by decide) wH_15 rfl dH_accepts_64 ?_
        refine lv_icmp_ge (tgt := 74) hx hb dH_accepts_67 (by decide) (fun c6 => ?_) (fun c6 => ?_)
        · replace hf := x_ip c6 hf
          refine lv_iconst (v := 0) hx hb dH_accepts_74 (by decide) ?_
          obtain rfl := Option.some.inj hf
          exact x_zret C hw rfl dH_accepts_75
        · replace hf := x_in c6 hf
          refine lv_iconst (v := 1) hx hb dH_accepts_70 (by decide) ?_
          refine lv_goto (tgt := 75) hx hb dH_accepts_71 (by decide) ?_
          obtain rfl := Option.some.inj hf
          exact x_zret C hw rfl dH_accepts_75
      · replace hf := x_in c5 hf
        by_cases c7 : (σ.1 21 q2 0) = 3
        · replace hf := x_ip c7 hf
          refine lv_tableIn (tgt := 76) hx hb dH_accepts_10 (by rw [c7]; decide) (by rw [c7]; decide) (by rw [c7]; rfl) (by decide) ?_
          refine lv_iload_n hx hb dH_accepts_76 rfl (lv_at hl 1 rfl) ?_
          refine x_aload_n hx hb dH_accepts_77 rfl (lv_at hl 0 rfl) ?_
          refine x_getM C hw eq2 1 (v := .int (σ.1 21 q2 1)) (by decide) wH_15 rfl dH_accepts_78 ?_
          refine lv_icmp_le (tgt := 88) hx hb dH_accepts_81 (by decide) (fun c8 => ?_) (fun c8 => ?_)
          · replace hf := x_ip c8 hf
            refine lv_iconst (v := 0) hx hb dH_accepts_88 (by decide) ?_
            obtain rfl := Option.some.inj hf
            exact x_zret C hw rfl dH_accepts_89
          · replace hf := x_in c8 hf
            refine lv_iconst (v := 1) hx hb dH_accepts_84 (by decide) ?_
            refine lv_goto (tgt := 89) hx hb dH_accepts_85 (by decide) ?_
            obtain rfl := Option.some.inj hf
            exact x_zret C hw rfl dH_accepts_89
        · replace hf := x_in c7 hf
          by_cases c9 : (σ.1 21 q2 0) = 4
          · replace hf := x_ip c9 hf
            refine lv_tableIn (tgt := 90) hx hb dH_accepts_10 (by rw [c9]; decide) (by rw [c9]; decide) (by rw [c9]; rfl) (by decide) ?_
            refine x_aload_n hx hb dH_accepts_90 rfl (lv_at hl 0 rfl) ?_
            refine x_getM C hw eq2 2 (v := va_rf (σ.2.1 21 q2 2)) (by decide) wH_18 rfl dH_accepts_91 ?_
            refine lv_iload_n hx hb dH_accepts_94 rfl (lv_at hl 1 rfl) ?_
            obtain ⟨r11, h10, hf⟩ := x_p hf
            refine x_callS (As := [va_rf (σ.2.1 21 q2 2), .int a1]) (rest := []) (st1 := [.int r11]) C hw (hself σ τ (σ.2.1 21 q2 2) a1 r11 h10) kH_32 (Nat.le_refl _) rfl rfl hl.1 (lv_room (Nat.le_of_ble_eq_true rfl)) dH_accepts_95 ⟨by decide, by decide⟩ rfl (fun H locs hw => ?_)
            refine lv_if_eq (tgt := 116) hx hb dH_accepts_98 (by decide) (fun c12 => ?_) (fun c12 => ?_)
            · replace hf := x_ip c12 hf
              refine lv_iconst (v := 0) hx hb dH_accepts_116 (by decide) ?_
              obtain rfl := Option.some.inj hf
              exact x_zret C hw rfl dH_accepts_117
            · replace hf := x_in c12 hf
              refine x_aload_n hx hb dH_accepts_101 rfl (lv_at hl 0 rfl) ?_
              refine x_getM C hw eq2 3 (v := va_rf (σ.2.1 21 q2 3)) (by decide) wH_22 rfl dH_accepts_102 ?_
              refine lv_iload_n hx hb dH_accepts_105 rfl (lv_at hl 1 rfl) ?_
              obtain ⟨r14, h13, hf⟩ := x_p hf
              refine x_callS (As := [va_rf (σ.2.1 21 q2 3), .int a1]) (rest := []) (st1 := [.int r14]) C hw (hself σ τ (σ.2.1 21 q2 3) a1 r14 h13) kH_32 (Nat.le_refl _) rfl rfl hl.1 (lv_room (Nat.le_of_ble_eq_true rfl)) dH_accepts_106 ⟨by decide, by decide⟩ rfl (fun H locs hw => ?_)
              refine lv_if_eq (tgt := 116) hx hb dH_accepts_109 (by decide) (fun c15 => ?_) (fun c15 => ?_)
              · replace hf := x_ip c15 hf
                refine lv_iconst (v := 0) hx hb dH_accepts_116 (by decide) ?_
                obtain rfl := Option.some.inj hf
                exact x_zret C hw rfl dH_accepts_117
              · replace hf := x_in c15 hf
                refine lv_iconst (v := 1) hx hb dH_accepts_112 (by decide) ?_
                refine lv_goto (tgt := 117) hx hb dH_accepts_113 (by decide) ?_
                obtain rfl := Option.some.inj hf
                exact x_zret C hw rfl dH_accepts_117
          · replace hf := x_in c9 hf
            by_cases c16 : (σ.1 21 q2 0) = 5
            · replace hf := x_ip c16 hf
              refine lv_tableIn (tgt := 118) hx hb dH_accepts_10 (by rw [c16]; decide) (by rw [c16]; decide) (by rw [c16]; rfl) (by decide) ?_
              refine x_aload_n hx hb dH_accepts_118 rfl (lv_at hl 0 rfl) ?_
              refine x_getM C hw eq2 2 (v := va_rf (σ.2.1 21 q2 2)) (by decide) wH_18 rfl dH_accepts_119 ?_
              refine lv_iload_n hx hb dH_accepts_122 rfl (lv_at hl 1 rfl) ?_
              obtain ⟨r18, h17, hf⟩ := x_p hf
              refine x_callS (As := [va_rf (σ.2.1 21 q2 2), .int a1]) (rest := []) (st1 := [.int r18]) C hw (hself σ τ (σ.2.1 21 q2 2) a1 r18 h17) kH_32 (Nat.le_refl _) rfl rfl hl.1 (lv_room (Nat.le_of_ble_eq_true rfl)) dH_accepts_123 ⟨by decide, by decide⟩ rfl (fun H locs hw => ?_)
              refine lv_if_ne (tgt := 140) hx hb dH_accepts_126 (by decide) (fun c19 => ?_) (fun c19 => ?_)
              · replace hf := x_in c19 hf
                exact wH_accepts_140 C self hself σ res hf H locs ls hw (lv_sub hl [] rfl)
              · replace hf := x_ip c19 hf
                refine x_aload_n hx hb dH_accepts_129 rfl (lv_at hl 0 rfl) ?_
                refine x_getM C hw eq2 3 (v := va_rf (σ.2.1 21 q2 3)) (by decide) wH_22 rfl dH_accepts_130 ?_
                refine lv_iload_n hx hb dH_accepts_133 rfl (lv_at hl 1 rfl) ?_
                obtain ⟨r21, h20, hf⟩ := x_p hf
                refine x_callS (As := [va_rf (σ.2.1 21 q2 3), .int a1]) (rest := []) (st1 := [.int r21]) C hw (hself σ τ (σ.2.1 21 q2 3) a1 r21 h20) kH_32 (Nat.le_refl _) rfl rfl hl.1 (lv_room (Nat.le_of_ble_eq_true rfl)) dH_accepts_134 ⟨by decide, by decide⟩ rfl (fun H locs hw => ?_)
                refine lv_if_eq (tgt := 144) hx hb dH_accepts_137 (by decide) (fun c22 => ?_) (fun c22 => ?_)
                · replace hf := x_ip c22 hf
                  refine lv_iconst (v := 0) hx hb dH_accepts_144 (by decide) ?_
                  obtain rfl := Option.some.inj hf
                  exact x_zret C hw rfl dH_accepts_145
                · replace hf := x_in c22 hf
                  exact wH_accepts_140 C self hself σ res hf H locs ls hw (lv_sub hl [] rfl)
            · replace hf := x_in c16 hf
              by_cases c23 : (σ.1 21 q2 0) = 6
              · replace hf := x_ip c23 hf
                refine lv_tableIn (tgt := 146) hx hb dH_accepts_10 (by rw [c23]; decide) (by rw [c23]; decide) (by rw [c23]; rfl) (by decide) ?_
                refine x_aload_n hx hb dH_accepts_146 rfl (lv_at hl 0 rfl) ?_
                refine x_getM C hw eq2 2 (v := va_rf (σ.2.1 21 q2 2)) (by decide) wH_18 rfl dH_accepts_147 ?_
                refine lv_iload_n hx hb dH_accepts_150 rfl (lv_at hl 1 rfl) ?_
                obtain ⟨r25, h24, hf⟩ := x_p hf
                refine x_callS (As := [va_rf (σ.2.1 21 q2 2), .int a1]) (rest := []) (st1 := [.int r25]) C hw (hself σ τ (σ.2.1 21 q2 2) a1 r25 h24) kH_32 (Nat.le_refl _) rfl rfl hl.1 (lv_room (Nat.le_of_ble_eq_true rfl)) dH_accepts_151 ⟨by decide, by decide⟩ rfl (fun H locs hw => ?_)
                refine lv_if_ne (tgt := 161) hx hb dH_accepts_154 (by decide) (fun c26 => ?_) (fun c26 => ?_)
                · replace hf := x_in c26 hf
                  refine lv_iconst (v := 0) hx hb dH_accepts_161 (by decide) ?_
                  obtain rfl := Option.some.inj hf
                  exact x_zret C hw rfl dH_accepts_162
                · replace hf := x_ip c26 hf
                  refine lv_iconst (v := 1) hx hb dH_accepts_157 (by decide) ?_
                  refine lv_goto (tgt := 162) hx hb dH_accepts_158 (by decide) ?_
                  obtain rfl := Option.some.inj hf
                  exact x_zret C hw rfl dH_accepts_162
              · replace hf := x_in c23 hf
                refine lv_tableOut (tgt := 163) hx hb dH_accepts_10 (by have nc3 := lv_neT c3 (a := 1) (by decide); have nc5 := lv_neT c5 (a := 2) (by decide); have nc7 := lv_neT c7 (a := 3) (by decide); have nc9 := lv_neT c9 (a := 4) (by decide); have nc16 := lv_neT c16 (a := 5) (by decide); have nc23 := lv_neT c23 (a := 6) (by decide); omega) (by decide) ?_
                refine lv_iconst (v := 1) hx hb dH_accepts_163 (by decide) ?_
                obtain rfl := Option.some.inj hf
                exact x_zret C hw rfl dH_accepts_164
-- StandIns$Pattern matches (LStandIns$Note;)Z
set_option maxRecDepth 100000 in
theorem dP_matches_0 : decode bP_matches 0 = .ok (.aload_n 1, 1) := by decide +kernel
set_option maxRecDepth 100000 in
theorem dP_matches_1 : decode bP_matches 1 = .ok (.getfield 25, 3) := by decide +kernel
set_option maxRecDepth 100000 in
theorem dP_matches_4 : decode bP_matches 4 = .ok (.aload_n 0, 1) := by decide +kernel
set_option maxRecDepth 100000 in
theorem dP_matches_5 : decode bP_matches 5 = .ok (.getfield 9, 3) := by decide +kernel
set_option maxRecDepth 100000 in
theorem dP_matches_8 : decode bP_matches 8 = .ok (.if_icmp .ne 46, 3) := by decide +kernel
set_option maxRecDepth 100000 in
theorem dP_matches_11 : decode bP_matches 11 = .ok (.aload_n 1, 1) := by decide +kernel
set_option maxRecDepth 100000 in
theorem dP_matches_12 : decode bP_matches 12 = .ok (.getfield 28, 3) := by decide +kernel
set_option maxRecDepth 100000 in
theorem dP_matches_15 : decode bP_matches 15 = .ok (.aload_n 0, 1) := by decide +kernel
set_option maxRecDepth 100000 in
theorem dP_matches_16 : decode bP_matches 16 = .ok (.getfield 15, 3) := by decide +kernel
set_option maxRecDepth 100000 in
theorem dP_matches_19 : decode bP_matches 19 = .ok (.if_icmp .ne 35, 3) := by decide +kernel
set_option maxRecDepth 100000 in
theorem dP_matches_22 : decode bP_matches 22 = .ok (.aload_n 0, 1) := by decide +kernel
set_option maxRecDepth 100000 in
theorem dP_matches_23 : decode bP_matches 23 = .ok (.getfield 18, 3) := by decide +kernel
set_option maxRecDepth 100000 in
theorem dP_matches_26 : decode bP_matches 26 = .ok (.aload_n 1, 1) := by decide +kernel
set_option maxRecDepth 100000 in
theorem dP_matches_27 : decode bP_matches 27 = .ok (.getfield 29, 3) := by decide +kernel
set_option maxRecDepth 100000 in
theorem dP_matches_30 : decode bP_matches 30 = .ok (.invokestatic 32, 3) := by decide +kernel
set_option maxRecDepth 100000 in
theorem dP_matches_33 : decode bP_matches 33 = .ok (.ifCond .eq 21, 3) := by decide +kernel
set_option maxRecDepth 100000 in
theorem dP_matches_36 : decode bP_matches 36 = .ok (.aload_n 0, 1) := by decide +kernel
set_option maxRecDepth 100000 in
theorem dP_matches_37 : decode bP_matches 37 = .ok (.getfield 22, 3) := by decide +kernel
set_option maxRecDepth 100000 in
theorem dP_matches_40 : decode bP_matches 40 = .ok (.aload_n 1, 1) := by decide +kernel
set_option maxRecDepth 100000 in
theorem dP_matches_41 : decode bP_matches 41 = .ok (.getfield 38, 3) := by decide +kernel
set_option maxRecDepth 100000 in
theorem dP_matches_44 : decode bP_matches 44 = .ok (.invokestatic 32, 3) := by decide +kernel
set_option maxRecDepth 100000 in
theorem dP_matches_47 : decode bP_matches 47 = .ok (.ifCond .eq 7, 3) := by decide +kernel
set_option maxRecDepth 100000 in
theorem dP_matches_50 : decode bP_matches 50 = .ok (.iconst 1, 1) := by decide +kernel
set_option maxRecDepth 100000 in
theorem dP_matches_51 : decode bP_matches 51 = .ok (.goto 4, 3) := by decide +kernel
set_option maxRecDepth 100000 in
theorem dP_matches_54 : decode bP_matches 54 = .ok (.iconst 0, 1) := by decide +kernel
set_option maxRecDepth 100000 in
theorem dP_matches_55 : decode bP_matches 55 = .ok (.ireturn, 1) := by decide +kernel
def fP_matches (σ : xS) (k0 : Nat) (k1 : Nat) : Option (Int32) :=
  if k1 < 40 then
  if k0 < 17 then
  if (σ.1 15 k1 1) = (σ.1 17 k0 0) then
  (if (σ.1 15 k1 2) = (σ.1 17 k0 1) then
  (xp (fH_accepts 9 σ (σ.2.1 17 k0 2) (σ.1 15 k1 3)) fun r6 =>
  if r6 = 0 then
  (some 0)
  else
  (xp (fH_accepts 9 σ (σ.2.1 17 k0 3) (σ.1 15 k1 4)) fun r9 =>
  if r9 = 0 then
  (some 0)
  else
  (some 1)))
  else
  (some 0))
  else
  (some 0)
  else none
  else none
set_option maxHeartbeats 4000000 in
set_option maxRecDepth 100000 in
theorem cP_matches (l : Launch) (E : xE) (σ : xS) (τ : yS) (k0 : Nat) (k1 : Nat) (res : Int32) (hf : fP_matches σ k0 k1 = some res) : xM l E yP_matches bP_matches 2 (some .boolean) 10 0 0 [.ref (E.2.2.1 17 k0), .ref (E.2.2.1 15 k1)] σ τ (some (.int res)) σ τ := by
  refine x_met (by decide) (Nat.le_of_ble_eq_true rfl) (fun p e R s m args below meth c A ls H locs C hw hl => ?_)
  have hl : lv_has ls 2 [(0, .ref (E.2.2.1 17 k0)), (1, .ref (E.2.2.1 15 k1))] := hl
  have hx := C.1
  have hb := C.2.1
  unfold fP_matches at hf
  refine lv_aload_n hx hb dP_matches_0 rfl (lv_at hl 1 rfl) ?_
  obtain ⟨g1, hf⟩ := x_g hf
  refine x_getN C hw 15 k1 1 (v := .int (σ.1 15 k1 1)) (at_15 g1) rfl rfl ⟨by decide, by decide⟩ wP_25 rfl dP_matches_1 ?_
  refine lv_aload_n hx hb dP_matches_4 rfl (lv_at hl 0 rfl) ?_
  obtain ⟨g2, hf⟩ := x_g hf
  refine x_get C hw 17 k0 0 (v := .int (σ.1 17 k0 0)) (at_17 g2) rfl rfl ⟨by decide, by decide⟩ wP_9 rfl dP_matches_5 ?_
  refine lv_icmp_ne (tgt := 54) hx hb dP_matches_8 (by decide) (fun c3 => ?_) (fun c3 => ?_)
  · replace hf := x_in c3 hf
    refine lv_iconst (v := 0) hx hb dP_matches_54 (by decide) ?_
    obtain rfl := Option.some.inj hf
    exact x_zret C hw rfl dP_matches_55
  · replace hf := x_ip c3 hf
    refine lv_aload_n hx hb dP_matches_11 rfl (lv_at hl 1 rfl) ?_
    refine x_getN C hw 15 k1 2 (v := .int (σ.1 15 k1 2)) (at_15 g1) rfl rfl ⟨by decide, by decide⟩ wP_28 rfl dP_matches_12 ?_
    refine lv_aload_n hx hb dP_matches_15 rfl (lv_at hl 0 rfl) ?_
    refine x_get C hw 17 k0 1 (v := .int (σ.1 17 k0 1)) (at_17 g2) rfl rfl ⟨by decide, by decide⟩ wP_15 rfl dP_matches_16 ?_
    refine lv_icmp_ne (tgt := 54) hx hb dP_matches_19 (by decide) (fun c4 => ?_) (fun c4 => ?_)
    · replace hf := x_in c4 hf
      refine lv_iconst (v := 0) hx hb dP_matches_54 (by decide) ?_
      obtain rfl := Option.some.inj hf
      exact x_zret C hw rfl dP_matches_55
    · replace hf := x_ip c4 hf
      refine lv_aload_n hx hb dP_matches_22 rfl (lv_at hl 0 rfl) ?_
      refine x_get C hw 17 k0 2 (v := va_rf (σ.2.1 17 k0 2)) (at_17 g2) rfl rfl ⟨by decide, by decide⟩ wP_18 rfl dP_matches_23 ?_
      refine lv_aload_n hx hb dP_matches_26 rfl (lv_at hl 1 rfl) ?_
      refine x_getN C hw 15 k1 3 (v := .int (σ.1 15 k1 3)) (at_15 g1) rfl rfl ⟨by decide, by decide⟩ wP_29 rfl dP_matches_27 ?_
      obtain ⟨r6, h5, hf⟩ := x_p hf
      refine x_callSN (As := [va_rf (σ.2.1 17 k0 2), .int (σ.1 15 k1 3)]) (rest := []) (st1 := [.int r6]) C hw (cH_accepts l E 9 σ τ (σ.2.1 17 k0 2) (σ.1 15 k1 3) r6 h5) kP_32 (by decide) rfl rfl hl.1 (lv_room (Nat.le_of_ble_eq_true rfl)) dP_matches_30 ⟨by decide, by decide⟩ rfl (fun H locs hw => ?_)
      refine lv_if_eq (tgt := 54) hx hb dP_matches_33 (by decide) (fun c7 => ?_) (fun c7 => ?_)
      · replace hf := x_ip c7 hf
        refine lv_iconst (v := 0) hx hb dP_matches_54 (by decide) ?_
        obtain rfl := Option.some.inj hf
        exact x_zret C hw rfl dP_matches_55
      · replace hf := x_in c7 hf
        refine lv_aload_n hx hb dP_matches_36 rfl (lv_at hl 0 rfl) ?_
        refine x_get C hw 17 k0 3 (v := va_rf (σ.2.1 17 k0 3)) (at_17 g2) rfl rfl ⟨by decide, by decide⟩ wP_22 rfl dP_matches_37 ?_
        refine lv_aload_n hx hb dP_matches_40 rfl (lv_at hl 1 rfl) ?_
        refine x_getN C hw 15 k1 4 (v := .int (σ.1 15 k1 4)) (at_15 g1) rfl rfl ⟨by decide, by decide⟩ wP_38 rfl dP_matches_41 ?_
        obtain ⟨r9, h8, hf⟩ := x_p hf
        refine x_callSN (As := [va_rf (σ.2.1 17 k0 3), .int (σ.1 15 k1 4)]) (rest := []) (st1 := [.int r9]) C hw (cH_accepts l E 9 σ τ (σ.2.1 17 k0 3) (σ.1 15 k1 4) r9 h8) kP_32 (by decide) rfl rfl hl.1 (lv_room (Nat.le_of_ble_eq_true rfl)) dP_matches_44 ⟨by decide, by decide⟩ rfl (fun H locs hw => ?_)
        refine lv_if_eq (tgt := 54) hx hb dP_matches_47 (by decide) (fun c10 => ?_) (fun c10 => ?_)
        · replace hf := x_ip c10 hf
          refine lv_iconst (v := 0) hx hb dP_matches_54 (by decide) ?_
          obtain rfl := Option.some.inj hf
          exact x_zret C hw rfl dP_matches_55
        · replace hf := x_in c10 hf
          refine lv_iconst (v := 1) hx hb dP_matches_50 (by decide) ?_
          refine lv_goto (tgt := 55) hx hb dP_matches_51 (by decide) ?_
          obtain rfl := Option.some.inj hf
          exact x_zret C hw rfl dP_matches_55
-- StandIns$Finding add (II)V
set_option maxRecDepth 100000 in
theorem dF_add_0 : decode bF_add 0 = .ok (.aload_n 0, 1) := by decide +kernel
set_option maxRecDepth 100000 in
theorem dF_add_1 : decode bF_add 1 = .ok (.getfield 18, 3) := by decide +kernel
set_option maxRecDepth 100000 in
theorem dF_add_4 : decode bF_add 4 = .ok (.bipush 40, 2) := by decide +kernel
set_option maxRecDepth 100000 in
theorem dF_add_6 : decode bF_add 6 = .ok (.if_icmp .ge 33, 3) := by decide +kernel
set_option maxRecDepth 100000 in
theorem dF_add_9 : decode bF_add 9 = .ok (.aload_n 0, 1) := by decide +kernel
set_option maxRecDepth 100000 in
theorem dF_add_10 : decode bF_add 10 = .ok (.getfield 9, 3) := by decide +kernel
set_option maxRecDepth 100000 in
theorem dF_add_13 : decode bF_add 13 = .ok (.aload_n 0, 1) := by decide +kernel
set_option maxRecDepth 100000 in
theorem dF_add_14 : decode bF_add 14 = .ok (.getfield 18, 3) := by decide +kernel
set_option maxRecDepth 100000 in
theorem dF_add_17 : decode bF_add 17 = .ok (.iload_n 1, 1) := by decide +kernel
set_option maxRecDepth 100000 in
theorem dF_add_18 : decode bF_add 18 = .ok (.iastore, 1) := by decide +kernel
set_option maxRecDepth 100000 in
theorem dF_add_19 : decode bF_add 19 = .ok (.aload_n 0, 1) := by decide +kernel
set_option maxRecDepth 100000 in
theorem dF_add_20 : decode bF_add 20 = .ok (.getfield 15, 3) := by decide +kernel
set_option maxRecDepth 100000 in
theorem dF_add_23 : decode bF_add 23 = .ok (.aload_n 0, 1) := by decide +kernel
set_option maxRecDepth 100000 in
theorem dF_add_24 : decode bF_add 24 = .ok (.getfield 18, 3) := by decide +kernel
set_option maxRecDepth 100000 in
theorem dF_add_27 : decode bF_add 27 = .ok (.iload_n 2, 1) := by decide +kernel
set_option maxRecDepth 100000 in
theorem dF_add_28 : decode bF_add 28 = .ok (.iastore, 1) := by decide +kernel
set_option maxRecDepth 100000 in
theorem dF_add_29 : decode bF_add 29 = .ok (.aload_n 0, 1) := by decide +kernel
set_option maxRecDepth 100000 in
theorem dF_add_30 : decode bF_add 30 = .ok (.dup, 1) := by decide +kernel
set_option maxRecDepth 100000 in
theorem dF_add_31 : decode bF_add 31 = .ok (.getfield 18, 3) := by decide +kernel
set_option maxRecDepth 100000 in
theorem dF_add_34 : decode bF_add 34 = .ok (.iconst 1, 1) := by decide +kernel
set_option maxRecDepth 100000 in
theorem dF_add_35 : decode bF_add 35 = .ok (.iadd, 1) := by decide +kernel
set_option maxRecDepth 100000 in
theorem dF_add_36 : decode bF_add 36 = .ok (.putfield 18, 3) := by decide +kernel
set_option maxRecDepth 100000 in
theorem dF_add_39 : decode bF_add 39 = .ok (.return_, 1) := by decide +kernel
def fF_add (σ : xS) (a1 : Int32) (a2 : Int32) : Option (xS) :=
  if 40 ≤ (σ.1 9 0 2) then
  (some σ)
  else
  (if ¬ ((σ.1 9 0 2) < 0 ∨ 40 ≤ (σ.1 9 0 2).toNatClampNeg) then
  xl (x_si σ 10 0 ((σ.1 9 0 2).toNatClampNeg) a1) fun s3 =>
  if ¬ ((s3.1 9 0 2) < 0 ∨ 40 ≤ (s3.1 9 0 2).toNatClampNeg) then
  xl (x_si s3 11 0 ((s3.1 9 0 2).toNatClampNeg) a2) fun s5 =>
  xl (x_si s5 9 0 2 ((s5.1 9 0 2) + 1)) fun s6 =>
  some s6
  else none
  else none)
set_option maxHeartbeats 4000000 in
set_option maxRecDepth 100000 in
theorem cF_add (l : Launch) (E : xE) (σ : xS) (τ : yS) (a1 : Int32) (a2 : Int32) (res : xS) (hf : fF_add σ a1 a2 = some res) : xM l E yF_add bF_add 3 none 0 0 0 [.ref (E.2.2.1 9 0), .int a1, .int a2] σ τ none res τ := by
  refine x_met (by decide) (Nat.le_of_ble_eq_true rfl) (fun p e R s m args below meth c A ls H locs C hw hl => ?_)
  have hl : lv_has ls 3 [(0, .ref (E.2.2.1 9 0)), (1, .int a1), (2, .int a2)] := hl
  have hx := C.1
  have hb := C.2.1
  unfold fF_add at hf
  refine lv_aload_n hx hb dF_add_0 rfl (lv_at hl 0 rfl) ?_
  refine x_get C hw 9 0 2 (v := .int (σ.1 9 0 2)) at_9 rfl rfl ⟨by decide, by decide⟩ wF_18 rfl dF_add_1 ?_
  refine lv_bipush (v := 40) hx hb dF_add_4 (by decide) ?_
  refine lv_icmp_ge (tgt := 39) hx hb dF_add_6 (by decide) (fun c1 => ?_) (fun c1 => ?_)
  · replace hf := x_ip c1 hf
    obtain rfl := Option.some.inj hf
    exact x_vret C hw dF_add_39
  · replace hf := x_in c1 hf
    refine lv_aload_n hx hb dF_add_9 rfl (lv_at hl 0 rfl) ?_
    refine x_get C hw 9 0 0 (v := .ref (E.2.2.1 10 0)) at_9 rfl rfl ⟨by decide, by decide⟩ wF_9 rfl dF_add_10 ?_
    refine lv_aload_n hx hb dF_add_13 rfl (lv_at hl 0 rfl) ?_
    refine x_get C hw 9 0 2 (v := .int (σ.1 9 0 2)) at_9 rfl rfl ⟨by decide, by decide⟩ wF_18 rfl dF_add_14 ?_
    refine lv_iload_n hx hb dF_add_17 rfl (lv_at hl 1 rfl) ?_
    obtain ⟨g2, hf⟩ := x_g hf
    refine x_ist C hw 10 0 at_10 rfl rfl g2 dF_add_18 (fun H locs hw => ?_)
    obtain ⟨s3, es3, hf⟩ := x_l hf
    rw [← es3] at hw
    refine lv_aload_n hx hb dF_add_19 rfl (lv_at hl 0 rfl) ?_
    refine x_get C hw 9 0 1 (v := .ref (E.2.2.1 11 0)) at_9 rfl rfl ⟨by decide, by decide⟩ wF_15 rfl dF_add_20 ?_
    refine lv_aload_n hx hb dF_add_23 rfl (lv_at hl 0 rfl) ?_
    refine x_get C hw 9 0 2 (v := .int (s3.1 9 0 2)) at_9 rfl rfl ⟨by decide, by decide⟩ wF_18 rfl dF_add_24 ?_
    refine lv_iload_n hx hb dF_add_27 rfl (lv_at hl 2 rfl) ?_
    obtain ⟨g4, hf⟩ := x_g hf
    refine x_ist C hw 11 0 at_11 rfl rfl g4 dF_add_28 (fun H locs hw => ?_)
    obtain ⟨s5, es5, hf⟩ := x_l hf
    rw [← es5] at hw
    refine lv_aload_n hx hb dF_add_29 rfl (lv_at hl 0 rfl) ?_
    refine lv_dup hx hb dF_add_30 rfl ?_
    refine x_get C hw 9 0 2 (v := .int (s5.1 9 0 2)) at_9 rfl rfl ⟨by decide, by decide⟩ wF_18 rfl dF_add_31 ?_
    refine lv_iconst (v := 1) hx hb dF_add_34 (by decide) ?_
    refine lv_iadd hx hb dF_add_35 ?_
    refine x_puti C hw 9 0 2 at_9 rfl rfl rfl ⟨rfl, rfl⟩ ⟨by decide, by decide⟩ (Nat.le_of_ble_eq_true rfl) wF_18 dF_add_36 (fun H locs hw => ?_)
    obtain ⟨s6, es6, hf⟩ := x_l hf
    rw [← es6] at hw
    obtain rfl := Option.some.inj hf
    exact x_vret C hw dF_add_39
-- StandIns findAbove (I)V
set_option maxRecDepth 100000 in
theorem dA_findAbove_0 : decode bA_findAbove 0 = .ok (.aload_n 0, 1) := by decide +kernel
set_option maxRecDepth 100000 in
theorem dA_findAbove_1 : decode bA_findAbove 1 = .ok (.getfield 59, 3) := by decide +kernel
set_option maxRecDepth 100000 in
theorem dA_findAbove_4 : decode bA_findAbove 4 = .ok (.iconst 0, 1) := by decide +kernel
set_option maxRecDepth 100000 in
theorem dA_findAbove_5 : decode bA_findAbove 5 = .ok (.putfield 264, 3) := by decide +kernel
set_option maxRecDepth 100000 in
theorem dA_findAbove_8 : decode bA_findAbove 8 = .ok (.iconst 0, 1) := by decide +kernel
set_option maxRecDepth 100000 in
theorem dA_findAbove_9 : decode bA_findAbove 9 = .ok (.istore_n 2, 1) := by decide +kernel
set_option maxRecDepth 100000 in
theorem dA_findAbove_10 : decode bA_findAbove 10 = .ok (.iload_n 2, 1) := by decide +kernel
set_option maxRecDepth 100000 in
theorem dA_findAbove_11 : decode bA_findAbove 11 = .ok (.aload_n 0, 1) := by decide +kernel
set_option maxRecDepth 100000 in
theorem dA_findAbove_12 : decode bA_findAbove 12 = .ok (.getfield 43, 3) := by decide +kernel
set_option maxRecDepth 100000 in
theorem dA_findAbove_15 : decode bA_findAbove 15 = .ok (.getfield 225, 3) := by decide +kernel
set_option maxRecDepth 100000 in
theorem dA_findAbove_18 : decode bA_findAbove 18 = .ok (.if_icmp .ge 50, 3) := by decide +kernel
set_option maxRecDepth 100000 in
theorem dA_findAbove_21 : decode bA_findAbove 21 = .ok (.aload_n 0, 1) := by decide +kernel
set_option maxRecDepth 100000 in
theorem dA_findAbove_22 : decode bA_findAbove 22 = .ok (.getfield 43, 3) := by decide +kernel
set_option maxRecDepth 100000 in
theorem dA_findAbove_25 : decode bA_findAbove 25 = .ok (.getfield 226, 3) := by decide +kernel
set_option maxRecDepth 100000 in
theorem dA_findAbove_28 : decode bA_findAbove 28 = .ok (.iload_n 2, 1) := by decide +kernel
set_option maxRecDepth 100000 in
theorem dA_findAbove_29 : decode bA_findAbove 29 = .ok (.aaload, 1) := by decide +kernel
set_option maxRecDepth 100000 in
theorem dA_findAbove_30 : decode bA_findAbove 30 = .ok (.astore_n 3, 1) := by decide +kernel
set_option maxRecDepth 100000 in
theorem dA_findAbove_31 : decode bA_findAbove 31 = .ok (.aload_n 3, 1) := by decide +kernel
set_option maxRecDepth 100000 in
theorem dA_findAbove_32 : decode bA_findAbove 32 = .ok (.getfield 230, 3) := by decide +kernel
set_option maxRecDepth 100000 in
theorem dA_findAbove_35 : decode bA_findAbove 35 = .ok (.iload_n 1, 1) := by decide +kernel
set_option maxRecDepth 100000 in
theorem dA_findAbove_36 : decode bA_findAbove 36 = .ok (.if_icmp .le 26, 3) := by decide +kernel
set_option maxRecDepth 100000 in
theorem dA_findAbove_39 : decode bA_findAbove 39 = .ok (.aload_n 0, 1) := by decide +kernel
set_option maxRecDepth 100000 in
theorem dA_findAbove_40 : decode bA_findAbove 40 = .ok (.getfield 73, 3) := by decide +kernel
set_option maxRecDepth 100000 in
theorem dA_findAbove_43 : decode bA_findAbove 43 = .ok (.aload_n 3, 1) := by decide +kernel
set_option maxRecDepth 100000 in
theorem dA_findAbove_44 : decode bA_findAbove 44 = .ok (.invokevirtual 299, 3) := by decide +kernel
set_option maxRecDepth 100000 in
theorem dA_findAbove_47 : decode bA_findAbove 47 = .ok (.ifCond .eq 15, 3) := by decide +kernel
set_option maxRecDepth 100000 in
theorem dA_findAbove_50 : decode bA_findAbove 50 = .ok (.aload_n 0, 1) := by decide +kernel
set_option maxRecDepth 100000 in
theorem dA_findAbove_51 : decode bA_findAbove 51 = .ok (.getfield 59, 3) := by decide +kernel
set_option maxRecDepth 100000 in
theorem dA_findAbove_54 : decode bA_findAbove 54 = .ok (.iload_n 2, 1) := by decide +kernel
set_option maxRecDepth 100000 in
theorem dA_findAbove_55 : decode bA_findAbove 55 = .ok (.aload_n 3, 1) := by decide +kernel
set_option maxRecDepth 100000 in
theorem dA_findAbove_56 : decode bA_findAbove 56 = .ok (.getfield 230, 3) := by decide +kernel
set_option maxRecDepth 100000 in
theorem dA_findAbove_59 : decode bA_findAbove 59 = .ok (.invokevirtual 337, 3) := by decide +kernel
set_option maxRecDepth 100000 in
theorem dA_findAbove_62 : decode bA_findAbove 62 = .ok (.iinc 2 1, 3) := by decide +kernel
set_option maxRecDepth 100000 in
theorem dA_findAbove_65 : decode bA_findAbove 65 = .ok (.goto (-55), 3) := by decide +kernel
set_option maxRecDepth 100000 in
theorem dA_findAbove_68 : decode bA_findAbove 68 = .ok (.return_, 1) := by decide +kernel
def fA_findAbove_62 (N : Nat) (rec10 : xS → Int32 → Int32 → Option (xS)) (σ : xS) (a1 : Int32) (a2 : Int32) : Option (xS) :=
  rec10 σ a1 (a2 + 1)
def fA_findAbove_10b (N : Nat) (rec10 : xS → Int32 → Int32 → Option (xS)) (σ : xS) (a1 : Int32) (a2 : Int32) : Option (xS) :=
  if (σ.1 6 0 1) ≤ a2 then
  (some σ)
  else
  (if ¬ (a2 < 0 ∨ 40 ≤ a2.toNatClampNeg) then
  if (σ.1 15 a2.toNatClampNeg 0) ≤ a1 then
  (fA_findAbove_62 N rec10 σ a1 a2)
  else
  (xp (fP_matches σ 16 a2.toNatClampNeg) fun r15 =>
  if r15 = 0 then
  (fA_findAbove_62 N rec10 σ a1 a2)
  else
  (xp (fF_add σ a2 (σ.1 15 a2.toNatClampNeg 0)) fun s18 =>
  fA_findAbove_62 N rec10 s18 a1 a2))
  else none)
def fA_findAbove_10 (N : Nat) : Nat → xS → Int32 → Int32 → Option (xS)
  | 0, _, _, _ => none
  | n + 1, σ, a1, a2 => fA_findAbove_10b N (fA_findAbove_10 N n) σ a1 a2
def fA_findAbove (N : Nat) (σ : xS) (a1 : Int32) : Option (xS) :=
  xl (x_si σ 9 0 2 0) fun s19 =>
  fA_findAbove_10 N N s19 a1 0
set_option maxHeartbeats 4000000 in
set_option maxRecDepth 100000 in
theorem wA_findAbove_62 {p : Program} {l : Launch} {e : Env} {R : Room} {s : State} {m : MethodId} {args : Array Value} {below : List Frame} {meth : Method} {c : Code} {E : xE} {A : Nat → Prop} {τ : yS} (C : xC p s m args meth c R E A bA_findAbove 4 yA_findAbove none 11 0 0) (N : Nat) (σ : xS) (rec10 : xS → Int32 → Int32 → Option (xS)) (hrec10 : ∀ (σ : xS) (a1 : Int32) (a2 : Int32) (res : xS), rec10 σ a1 a2 = some res → ∀ (H : Heap) (locs : List Loc) (ls : Array Slot), xW E A s σ τ H locs → lv_has ls 4 [(0, .ref (E.2.2.1 0 0)), (1, .int a1), (2, .int a2)] → W p l e R s m args below meth c H locs 0 0 (MQ below (xQ E A none res τ) args s 0 0 A) (F0 m 10 ls [])) (a1 : Int32) (a2 : Int32) (res : xS) (hf : fA_findAbove_62 N rec10 σ a1 a2 = some res) (H : Heap) (locs : List Loc) (ls : Array Slot) (hw : xW E A s σ τ H locs) (hl : lv_has ls 4 [(0, .ref (E.2.2.1 0 0)), (1, .int a1), (2, .int a2)]) : W p l e R s m args below meth c H locs 0 0 (MQ below (xQ E A none res τ) args s 0 0 A) (F0 m 62 ls []) := by
  have hx := C.1
  have hb := C.2.1
  unfold fA_findAbove_62 at hf
  refine lv_iinc (v := a2 + 1) (lv' := [(2, .int (a2 + 1)), (0, .ref (E.2.2.1 0 0)), (1, .int a1)]) hx hb dA_findAbove_62 hl (k := 2) rfl rfl (by decide) rfl (fun ls hl => ?_)
  refine lv_goto (tgt := 10) hx hb dA_findAbove_65 (by decide) ?_
  exact hrec10 σ a1 (a2 + 1) res hf H locs ls hw (lv_sub hl [1, 2, 0] rfl)
set_option maxHeartbeats 4000000 in
set_option maxRecDepth 100000 in
theorem wA_findAbove_10b {p : Program} {l : Launch} {e : Env} {R : Room} {s : State} {m : MethodId} {args : Array Value} {below : List Frame} {meth : Method} {c : Code} {E : xE} {A : Nat → Prop} {τ : yS} (C : xC p s m args meth c R E A bA_findAbove 4 yA_findAbove none 11 0 0) (N : Nat) (σ : xS) (rec10 : xS → Int32 → Int32 → Option (xS)) (hrec10 : ∀ (σ : xS) (a1 : Int32) (a2 : Int32) (res : xS), rec10 σ a1 a2 = some res → ∀ (H : Heap) (locs : List Loc) (ls : Array Slot), xW E A s σ τ H locs → lv_has ls 4 [(0, .ref (E.2.2.1 0 0)), (1, .int a1), (2, .int a2)] → W p l e R s m args below meth c H locs 0 0 (MQ below (xQ E A none res τ) args s 0 0 A) (F0 m 10 ls [])) (a1 : Int32) (a2 : Int32) (res : xS) (hf : fA_findAbove_10b N rec10 σ a1 a2 = some res) (H : Heap) (locs : List Loc) (ls : Array Slot) (hw : xW E A s σ τ H locs) (hl : lv_has ls 4 [(0, .ref (E.2.2.1 0 0)), (1, .int a1), (2, .int a2)]) : W p l e R s m args below meth c H locs 0 0 (MQ below (xQ E A none res τ) args s 0 0 A) (F0 m 10 ls []) := by
  have hx := C.1
  have hb := C.2.1
  unfold fA_findAbove_10b at hf
  refine lv_iload_n hx hb dA_findAbove_10 rfl (lv_at hl 2 rfl) ?_
  refine lv_aload_n hx hb dA_findAbove_11 rfl (lv_at hl 0 rfl) ?_
  refine x_get C hw 0 0 6 (v := .ref (E.2.2.1 6 0)) at_0 rfl rfl ⟨by decide, by decide⟩ wA_43 rfl dA_findAbove_12 ?_
  refine x_getN C hw 6 0 1 (v := .int (σ.1 6 0 1)) at_6 rfl rfl ⟨by decide, by decide⟩ wA_225 rfl dA_findAbove_15 ?_
  refine lv_icmp_ge (tgt := 68) hx hb dA_findAbove_18 (by decide) (fun c10 => ?_) (fun c10 => ?_)
  · replace hf := x_ip c10 hf
    obtain rfl := Option.some.inj hf
    exact x_vret C hw dA_findAbove_68
  · replace hf := x_in c10 hf
    refine lv_aload_n hx hb dA_findAbove_21 rfl (lv_at hl 0 rfl) ?_
    refine x_get C hw 0 0 6 (v := .ref (E.2.2.1 6 0)) at_0 rfl rfl ⟨by decide, by decide⟩ wA_43 rfl dA_findAbove_22 ?_
    refine x_getN C hw 6 0 0 (v := .ref (E.2.2.1 7 0)) at_6 rfl rfl ⟨by decide, by decide⟩ wA_226 rfl dA_findAbove_25 ?_
    refine lv_iload_n hx hb dA_findAbove_28 rfl (lv_at hl 2 rfl) ?_
    obtain ⟨g11, hf⟩ := x_g hf
    refine x_ald7 C hw g11 dA_findAbove_29 ?_
    have g12 := x_lt g11
    refine lv_astore_n (lv' := [(3, .ref (E.2.2.1 15 a2.toNatClampNeg)), (0, .ref (E.2.2.1 0 0)), (1, .int a1), (2, .int a2)]) hx hb dA_findAbove_30 rfl hl (by decide) rfl (fun ls hl => ?_)
    refine lv_aload_n hx hb dA_findAbove_31 rfl (lv_at hl 0 rfl) ?_
    refine x_getN C hw 15 a2.toNatClampNeg 0 (v := .int (σ.1 15 a2.toNatClampNeg 0)) (at_15 g12) rfl rfl ⟨by decide, by decide⟩ wA_230 rfl dA_findAbove_32 ?_
    refine lv_iload_n hx hb dA_findAbove_35 rfl (lv_at hl 2 rfl) ?_
    refine lv_icmp_le (tgt := 62) hx hb dA_findAbove_36 (by decide) (fun c13 => ?_) (fun c13 => ?_)
    · replace hf := x_ip c13 hf
      exact wA_findAbove_62 C N σ rec10 hrec10 a1 a2 res hf H locs ls hw (lv_sub hl [1, 2, 3] rfl)
    · replace hf := x_in c13 hf
      refine lv_aload_n hx hb dA_findAbove_39 rfl (lv_at hl 1 rfl) ?_
      refine x_get C hw 0 0 11 (v := .ref (E.2.2.1 17 16)) at_0 rfl rfl ⟨by decide, by decide⟩ wA_73 rfl dA_findAbove_40 ?_
      refine lv_aload_n hx hb dA_findAbove_43 rfl (lv_at hl 0 rfl) ?_
      obtain ⟨r15, h14, hf⟩ := x_p hf
      refine x_callVN (As := [.ref (E.2.2.1 15 a2.toNatClampNeg)]) (rest := []) (st1 := [.int r15]) C hw (cP_matches l E σ τ 16 a2.toNatClampNeg r15 h14) kA_299 (x_recv C hw 17 16 (at_17 (by decide)) rfl rfl) (by decide) rfl rfl hl.1 (lv_room (Nat.le_of_ble_eq_true rfl)) dA_findAbove_44 ⟨by decide, by decide⟩ rfl (fun H locs hw => ?_)
      refine lv_if_eq (tgt := 62) hx hb dA_findAbove_47 (by decide) (fun c16 => ?_) (fun c16 => ?_)
      · replace hf := x_ip c16 hf
        exact wA_findAbove_62 C N σ rec10 hrec10 a1 a2 res hf H locs ls hw (lv_sub hl [1, 2, 3] rfl)
      · replace hf := x_in c16 hf
        refine lv_aload_n hx hb dA_findAbove_50 rfl (lv_at hl 1 rfl) ?_
        refine x_get C hw 0 0 9 (v := .ref (E.2.2.1 9 0)) at_0 rfl rfl ⟨by decide, by decide⟩ wA_59 rfl dA_findAbove_51 ?_
        refine lv_iload_n hx hb dA_findAbove_54 rfl (lv_at hl 3 rfl) ?_
        refine lv_aload_n hx hb dA_findAbove_55 rfl (lv_at hl 0 rfl) ?_
        refine x_getN C hw 15 a2.toNatClampNeg 0 (v := .int (σ.1 15 a2.toNatClampNeg 0)) (at_15 g12) rfl rfl ⟨by decide, by decide⟩ wA_230 rfl dA_findAbove_56 ?_
        obtain ⟨s18, h17, hf⟩ := x_p hf
        refine x_callVN (As := [.int a2, .int (σ.1 15 a2.toNatClampNeg 0)]) (rest := []) (st1 := []) C hw (cF_add l E σ τ a2 (σ.1 15 a2.toNatClampNeg 0) s18 h17) kA_337 (x_recv C hw 9 0 at_9 rfl rfl) (by decide) rfl rfl hl.1 (lv_room (Nat.le_of_ble_eq_true rfl)) dA_findAbove_59 ⟨by decide, by decide⟩ rfl (fun H locs hw => ?_)
        exact wA_findAbove_62 C N s18 rec10 hrec10 a1 a2 res hf H locs ls hw (lv_sub hl [1, 2, 3] rfl)
set_option maxHeartbeats 4000000 in
set_option maxRecDepth 100000 in
theorem wA_findAbove_10 {p : Program} {l : Launch} {e : Env} {R : Room} {s : State} {m : MethodId} {args : Array Value} {below : List Frame} {meth : Method} {c : Code} {E : xE} {A : Nat → Prop} {τ : yS} (C : xC p s m args meth c R E A bA_findAbove 4 yA_findAbove none 11 0 0) (N : Nat) (n : Nat) : ∀ (σ : xS) (a1 : Int32) (a2 : Int32) (res : xS), fA_findAbove_10 N n σ a1 a2 = some res → ∀ (H : Heap) (locs : List Loc) (ls : Array Slot), xW E A s σ τ H locs → lv_has ls 4 [(0, .ref (E.2.2.1 0 0)), (1, .int a1), (2, .int a2)] → W p l e R s m args below meth c H locs 0 0 (MQ below (xQ E A none res τ) args s 0 0 A) (F0 m 10 ls []) := by
  induction n with
  | zero => intro σ a1 a2 res hf; cases hf
  | succ n ih =>
    intro σ a1 a2 res hf H locs ls hw hl
    exact wA_findAbove_10b C N σ (fA_findAbove_10 N n) ih a1 a2 res hf H locs ls hw hl
set_option maxHeartbeats 4000000 in
set_option maxRecDepth 100000 in
theorem cA_findAbove (l : Launch) (E : xE) (N : Nat) (σ : xS) (τ : yS) (a1 : Int32) (res : xS) (hf : fA_findAbove N σ a1 = some res) : xM l E yA_findAbove bA_findAbove 4 none 11 0 0 [.ref (E.2.2.1 0 0), .int a1] σ τ none res τ := by
  refine x_met (by decide) (Nat.le_of_ble_eq_true rfl) (fun p e R s m args below meth c A ls H locs C hw hl => ?_)
  have hl : lv_has ls 4 [(0, .ref (E.2.2.1 0 0)), (1, .int a1)] := hl
  have hx := C.1
  have hb := C.2.1
  unfold fA_findAbove at hf
  refine lv_aload_n hx hb dA_findAbove_0 rfl (lv_at hl 0 rfl) ?_
  refine x_get C hw 0 0 9 (v := .ref (E.2.2.1 9 0)) at_0 rfl rfl ⟨by decide, by decide⟩ wA_59 rfl dA_findAbove_1 ?_
  refine lv_iconst (v := 0) hx hb dA_findAbove_4 (by decide) ?_
  refine x_putiN C hw 9 0 2 at_9 rfl rfl rfl ⟨rfl, rfl⟩ ⟨by decide, by decide⟩ (Nat.le_of_ble_eq_true rfl) wA_264 dA_findAbove_5 (fun H locs hw => ?_)
  obtain ⟨s19, es19, hf⟩ := x_l hf
  rw [← es19] at hw
  refine lv_iconst (v := 0) hx hb dA_findAbove_8 (by decide) ?_
  refine lv_istore_n (lv' := [(2, .int 0), (0, .ref (E.2.2.1 0 0)), (1, .int a1)]) hx hb dA_findAbove_9 rfl hl (by decide) rfl (fun ls hl => ?_)
  exact wA_findAbove_10 C N N s19 a1 0 res hf H locs ls hw (lv_sub hl [1, 2, 0] rfl)
-- StandIns$Notebook manyOf (I)I
set_option maxRecDepth 100000 in
theorem dB_manyOf_0 : decode bB_manyOf 0 = .ok (.iconst 0, 1) := by decide +kernel
set_option maxRecDepth 100000 in
theorem dB_manyOf_1 : decode bB_manyOf 1 = .ok (.istore_n 2, 1) := by decide +kernel
set_option maxRecDepth 100000 in
theorem dB_manyOf_2 : decode bB_manyOf 2 = .ok (.iconst 0, 1) := by decide +kernel
set_option maxRecDepth 100000 in
theorem dB_manyOf_3 : decode bB_manyOf 3 = .ok (.istore_n 3, 1) := by decide +kernel
set_option maxRecDepth 100000 in
theorem dB_manyOf_4 : decode bB_manyOf 4 = .ok (.iload_n 3, 1) := by decide +kernel
set_option maxRecDepth 100000 in
theorem dB_manyOf_5 : decode bB_manyOf 5 = .ok (.aload_n 0, 1) := by decide +kernel
set_option maxRecDepth 100000 in
theorem dB_manyOf_6 : decode bB_manyOf 6 = .ok (.getfield 17, 3) := by decide +kernel
set_option maxRecDepth 100000 in
theorem dB_manyOf_9 : decode bB_manyOf 9 = .ok (.if_icmp .ge 25, 3) := by decide +kernel
set_option maxRecDepth 100000 in
theorem dB_manyOf_12 : decode bB_manyOf 12 = .ok (.aload_n 0, 1) := by decide +kernel
set_option maxRecDepth 100000 in
theorem dB_manyOf_13 : decode bB_manyOf 13 = .ok (.getfield 11, 3) := by decide +kernel
set_option maxRecDepth 100000 in
theorem dB_manyOf_16 : decode bB_manyOf 16 = .ok (.iload_n 3, 1) := by decide +kernel
set_option maxRecDepth 100000 in
theorem dB_manyOf_17 : decode bB_manyOf 17 = .ok (.aaload, 1) := by decide +kernel
set_option maxRecDepth 100000 in
theorem dB_manyOf_18 : decode bB_manyOf 18 = .ok (.getfield 33, 3) := by decide +kernel
set_option maxRecDepth 100000 in
theorem dB_manyOf_21 : decode bB_manyOf 21 = .ok (.iload_n 1, 1) := by decide +kernel
set_option maxRecDepth 100000 in
theorem dB_manyOf_22 : decode bB_manyOf 22 = .ok (.if_icmp .ne 6, 3) := by decide +kernel
set_option maxRecDepth 100000 in
theorem dB_manyOf_25 : decode bB_manyOf 25 = .ok (.iinc 2 1, 3) := by decide +kernel
set_option maxRecDepth 100000 in
theorem dB_manyOf_28 : decode bB_manyOf 28 = .ok (.iinc 3 1, 3) := by decide +kernel
set_option maxRecDepth 100000 in
theorem dB_manyOf_31 : decode bB_manyOf 31 = .ok (.goto (-27), 3) := by decide +kernel
set_option maxRecDepth 100000 in
theorem dB_manyOf_34 : decode bB_manyOf 34 = .ok (.iload_n 2, 1) := by decide +kernel
set_option maxRecDepth 100000 in
theorem dB_manyOf_35 : decode bB_manyOf 35 = .ok (.ireturn, 1) := by decide +kernel
def fB_manyOf_28 (N : Nat) (rec4 : Int32 → Int32 → Int32 → Option (Int32)) (σ : xS) (a1 : Int32) (a2 : Int32) (a3 : Int32) : Option (Int32) :=
  rec4 a1 a2 (a3 + 1)
def fB_manyOf_4b (N : Nat) (rec4 : Int32 → Int32 → Int32 → Option (Int32)) (σ : xS) (a1 : Int32) (a2 : Int32) (a3 : Int32) : Option (Int32) :=
  if (σ.1 6 0 1) ≤ a3 then
  (some a2)
  else
  (if ¬ (a3 < 0 ∨ 40 ≤ a3.toNatClampNeg) then
  if (σ.1 15 a3.toNatClampNeg 1) = a1 then
  (fB_manyOf_28 N rec4 σ a1 (a2 + 1) a3)
  else
  (fB_manyOf_28 N rec4 σ a1 a2 a3)
  else none)
def fB_manyOf_4 (N : Nat) (σ : xS) : Nat → Int32 → Int32 → Int32 → Option (Int32)
  | 0, _, _, _ => none
  | n + 1, a1, a2, a3 => fB_manyOf_4b N (fB_manyOf_4 N σ n) σ a1 a2 a3
def fB_manyOf (N : Nat) (σ : xS) (a1 : Int32) : Option (Int32) :=
  fB_manyOf_4 N σ N a1 0 0
set_option maxHeartbeats 4000000 in
set_option maxRecDepth 100000 in
theorem wB_manyOf_28 {p : Program} {l : Launch} {e : Env} {R : Room} {s : State} {m : MethodId} {args : Array Value} {below : List Frame} {meth : Method} {c : Code} {E : xE} {A : Nat → Prop} {τ : yS} (C : xC p s m args meth c R E A bB_manyOf 4 yB_manyOf (some .int) 0 0 0) (N : Nat) (σ : xS) (rec4 : Int32 → Int32 → Int32 → Option (Int32)) (hrec4 : ∀ (a1 : Int32) (a2 : Int32) (a3 : Int32) (res : Int32), rec4 a1 a2 a3 = some res → ∀ (H : Heap) (locs : List Loc) (ls : Array Slot), xW E A s σ τ H locs → lv_has ls 4 [(0, .ref (E.2.2.1 6 0)), (1, .int a1), (2, .int a2), (3, .int a3)] → W p l e R s m args below meth c H locs 0 0 (MQ below (xQ E A (some (.int res)) σ τ) args s 0 0 A) (F0 m 4 ls [])) (a1 : Int32) (a2 : Int32) (a3 : Int32) (res : Int32) (hf : fB_manyOf_28 N rec4 σ a1 a2 a3 = some res) (H : Heap) (locs : List Loc) (ls : Array Slot) (hw : xW E A s σ τ H locs) (hl : lv_has ls 4 [(0, .ref (E.2.2.1 6 0)), (1, .int a1), (2, .int a2), (3, .int a3)]) : W p l e R s m args below meth c H locs 0 0 (MQ below (xQ E A (some (.int res)) σ τ) args s 0 0 A) (F0 m 28 ls []) := by
  have hx := C.1
  have hb := C.2.1
  unfold fB_manyOf_28 at hf
  refine lv_iinc (v := a3 + 1) (lv' := [(3, .int (a3 + 1)), (0, .ref (E.2.2.1 6 0)), (1, .int a1), (2, .int a2)]) hx hb dB_manyOf_28 hl (k := 3) rfl rfl (by decide) rfl (fun ls hl => ?_)
  refine lv_goto (tgt := 4) hx hb dB_manyOf_31 (by decide) ?_
  exact hrec4 a1 a2 (a3 + 1) res hf H locs ls hw (lv_sub hl [1, 2, 3, 0] rfl)
set_option maxHeartbeats 4000000 in
set_option maxRecDepth 100000 in
theorem wB_manyOf_4b {p : Program} {l : Launch} {e : Env} {R : Room} {s : State} {m : MethodId} {args : Array Value} {below : List Frame} {meth : Method} {c : Code} {E : xE} {A : Nat → Prop} {τ : yS} (C : xC p s m args meth c R E A bB_manyOf 4 yB_manyOf (some .int) 0 0 0) (N : Nat) (σ : xS) (rec4 : Int32 → Int32 → Int32 → Option (Int32)) (hrec4 : ∀ (a1 : Int32) (a2 : Int32) (a3 : Int32) (res : Int32), rec4 a1 a2 a3 = some res → ∀ (H : Heap) (locs : List Loc) (ls : Array Slot), xW E A s σ τ H locs → lv_has ls 4 [(0, .ref (E.2.2.1 6 0)), (1, .int a1), (2, .int a2), (3, .int a3)] → W p l e R s m args below meth c H locs 0 0 (MQ below (xQ E A (some (.int res)) σ τ) args s 0 0 A) (F0 m 4 ls [])) (a1 : Int32) (a2 : Int32) (a3 : Int32) (res : Int32) (hf : fB_manyOf_4b N rec4 σ a1 a2 a3 = some res) (H : Heap) (locs : List Loc) (ls : Array Slot) (hw : xW E A s σ τ H locs) (hl : lv_has ls 4 [(0, .ref (E.2.2.1 6 0)), (1, .int a1), (2, .int a2), (3, .int a3)]) : W p l e R s m args below meth c H locs 0 0 (MQ below (xQ E A (some (.int res)) σ τ) args s 0 0 A) (F0 m 4 ls []) := by
  have hx := C.1
  have hb := C.2.1
  unfold fB_manyOf_4b at hf
  refine lv_iload_n hx hb dB_manyOf_4 rfl (lv_at hl 3 rfl) ?_
  refine lv_aload_n hx hb dB_manyOf_5 rfl (lv_at hl 0 rfl) ?_
  refine x_get C hw 6 0 1 (v := .int (σ.1 6 0 1)) at_6 rfl rfl ⟨by decide, by decide⟩ wB_17 rfl dB_manyOf_6 ?_
  refine lv_icmp_ge (tgt := 34) hx hb dB_manyOf_9 (by decide) (fun c5 => ?_) (fun c5 => ?_)
  · replace hf := x_ip c5 hf
    refine lv_iload_n hx hb dB_manyOf_34 rfl (lv_at hl 2 rfl) ?_
    obtain rfl := Option.some.inj hf
    exact x_iret C hw dB_manyOf_35
  · replace hf := x_in c5 hf
    refine lv_aload_n hx hb dB_manyOf_12 rfl (lv_at hl 0 rfl) ?_
    refine x_get C hw 6 0 0 (v := .ref (E.2.2.1 7 0)) at_6 rfl rfl ⟨by decide, by decide⟩ wB_11 rfl dB_manyOf_13 ?_
    refine lv_iload_n hx hb dB_manyOf_16 rfl (lv_at hl 3 rfl) ?_
    obtain ⟨g6, hf⟩ := x_g hf
    refine x_ald7 C hw g6 dB_manyOf_17 ?_
    have g7 := x_lt g6
    refine x_getN C hw 15 a3.toNatClampNeg 1 (v := .int (σ.1 15 a3.toNatClampNeg 1)) (at_15 g7) rfl rfl ⟨by decide, by decide⟩ wB_33 rfl dB_manyOf_18 ?_
    refine lv_iload_n hx hb dB_manyOf_21 rfl (lv_at hl 1 rfl) ?_
    refine lv_icmp_ne (tgt := 28) hx hb dB_manyOf_22 (by decide) (fun c8 => ?_) (fun c8 => ?_)
    · replace hf := x_in c8 hf
      exact wB_manyOf_28 C N σ rec4 hrec4 a1 a2 a3 res hf H locs ls hw (lv_sub hl [0, 1, 2, 3] rfl)
    · replace hf := x_ip c8 hf
      refine lv_iinc (v := a2 + 1) (lv' := [(2, .int (a2 + 1)), (0, .ref (E.2.2.1 6 0)), (1, .int a1), (3, .int a3)]) hx hb dB_manyOf_25 hl (k := 2) rfl rfl (by decide) rfl (fun ls hl => ?_)
      exact wB_manyOf_28 C N σ rec4 hrec4 a1 (a2 + 1) a3 res hf H locs ls hw (lv_sub hl [1, 2, 0, 3] rfl)
set_option maxHeartbeats 4000000 in
set_option maxRecDepth 100000 in
theorem wB_manyOf_4 {p : Program} {l : Launch} {e : Env} {R : Room} {s : State} {m : MethodId} {args : Array Value} {below : List Frame} {meth : Method} {c : Code} {E : xE} {A : Nat → Prop} {τ : yS} (C : xC p s m args meth c R E A bB_manyOf 4 yB_manyOf (some .int) 0 0 0) (N : Nat) (σ : xS) (n : Nat) : ∀ (a1 : Int32) (a2 : Int32) (a3 : Int32) (res : Int32), fB_manyOf_4 N σ n a1 a2 a3 = some res → ∀ (H : Heap) (locs : List Loc) (ls : Array Slot), xW E A s σ τ H locs → lv_has ls 4 [(0, .ref (E.2.2.1 6 0)), (1, .int a1), (2, .int a2), (3, .int a3)] → W p l e R s m args below meth c H locs 0 0 (MQ below (xQ E A (some (.int res)) σ τ) args s 0 0 A) (F0 m 4 ls []) := by
  induction n with
  | zero => intro a1 a2 a3 res hf; cases hf
  | succ n ih =>
    intro a1 a2 a3 res hf H locs ls hw hl
    exact wB_manyOf_4b C N σ (fB_manyOf_4 N σ n) ih a1 a2 a3 res hf H locs ls hw hl
set_option maxHeartbeats 4000000 in
set_option maxRecDepth 100000 in
theorem cB_manyOf (l : Launch) (E : xE) (N : Nat) (σ : xS) (τ : yS) (a1 : Int32) (res : Int32) (hf : fB_manyOf N σ a1 = some res) : xM l E yB_manyOf bB_manyOf 4 (some .int) 0 0 0 [.ref (E.2.2.1 6 0), .int a1] σ τ (some (.int res)) σ τ := by
  refine x_met (by decide) (Nat.le_of_ble_eq_true rfl) (fun p e R s m args below meth c A ls H locs C hw hl => ?_)
  have hl : lv_has ls 4 [(0, .ref (E.2.2.1 6 0)), (1, .int a1)] := hl
  have hx := C.1
  have hb := C.2.1
  unfold fB_manyOf at hf
  refine lv_iconst (v := 0) hx hb dB_manyOf_0 (by decide) ?_
  refine lv_istore_n (lv' := [(2, .int 0), (0, .ref (E.2.2.1 6 0)), (1, .int a1)]) hx hb dB_manyOf_1 rfl hl (by decide) rfl (fun ls hl => ?_)
  refine lv_iconst (v := 0) hx hb dB_manyOf_2 (by decide) ?_
  refine lv_istore_n (lv' := [(3, .int 0), (2, .int 0), (0, .ref (E.2.2.1 6 0)), (1, .int a1)]) hx hb dB_manyOf_3 rfl hl (by decide) rfl (fun ls hl => ?_)
  exact wB_manyOf_4 C N σ N a1 0 0 res hf H locs ls hw (lv_sub hl [2, 3, 1, 0] rfl)
-- StandIns passes ()Z
set_option maxRecDepth 100000 in
theorem dA_passes_0 : decode bA_passes 0 = .ok (.aload_n 0, 1) := by decide +kernel
set_option maxRecDepth 100000 in
theorem dA_passes_1 : decode bA_passes 1 = .ok (.getfield 83, 3) := by decide +kernel
set_option maxRecDepth 100000 in
theorem dA_passes_4 : decode bA_passes 4 = .ok (.tableswitch 96 0 4 #[36, 56, 76, 96, 56], 36) := by decide +kernel
set_option maxRecDepth 100000 in
theorem dA_passes_40 : decode bA_passes 40 = .ok (.aload_n 0, 1) := by decide +kernel
set_option maxRecDepth 100000 in
theorem dA_passes_41 : decode bA_passes 41 = .ok (.getfield 59, 3) := by decide +kernel
set_option maxRecDepth 100000 in
theorem dA_passes_44 : decode bA_passes 44 = .ok (.getfield 264, 3) := by decide +kernel
set_option maxRecDepth 100000 in
theorem dA_passes_47 : decode bA_passes 47 = .ok (.aload_n 0, 1) := by decide +kernel
set_option maxRecDepth 100000 in
theorem dA_passes_48 : decode bA_passes 48 = .ok (.getfield 86, 3) := by decide +kernel
set_option maxRecDepth 100000 in
theorem dA_passes_51 : decode bA_passes 51 = .ok (.if_icmp .ne 7, 3) := by decide +kernel
set_option maxRecDepth 100000 in
theorem dA_passes_54 : decode bA_passes 54 = .ok (.iconst 1, 1) := by decide +kernel
set_option maxRecDepth 100000 in
theorem dA_passes_55 : decode bA_passes 55 = .ok (.goto 4, 3) := by decide +kernel
set_option maxRecDepth 100000 in
theorem dA_passes_58 : decode bA_passes 58 = .ok (.iconst 0, 1) := by decide +kernel
set_option maxRecDepth 100000 in
theorem dA_passes_59 : decode bA_passes 59 = .ok (.ireturn, 1) := by decide +kernel
set_option maxRecDepth 100000 in
theorem dA_passes_60 : decode bA_passes 60 = .ok (.aload_n 0, 1) := by decide +kernel
set_option maxRecDepth 100000 in
theorem dA_passes_61 : decode bA_passes 61 = .ok (.getfield 59, 3) := by decide +kernel
set_option maxRecDepth 100000 in
theorem dA_passes_64 : decode bA_passes 64 = .ok (.getfield 264, 3) := by decide +kernel
set_option maxRecDepth 100000 in
theorem dA_passes_67 : decode bA_passes 67 = .ok (.aload_n 0, 1) := by decide +kernel
set_option maxRecDepth 100000 in
theorem dA_passes_68 : decode bA_passes 68 = .ok (.getfield 86, 3) := by decide +kernel
set_option maxRecDepth 100000 in
theorem dA_passes_71 : decode bA_passes 71 = .ok (.if_icmp .lt 7, 3) := by decide +kernel
set_option maxRecDepth 100000 in
theorem dA_passes_74 : decode bA_passes 74 = .ok (.iconst 1, 1) := by decide +kernel
set_option maxRecDepth 100000 in
theorem dA_passes_75 : decode bA_passes 75 = .ok (.goto 4, 3) := by decide +kernel
set_option maxRecDepth 100000 in
theorem dA_passes_78 : decode bA_passes 78 = .ok (.iconst 0, 1) := by decide +kernel
set_option maxRecDepth 100000 in
theorem dA_passes_79 : decode bA_passes 79 = .ok (.ireturn, 1) := by decide +kernel
set_option maxRecDepth 100000 in
theorem dA_passes_80 : decode bA_passes 80 = .ok (.aload_n 0, 1) := by decide +kernel
set_option maxRecDepth 100000 in
theorem dA_passes_81 : decode bA_passes 81 = .ok (.getfield 59, 3) := by decide +kernel
set_option maxRecDepth 100000 in
theorem dA_passes_84 : decode bA_passes 84 = .ok (.getfield 264, 3) := by decide +kernel
set_option maxRecDepth 100000 in
theorem dA_passes_87 : decode bA_passes 87 = .ok (.aload_n 0, 1) := by decide +kernel
set_option maxRecDepth 100000 in
theorem dA_passes_88 : decode bA_passes 88 = .ok (.getfield 86, 3) := by decide +kernel
set_option maxRecDepth 100000 in
theorem dA_passes_91 : decode bA_passes 91 = .ok (.if_icmp .gt 7, 3) := by decide +kernel
set_option maxRecDepth 100000 in
theorem dA_passes_94 : decode bA_passes 94 = .ok (.iconst 1, 1) := by decide +kernel
set_option maxRecDepth 100000 in
theorem dA_passes_95 : decode bA_passes 95 = .ok (.goto 4, 3) := by decide +kernel
set_option maxRecDepth 100000 in
theorem dA_passes_98 : decode bA_passes 98 = .ok (.iconst 0, 1) := by decide +kernel
set_option maxRecDepth 100000 in
theorem dA_passes_99 : decode bA_passes 99 = .ok (.ireturn, 1) := by decide +kernel
set_option maxRecDepth 100000 in
theorem dA_passes_100 : decode bA_passes 100 = .ok (.aload_n 0, 1) := by decide +kernel
set_option maxRecDepth 100000 in
theorem dA_passes_101 : decode bA_passes 101 = .ok (.getfield 59, 3) := by decide +kernel
set_option maxRecDepth 100000 in
theorem dA_passes_104 : decode bA_passes 104 = .ok (.getfield 264, 3) := by decide +kernel
set_option maxRecDepth 100000 in
theorem dA_passes_107 : decode bA_passes 107 = .ok (.iconst 1, 1) := by decide +kernel
set_option maxRecDepth 100000 in
theorem dA_passes_108 : decode bA_passes 108 = .ok (.if_icmp .ne 25, 3) := by decide +kernel
set_option maxRecDepth 100000 in
theorem dA_passes_111 : decode bA_passes 111 = .ok (.aload_n 0, 1) := by decide +kernel
set_option maxRecDepth 100000 in
theorem dA_passes_112 : decode bA_passes 112 = .ok (.getfield 43, 3) := by decide +kernel
set_option maxRecDepth 100000 in
theorem dA_passes_115 : decode bA_passes 115 = .ok (.aload_n 0, 1) := by decide +kernel
set_option maxRecDepth 100000 in
theorem dA_passes_116 : decode bA_passes 116 = .ok (.getfield 73, 3) := by decide +kernel
set_option maxRecDepth 100000 in
theorem dA_passes_119 : decode bA_passes 119 = .ok (.getfield 170, 3) := by decide +kernel
set_option maxRecDepth 100000 in
theorem dA_passes_122 : decode bA_passes 122 = .ok (.invokevirtual 338, 3) := by decide +kernel
set_option maxRecDepth 100000 in
theorem dA_passes_125 : decode bA_passes 125 = .ok (.iconst 1, 1) := by decide +kernel
set_option maxRecDepth 100000 in
theorem dA_passes_126 : decode bA_passes 126 = .ok (.if_icmp .ne 7, 3) := by decide +kernel
set_option maxRecDepth 100000 in
theorem dA_passes_129 : decode bA_passes 129 = .ok (.iconst 1, 1) := by decide +kernel
set_option maxRecDepth 100000 in
theorem dA_passes_130 : decode bA_passes 130 = .ok (.goto 4, 3) := by decide +kernel
set_option maxRecDepth 100000 in
theorem dA_passes_133 : decode bA_passes 133 = .ok (.iconst 0, 1) := by decide +kernel
set_option maxRecDepth 100000 in
theorem dA_passes_134 : decode bA_passes 134 = .ok (.ireturn, 1) := by decide +kernel
def fA_passes_60 (N : Nat) (σ : xS) : Option (Int32) :=
  if (σ.1 9 0 2) < (σ.1 0 0 15) then
  (some 0)
  else
  (some 1)
def fA_passes_100 (N : Nat) (σ : xS) : Option (Int32) :=
  if (σ.1 9 0 2) = 1 then
  (xp (fB_manyOf N σ (σ.1 17 16 0)) fun r9 =>
  if r9 = 1 then
  (some 1)
  else
  (some 0))
  else
  (some 0)
def fA_passes (N : Nat) (σ : xS) : Option (Int32) :=
  if (σ.1 0 0 14) = 0 then
  (if (σ.1 9 0 2) = (σ.1 0 0 15) then
  (some 1)
  else
  (some 0))
  else
  (if (σ.1 0 0 14) = 1 then
  (fA_passes_60 N σ)
  else
  (if (σ.1 0 0 14) = 2 then
  (if (σ.1 0 0 15) < (σ.1 9 0 2) then
  (some 0)
  else
  (some 1))
  else
  (if (σ.1 0 0 14) = 3 then
  (fA_passes_100 N σ)
  else
  (if (σ.1 0 0 14) = 4 then
  (fA_passes_60 N σ)
  else
  (fA_passes_100 N σ)))))
set_option maxHeartbeats 4000000 in
set_option maxRecDepth 100000 in
theorem wA_passes_60 {p : Program} {l : Launch} {e : Env} {R : Room} {s : State} {m : MethodId} {args : Array Value} {below : List Frame} {meth : Method} {c : Code} {E : xE} {A : Nat → Prop} {τ : yS} (C : xC p s m args meth c R E A bA_passes 1 yA_passes (some .boolean) 1 0 0) (N : Nat) (σ : xS) (res : Int32) (hf : fA_passes_60 N σ = some res) (H : Heap) (locs : List Loc) (ls : Array Slot) (hw : xW E A s σ τ H locs) (hl : lv_has ls 1 [(0, .ref (E.2.2.1 0 0))]) : W p l e R s m args below meth c H locs 0 0 (MQ below (xQ E A (some (.int res)) σ τ) args s 0 0 A) (F0 m 60 ls []) := by
  have hx := C.1
  have hb := C.2.1
  unfold fA_passes_60 at hf
  refine lv_aload_n hx hb dA_passes_60 rfl (lv_at hl 0 rfl) ?_
  refine x_get C hw 0 0 9 (v := .ref (E.2.2.1 9 0)) at_0 rfl rfl ⟨by decide, by decide⟩ wA_59 rfl dA_passes_61 ?_
  refine x_getN C hw 9 0 2 (v := .int (σ.1 9 0 2)) at_9 rfl rfl ⟨by decide, by decide⟩ wA_264 rfl dA_passes_64 ?_
  refine lv_aload_n hx hb dA_passes_67 rfl (lv_at hl 0 rfl) ?_
  refine x_get C hw 0 0 15 (v := .int (σ.1 0 0 15)) at_0 rfl rfl ⟨by decide, by decide⟩ wA_86 rfl dA_passes_68 ?_
  refine lv_icmp_lt (tgt := 78) hx hb dA_passes_71 (by decide) (fun c6 => ?_) (fun c6 => ?_)
  · replace hf := x_ip c6 hf
    refine lv_iconst (v := 0) hx hb dA_passes_78 (by decide) ?_
    obtain rfl := Option.some.inj hf
    exact x_zret C hw rfl dA_passes_79
  · replace hf := x_in c6 hf
    refine lv_iconst (v := 1) hx hb dA_passes_74 (by decide) ?_
    refine lv_goto (tgt := 79) hx hb dA_passes_75 (by decide) ?_
    obtain rfl := Option.some.inj hf
    exact x_zret C hw rfl dA_passes_79
set_option maxHeartbeats 4000000 in
set_option maxRecDepth 100000 in
theorem wA_passes_100 {p : Program} {l : Launch} {e : Env} {R : Room} {s : State} {m : MethodId} {args : Array Value} {below : List Frame} {meth : Method} {c : Code} {E : xE} {A : Nat → Prop} {τ : yS} (C : xC p s m args meth c R E A bA_passes 1 yA_passes (some .boolean) 1 0 0) (N : Nat) (σ : xS) (res : Int32) (hf : fA_passes_100 N σ = some res) (H : Heap) (locs : List Loc) (ls : Array Slot) (hw : xW E A s σ τ H locs) (hl : lv_has ls 1 [(0, .ref (E.2.2.1 0 0))]) : W p l e R s m args below meth c H locs 0 0 (MQ below (xQ E A (some (.int res)) σ τ) args s 0 0 A) (F0 m 100 ls []) := by
  have hx := C.1
  have hb := C.2.1
  unfold fA_passes_100 at hf
  refine lv_aload_n hx hb dA_passes_100 rfl (lv_at hl 0 rfl) ?_
  refine x_get C hw 0 0 9 (v := .ref (E.2.2.1 9 0)) at_0 rfl rfl ⟨by decide, by decide⟩ wA_59 rfl dA_passes_101 ?_
  refine x_getN C hw 9 0 2 (v := .int (σ.1 9 0 2)) at_9 rfl rfl ⟨by decide, by decide⟩ wA_264 rfl dA_passes_104 ?_
  refine lv_iconst (v := 1) hx hb dA_passes_107 (by decide) ?_
  refine lv_icmp_ne (tgt := 133) hx hb dA_passes_108 (by decide) (fun c7 => ?_) (fun c7 => ?_)
  · replace hf := x_in c7 hf
    refine lv_iconst (v := 0) hx hb dA_passes_133 (by decide) ?_
    obtain rfl := Option.some.inj hf
    exact x_zret C hw rfl dA_passes_134
  · replace hf := x_ip c7 hf
    refine lv_aload_n hx hb dA_passes_111 rfl (lv_at hl 0 rfl) ?_
    refine x_get C hw 0 0 6 (v := .ref (E.2.2.1 6 0)) at_0 rfl rfl ⟨by decide, by decide⟩ wA_43 rfl dA_passes_112 ?_
    refine lv_aload_n hx hb dA_passes_115 rfl (lv_at hl 0 rfl) ?_
    refine x_get C hw 0 0 11 (v := .ref (E.2.2.1 17 16)) at_0 rfl rfl ⟨by decide, by decide⟩ wA_73 rfl dA_passes_116 ?_
    refine x_getN C hw 17 16 0 (v := .int (σ.1 17 16 0)) (at_17 (by decide)) rfl rfl ⟨by decide, by decide⟩ wA_170 rfl dA_passes_119 ?_
    obtain ⟨r9, h8, hf⟩ := x_p hf
    refine x_callVN (As := [.int (σ.1 17 16 0)]) (rest := []) (st1 := [.int r9]) C hw (cB_manyOf l E N σ τ (σ.1 17 16 0) r9 h8) kA_338 (x_recv C hw 6 0 at_6 rfl rfl) (by decide) rfl rfl hl.1 (lv_room (Nat.le_of_ble_eq_true rfl)) dA_passes_122 ⟨by decide, by decide⟩ rfl (fun H locs hw => ?_)
    refine lv_iconst (v := 1) hx hb dA_passes_125 (by decide) ?_
    refine lv_icmp_ne (tgt := 133) hx hb dA_passes_126 (by decide) (fun c10 => ?_) (fun c10 => ?_)
    · replace hf := x_in c10 hf
      refine lv_iconst (v := 0) hx hb dA_passes_133 (by decide) ?_
      obtain rfl := Option.some.inj hf
      exact x_zret C hw rfl dA_passes_134
    · replace hf := x_ip c10 hf
      refine lv_iconst (v := 1) hx hb dA_passes_129 (by decide) ?_
      refine lv_goto (tgt := 134) hx hb dA_passes_130 (by decide) ?_
      obtain rfl := Option.some.inj hf
      exact x_zret C hw rfl dA_passes_134
set_option maxHeartbeats 4000000 in
set_option maxRecDepth 100000 in
theorem cA_passes (l : Launch) (E : xE) (N : Nat) (σ : xS) (τ : yS) (res : Int32) (hf : fA_passes N σ = some res) : xM l E yA_passes bA_passes 1 (some .boolean) 1 0 0 [.ref (E.2.2.1 0 0)] σ τ (some (.int res)) σ τ := by
  refine x_met (by decide) (Nat.le_of_ble_eq_true rfl) (fun p e R s m args below meth c A ls H locs C hw hl => ?_)
  have hl : lv_has ls 1 [(0, .ref (E.2.2.1 0 0))] := hl
  have hx := C.1
  have hb := C.2.1
  unfold fA_passes at hf
  refine lv_aload_n hx hb dA_passes_0 rfl (lv_at hl 0 rfl) ?_
  refine x_get C hw 0 0 14 (v := .int (σ.1 0 0 14)) at_0 rfl rfl ⟨by decide, by decide⟩ wA_83 rfl dA_passes_1 ?_
  by_cases c11 : (σ.1 0 0 14) = 0
  · replace hf := x_ip c11 hf
    refine lv_tableIn (tgt := 40) hx hb dA_passes_4 (by rw [c11]; decide) (by rw [c11]; decide) (by rw [c11]; rfl) (by decide) ?_
    refine lv_aload_n hx hb dA_passes_40 rfl (lv_at hl 0 rfl) ?_
    refine x_get C hw 0 0 9 (v := .ref (E.2.2.1 9 0)) at_0 rfl rfl ⟨by decide, by decide⟩ wA_59 rfl dA_passes_41 ?_
    refine x_getN C hw 9 0 2 (v := .int (σ.1 9 0 2)) at_9 rfl rfl ⟨by decide, by decide⟩ wA_264 rfl dA_passes_44 ?_
    refine lv_aload_n hx hb dA_passes_47 rfl (lv_at hl 0 rfl) ?_
    refine x_get C hw 0 0 15 (v := .int (σ.1 0 0 15)) at_0 rfl rfl ⟨by decide, by decide⟩ wA_86 rfl dA_passes_48 ?_
    refine lv_icmp_ne (tgt := 58) hx hb dA_passes_51 (by decide) (fun c12 => ?_) (fun c12 => ?_)
    · replace hf := x_in c12 hf
      refine lv_iconst (v := 0) hx hb dA_passes_58 (by decide) ?_
      obtain rfl := Option.some.inj hf
      exact x_zret C hw rfl dA_passes_59
    · replace hf := x_ip c12 hf
      refine lv_iconst (v := 1) hx hb dA_passes_54 (by decide) ?_
      refine lv_goto (tgt := 59) hx hb dA_passes_55 (by decide) ?_
      obtain rfl := Option.some.inj hf
      exact x_zret C hw rfl dA_passes_59
  · replace hf := x_in c11 hf
    by_cases c13 : (σ.1 0 0 14) = 1
    · replace hf := x_ip c13 hf
      refine lv_tableIn (tgt := 60) hx hb dA_passes_4 (by rw [c13]; decide) (by rw [c13]; decide) (by rw [c13]; rfl) (by decide) ?_
      exact wA_passes_60 C N σ res hf H locs ls hw (lv_sub hl [0] rfl)
    · replace hf := x_in c13 hf
      by_cases c14 : (σ.1 0 0 14) = 2
      · replace hf := x_ip c14 hf
        refine lv_tableIn (tgt := 80) hx hb dA_passes_4 (by rw [c14]; decide) (by rw [c14]; decide) (by rw [c14]; rfl) (by decide) ?_
        refine lv_aload_n hx hb dA_passes_80 rfl (lv_at hl 0 rfl) ?_
        refine x_get C hw 0 0 9 (v := .ref (E.2.2.1 9 0)) at_0 rfl rfl ⟨by decide, by decide⟩ wA_59 rfl dA_passes_81 ?_
        refine x_getN C hw 9 0 2 (v := .int (σ.1 9 0 2)) at_9 rfl rfl ⟨by decide, by decide⟩ wA_264 rfl dA_passes_84 ?_
        refine lv_aload_n hx hb dA_passes_87 rfl (lv_at hl 0 rfl) ?_
        refine x_get C hw 0 0 15 (v := .int (σ.1 0 0 15)) at_0 rfl rfl ⟨by decide, by decide⟩ wA_86 rfl dA_passes_88 ?_
        refine lv_icmp_gt (tgt := 98) hx hb dA_passes_91 (by decide) (fun c15 => ?_) (fun c15 => ?_)
        · replace hf := x_ip c15 hf
          refine lv_iconst (v := 0) hx hb dA_passes_98 (by decide) ?_
          obtain rfl := Option.some.inj hf
          exact x_zret C hw rfl dA_passes_99
        · replace hf := x_in c15 hf
          refine lv_iconst (v := 1) hx hb dA_passes_94 (by decide) ?_
          refine lv_goto (tgt := 99) hx hb dA_passes_95 (by decide) ?_
          obtain rfl := Option.some.inj hf
          exact x_zret C hw rfl dA_passes_99
      · replace hf := x_in c14 hf
        by_cases c16 : (σ.1 0 0 14) = 3
        · replace hf := x_ip c16 hf
          refine lv_tableIn (tgt := 100) hx hb dA_passes_4 (by rw [c16]; decide) (by rw [c16]; decide) (by rw [c16]; rfl) (by decide) ?_
          exact wA_passes_100 C N σ res hf H locs ls hw (lv_sub hl [0] rfl)
        · replace hf := x_in c16 hf
          by_cases c17 : (σ.1 0 0 14) = 4
          · replace hf := x_ip c17 hf
            refine lv_tableIn (tgt := 60) hx hb dA_passes_4 (by rw [c17]; decide) (by rw [c17]; decide) (by rw [c17]; rfl) (by decide) ?_
            exact wA_passes_60 C N σ res hf H locs ls hw (lv_sub hl [0] rfl)
          · replace hf := x_in c17 hf
            refine lv_tableOut (tgt := 100) hx hb dA_passes_4 (by have nc11 := lv_neT c11 (a := 0) (by decide); have nc13 := lv_neT c13 (a := 1) (by decide); have nc14 := lv_neT c14 (a := 2) (by decide); have nc16 := lv_neT c16 (a := 3) (by decide); have nc17 := lv_neT c17 (a := 4) (by decide); omega) (by decide) ?_
            exact wA_passes_100 C N σ res hf H locs ls hw (lv_sub hl [0] rfl)
-- StandIns$Matcher isCatch (LStandIns$Matcher;)Z
set_option maxRecDepth 100000 in
theorem dH_isCatch_0 : decode bH_isCatch 0 = .ok (.aload_n 0, 1) := by decide +kernel
set_option maxRecDepth 100000 in
theorem dH_isCatch_1 : decode bH_isCatch 1 = .ok (.ifnull 16, 3) := by decide +kernel
set_option maxRecDepth 100000 in
theorem dH_isCatch_4 : decode bH_isCatch 4 = .ok (.aload_n 0, 1) := by decide +kernel
set_option maxRecDepth 100000 in
theorem dH_isCatch_5 : decode bH_isCatch 5 = .ok (.getfield 9, 3) := by decide +kernel
set_option maxRecDepth 100000 in
theorem dH_isCatch_8 : decode bH_isCatch 8 = .ok (.bipush 7, 2) := by decide +kernel
set_option maxRecDepth 100000 in
theorem dH_isCatch_10 : decode bH_isCatch 10 = .ok (.if_icmp .ne 7, 3) := by decide +kernel
set_option maxRecDepth 100000 in
theorem dH_isCatch_13 : decode bH_isCatch 13 = .ok (.iconst 1, 1) := by decide +kernel
set_option maxRecDepth 100000 in
theorem dH_isCatch_14 : decode bH_isCatch 14 = .ok (.goto 4, 3) := by decide +kernel
set_option maxRecDepth 100000 in
theorem dH_isCatch_17 : decode bH_isCatch 17 = .ok (.iconst 0, 1) := by decide +kernel
set_option maxRecDepth 100000 in
theorem dH_isCatch_18 : decode bH_isCatch 18 = .ok (.ireturn, 1) := by decide +kernel
def fH_isCatch (σ : xS) (o0 : Option Nat) : Option (Int32) :=
  if o0 = none then
  (some 0)
  else
  (xp (xd σ.2.2.1 o0) fun q2 =>
  if (σ.1 21 q2 0) = 7 then
  (some 1)
  else
  (some 0))
set_option maxHeartbeats 4000000 in
set_option maxRecDepth 100000 in
theorem cH_isCatch (l : Launch) (E : xE) (σ : xS) (τ : yS) (o0 : Option Nat) (res : Int32) (hf : fH_isCatch σ o0 = some res) : xM l E yH_isCatch bH_isCatch 1 (some .boolean) 0 0 0 [va_rf o0] σ τ (some (.int res)) σ τ := by
  refine x_met (by decide) (by simp [lg_sl, x_cat, x_cati, x_catr, x_catl]) (fun p e R s m args below meth c A ls H locs C hw hl => ?_)
  have hl : lv_has ls 1 [(0, va_rf o0)] := by simpa [lv_args, x_cat, x_cati, x_catr, x_catl] using hl
  have hx := C.1
  have hb := C.2.1
  unfold fH_isCatch at hf
  refine x_aload_n hx hb dH_isCatch_0 rfl (lv_at hl 0 rfl) ?_
  refine x_ifnull (tgt := 17) hx hb dH_isCatch_1 (by decide) (fun c1 => ?_) (fun c1 => ?_)
  · replace hf := x_ip c1 hf
    refine lv_iconst (v := 0) hx hb dH_isCatch_17 (by decide) ?_
    obtain rfl := Option.some.inj hf
    exact x_zret C hw rfl dH_isCatch_18
  · replace hf := x_in c1 hf
    refine x_aload_n hx hb dH_isCatch_4 rfl (lv_at hl 0 rfl) ?_
    obtain ⟨q2, eq2, hf⟩ := x_p hf
    refine x_getM C hw eq2 0 (v := .int (σ.1 21 q2 0)) (by decide) wH_9 rfl dH_isCatch_5 ?_
    refine lv_bipush (v := 7) hx hb dH_isCatch_8 (by decide) ?_
    refine lv_icmp_ne (tgt := 17) hx hb dH_isCatch_10 (by decide) (fun c3 => ?_) (fun c3 => ?_)
    · replace hf := x_in c3 hf
      refine lv_iconst (v := 0) hx hb dH_isCatch_17 (by decide) ?_
      obtain rfl := Option.some.inj hf
      exact x_zret C hw rfl dH_isCatch_18
    · replace hf := x_ip c3 hf
      refine lv_iconst (v := 1) hx hb dH_isCatch_13 (by decide) ?_
      refine lv_goto (tgt := 18) hx hb dH_isCatch_14 (by decide) ?_
      obtain rfl := Option.some.inj hf
      exact x_zret C hw rfl dH_isCatch_18
-- StandIns$Catches add (I)V
set_option maxRecDepth 100000 in
theorem dC_add_0 : decode bC_add 0 = .ok (.aload_n 0, 1) := by decide +kernel
set_option maxRecDepth 100000 in
theorem dC_add_1 : decode bC_add 1 = .ok (.getfield 9, 3) := by decide +kernel
set_option maxRecDepth 100000 in
theorem dC_add_4 : decode bC_add 4 = .ok (.aload_n 0, 1) := by decide +kernel
set_option maxRecDepth 100000 in
theorem dC_add_5 : decode bC_add 5 = .ok (.getfield 15, 3) := by decide +kernel
set_option maxRecDepth 100000 in
theorem dC_add_8 : decode bC_add 8 = .ok (.iload_n 1, 1) := by decide +kernel
set_option maxRecDepth 100000 in
theorem dC_add_9 : decode bC_add 9 = .ok (.iastore, 1) := by decide +kernel
set_option maxRecDepth 100000 in
theorem dC_add_10 : decode bC_add 10 = .ok (.aload_n 0, 1) := by decide +kernel
set_option maxRecDepth 100000 in
theorem dC_add_11 : decode bC_add 11 = .ok (.aload_n 0, 1) := by decide +kernel
set_option maxRecDepth 100000 in
theorem dC_add_12 : decode bC_add 12 = .ok (.getfield 15, 3) := by decide +kernel
set_option maxRecDepth 100000 in
theorem dC_add_15 : decode bC_add 15 = .ok (.iconst 1, 1) := by decide +kernel
set_option maxRecDepth 100000 in
theorem dC_add_16 : decode bC_add 16 = .ok (.iadd, 1) := by decide +kernel
set_option maxRecDepth 100000 in
theorem dC_add_17 : decode bC_add 17 = .ok (.bipush 12, 2) := by decide +kernel
set_option maxRecDepth 100000 in
theorem dC_add_19 : decode bC_add 19 = .ok (.if_icmp .ge 12, 3) := by decide +kernel
set_option maxRecDepth 100000 in
theorem dC_add_22 : decode bC_add 22 = .ok (.aload_n 0, 1) := by decide +kernel
set_option maxRecDepth 100000 in
theorem dC_add_23 : decode bC_add 23 = .ok (.getfield 15, 3) := by decide +kernel
set_option maxRecDepth 100000 in
theorem dC_add_26 : decode bC_add 26 = .ok (.iconst 1, 1) := by decide +kernel
set_option maxRecDepth 100000 in
theorem dC_add_27 : decode bC_add 27 = .ok (.iadd, 1) := by decide +kernel
set_option maxRecDepth 100000 in
theorem dC_add_28 : decode bC_add 28 = .ok (.goto 4, 3) := by decide +kernel
set_option maxRecDepth 100000 in
theorem dC_add_31 : decode bC_add 31 = .ok (.iconst 0, 1) := by decide +kernel
set_option maxRecDepth 100000 in
theorem dC_add_32 : decode bC_add 32 = .ok (.putfield 15, 3) := by decide +kernel
set_option maxRecDepth 100000 in
theorem dC_add_35 : decode bC_add 35 = .ok (.aload_n 0, 1) := by decide +kernel
set_option maxRecDepth 100000 in
theorem dC_add_36 : decode bC_add 36 = .ok (.aload_n 0, 1) := by decide +kernel
set_option maxRecDepth 100000 in
theorem dC_add_37 : decode bC_add 37 = .ok (.getfield 19, 3) := by decide +kernel
set_option maxRecDepth 100000 in
theorem dC_add_40 : decode bC_add 40 = .ok (.iconst 1, 1) := by decide +kernel
set_option maxRecDepth 100000 in
theorem dC_add_41 : decode bC_add 41 = .ok (.iadd, 1) := by decide +kernel
set_option maxRecDepth 100000 in
theorem dC_add_42 : decode bC_add 42 = .ok (.bipush 12, 2) := by decide +kernel
set_option maxRecDepth 100000 in
theorem dC_add_44 : decode bC_add 44 = .ok (.invokestatic 25, 3) := by decide +kernel
set_option maxRecDepth 100000 in
theorem dC_add_47 : decode bC_add 47 = .ok (.putfield 19, 3) := by decide +kernel
set_option maxRecDepth 100000 in
theorem dC_add_50 : decode bC_add 50 = .ok (.aload_n 0, 1) := by decide +kernel
set_option maxRecDepth 100000 in
theorem dC_add_51 : decode bC_add 51 = .ok (.dup, 1) := by decide +kernel
set_option maxRecDepth 100000 in
theorem dC_add_52 : decode bC_add 52 = .ok (.getfield 22, 3) := by decide +kernel
set_option maxRecDepth 100000 in
theorem dC_add_55 : decode bC_add 55 = .ok (.iconst 1, 1) := by decide +kernel
set_option maxRecDepth 100000 in
theorem dC_add_56 : decode bC_add 56 = .ok (.iadd, 1) := by decide +kernel
set_option maxRecDepth 100000 in
theorem dC_add_57 : decode bC_add 57 = .ok (.putfield 22, 3) := by decide +kernel
set_option maxRecDepth 100000 in
theorem dC_add_60 : decode bC_add 60 = .ok (.return_, 1) := by decide +kernel
def fC_add_32 (σ : xS) (t0 : Int32) : Option (xS) :=
  xl (x_si σ 12 0 1 t0) fun s4 =>
  xl (x_si s4 12 0 2 (if 12 < ((s4.1 12 0 2) + 1) then 12 else (s4.1 12 0 2) + 1)) fun s5 =>
  xl (x_si s5 12 0 3 ((s5.1 12 0 3) + 1)) fun s6 =>
  some s6
def fC_add (σ : xS) (a1 : Int32) : Option (xS) :=
  if ¬ ((σ.1 12 0 1) < 0 ∨ 12 ≤ (σ.1 12 0 1).toNatClampNeg) then
  xl (x_si σ 13 0 ((σ.1 12 0 1).toNatClampNeg) a1) fun s8 =>
  if 12 ≤ ((s8.1 12 0 1) + 1) then
  (fC_add_32 s8 0)
  else
  (fC_add_32 s8 ((s8.1 12 0 1) + 1))
  else none
set_option maxHeartbeats 4000000 in
set_option maxRecDepth 100000 in
theorem wC_add_32 {p : Program} {l : Launch} {e : Env} {R : Room} {s : State} {m : MethodId} {args : Array Value} {below : List Frame} {meth : Method} {c : Code} {E : xE} {A : Nat → Prop} {τ : yS} (C : xC p s m args meth c R E A bC_add 2 yC_add none 1 0 0) (σ : xS) (t0 : Int32) (res : xS) (hf : fC_add_32 σ t0 = some res) (H : Heap) (locs : List Loc) (ls : Array Slot) (hw : xW E A s σ τ H locs) (hl : lv_has ls 2 [(0, .ref (E.2.2.1 12 0))]) : W p l e R s m args below meth c H locs 0 0 (MQ below (xQ E A none res τ) args s 0 0 A) (F0 m 32 ls [.int t0, .ref (E.2.2.1 12 0)]) := by
  have hx := C.1
  have hb := C.2.1
  unfold fC_add_32 at hf
  refine x_puti C hw 12 0 1 at_12 rfl rfl rfl ⟨rfl, rfl⟩ ⟨by decide, by decide⟩ (Nat.le_of_ble_eq_true rfl) wC_15 dC_add_32 (fun H locs hw => ?_)
  obtain ⟨s4, es4, hf⟩ := x_l hf
  rw [← es4] at hw
  refine lv_aload_n hx hb dC_add_35 rfl (lv_at hl 0 rfl) ?_
  refine lv_aload_n hx hb dC_add_36 rfl (lv_at hl 0 rfl) ?_
  refine x_get C hw 12 0 2 (v := .int (s4.1 12 0 2)) at_12 rfl rfl ⟨by decide, by decide⟩ wC_19 rfl dC_add_37 ?_
  refine lv_iconst (v := 1) hx hb dC_add_40 (by decide) ?_
  refine lv_iadd hx hb dC_add_41 ?_
  refine lv_bipush (v := 12) hx hb dC_add_42 (by decide) ?_
  refine x_mmin C hl wC_25 dC_add_44 ?_
  refine x_puti C hw 12 0 2 at_12 rfl rfl rfl ⟨rfl, rfl⟩ ⟨by decide, by decide⟩ (Nat.le_of_ble_eq_true rfl) wC_19 dC_add_47 (fun H locs hw => ?_)
  obtain ⟨s5, es5, hf⟩ := x_l hf
  rw [← es5] at hw
  refine lv_aload_n hx hb dC_add_50 rfl (lv_at hl 0 rfl) ?_
  refine lv_dup hx hb dC_add_51 rfl ?_
  refine x_get C hw 12 0 3 (v := .int (s5.1 12 0 3)) at_12 rfl rfl ⟨by decide, by decide⟩ wC_22 rfl dC_add_52 ?_
  refine lv_iconst (v := 1) hx hb dC_add_55 (by decide) ?_
  refine lv_iadd hx hb dC_add_56 ?_
  refine x_puti C hw 12 0 3 at_12 rfl rfl rfl ⟨rfl, rfl⟩ ⟨by decide, by decide⟩ (Nat.le_of_ble_eq_true rfl) wC_22 dC_add_57 (fun H locs hw => ?_)
  obtain ⟨s6, es6, hf⟩ := x_l hf
  rw [← es6] at hw
  obtain rfl := Option.some.inj hf
  exact x_vret C hw dC_add_60
set_option maxHeartbeats 4000000 in
set_option maxRecDepth 100000 in
theorem cC_add (l : Launch) (E : xE) (σ : xS) (τ : yS) (a1 : Int32) (res : xS) (hf : fC_add σ a1 = some res) : xM l E yC_add bC_add 2 none 1 0 0 [.ref (E.2.2.1 12 0), .int a1] σ τ none res τ := by
  refine x_met (by decide) (Nat.le_of_ble_eq_true rfl) (fun p e R s m args below meth c A ls H locs C hw hl => ?_)
  have hl : lv_has ls 2 [(0, .ref (E.2.2.1 12 0)), (1, .int a1)] := hl
  have hx := C.1
  have hb := C.2.1
  unfold fC_add at hf
  refine lv_aload_n hx hb dC_add_0 rfl (lv_at hl 0 rfl) ?_
  refine x_get C hw 12 0 0 (v := .ref (E.2.2.1 13 0)) at_12 rfl rfl ⟨by decide, by decide⟩ wC_9 rfl dC_add_1 ?_
  refine lv_aload_n hx hb dC_add_4 rfl (lv_at hl 0 rfl) ?_
  refine x_get C hw 12 0 1 (v := .int (σ.1 12 0 1)) at_12 rfl rfl ⟨by decide, by decide⟩ wC_15 rfl dC_add_5 ?_
  refine lv_iload_n hx hb dC_add_8 rfl (lv_at hl 1 rfl) ?_
  obtain ⟨g7, hf⟩ := x_g hf
  refine x_ist C hw 13 0 at_13 rfl rfl g7 dC_add_9 (fun H locs hw => ?_)
  obtain ⟨s8, es8, hf⟩ := x_l hf
  rw [← es8] at hw
  refine lv_aload_n hx hb dC_add_10 rfl (lv_at hl 0 rfl) ?_
  refine lv_aload_n hx hb dC_add_11 rfl (lv_at hl 0 rfl) ?_
  refine x_get C hw 12 0 1 (v := .int (s8.1 12 0 1)) at_12 rfl rfl ⟨by decide, by decide⟩ wC_15 rfl dC_add_12 ?_
  refine lv_iconst (v := 1) hx hb dC_add_15 (by decide) ?_
  refine lv_iadd hx hb dC_add_16 ?_
  refine lv_bipush (v := 12) hx hb dC_add_17 (by decide) ?_
  refine lv_icmp_ge (tgt := 31) hx hb dC_add_19 (by decide) (fun c9 => ?_) (fun c9 => ?_)
  · replace hf := x_ip c9 hf
    refine lv_iconst (v := 0) hx hb dC_add_31 (by decide) ?_
    exact wC_add_32 C s8 0 res hf H locs ls hw (lv_sub hl [0] rfl)
  · replace hf := x_in c9 hf
    refine lv_aload_n hx hb dC_add_22 rfl (lv_at hl 0 rfl) ?_
    refine x_get C hw 12 0 1 (v := .int (s8.1 12 0 1)) at_12 rfl rfl ⟨by decide, by decide⟩ wC_15 rfl dC_add_23 ?_
    refine lv_iconst (v := 1) hx hb dC_add_26 (by decide) ?_
    refine lv_iadd hx hb dC_add_27 ?_
    refine lv_goto (tgt := 32) hx hb dC_add_28 (by decide) ?_
    exact wC_add_32 C s8 ((s8.1 12 0 1) + 1) res hf H locs ls hw (lv_sub hl [0] rfl)
-- StandIns seeAndCatch ()V
set_option maxRecDepth 100000 in
theorem dA_seeAndCatch_0 : decode bA_seeAndCatch 0 = .ok (.iconst 0, 1) := by decide +kernel
set_option maxRecDepth 100000 in
theorem dA_seeAndCatch_1 : decode bA_seeAndCatch 1 = .ok (.istore_n 1, 1) := by decide +kernel
set_option maxRecDepth 100000 in
theorem dA_seeAndCatch_2 : decode bA_seeAndCatch 2 = .ok (.iload_n 1, 1) := by decide +kernel
set_option maxRecDepth 100000 in
theorem dA_seeAndCatch_3 : decode bA_seeAndCatch 3 = .ok (.aload_n 0, 1) := by decide +kernel
set_option maxRecDepth 100000 in
theorem dA_seeAndCatch_4 : decode bA_seeAndCatch 4 = .ok (.getfield 59, 3) := by decide +kernel
set_option maxRecDepth 100000 in
theorem dA_seeAndCatch_7 : decode bA_seeAndCatch 7 = .ok (.getfield 264, 3) := by decide +kernel
set_option maxRecDepth 100000 in
theorem dA_seeAndCatch_10 : decode bA_seeAndCatch 10 = .ok (.if_icmp .ge 80, 3) := by decide +kernel
set_option maxRecDepth 100000 in
theorem dA_seeAndCatch_13 : decode bA_seeAndCatch 13 = .ok (.aload_n 0, 1) := by decide +kernel
set_option maxRecDepth 100000 in
theorem dA_seeAndCatch_14 : decode bA_seeAndCatch 14 = .ok (.getfield 43, 3) := by decide +kernel
set_option maxRecDepth 100000 in
theorem dA_seeAndCatch_17 : decode bA_seeAndCatch 17 = .ok (.getfield 226, 3) := by decide +kernel
set_option maxRecDepth 100000 in
theorem dA_seeAndCatch_20 : decode bA_seeAndCatch 20 = .ok (.aload_n 0, 1) := by decide +kernel
set_option maxRecDepth 100000 in
theorem dA_seeAndCatch_21 : decode bA_seeAndCatch 21 = .ok (.getfield 59, 3) := by decide +kernel
set_option maxRecDepth 100000 in
theorem dA_seeAndCatch_24 : decode bA_seeAndCatch 24 = .ok (.getfield 341, 3) := by decide +kernel
set_option maxRecDepth 100000 in
theorem dA_seeAndCatch_27 : decode bA_seeAndCatch 27 = .ok (.iload_n 1, 1) := by decide +kernel
set_option maxRecDepth 100000 in
theorem dA_seeAndCatch_28 : decode bA_seeAndCatch 28 = .ok (.iaload, 1) := by decide +kernel
set_option maxRecDepth 100000 in
theorem dA_seeAndCatch_29 : decode bA_seeAndCatch 29 = .ok (.aaload, 1) := by decide +kernel
set_option maxRecDepth 100000 in
theorem dA_seeAndCatch_30 : decode bA_seeAndCatch 30 = .ok (.astore_n 2, 1) := by decide +kernel
set_option maxRecDepth 100000 in
theorem dA_seeAndCatch_31 : decode bA_seeAndCatch 31 = .ok (.aload_n 2, 1) := by decide +kernel
set_option maxRecDepth 100000 in
theorem dA_seeAndCatch_32 : decode bA_seeAndCatch 32 = .ok (.iconst 1, 1) := by decide +kernel
set_option maxRecDepth 100000 in
theorem dA_seeAndCatch_33 : decode bA_seeAndCatch 33 = .ok (.putfield 243, 3) := by decide +kernel
set_option maxRecDepth 100000 in
theorem dA_seeAndCatch_36 : decode bA_seeAndCatch 36 = .ok (.aload_n 0, 1) := by decide +kernel
set_option maxRecDepth 100000 in
theorem dA_seeAndCatch_37 : decode bA_seeAndCatch 37 = .ok (.getfield 73, 3) := by decide +kernel
set_option maxRecDepth 100000 in
theorem dA_seeAndCatch_40 : decode bA_seeAndCatch 40 = .ok (.getfield 180, 3) := by decide +kernel
set_option maxRecDepth 100000 in
theorem dA_seeAndCatch_43 : decode bA_seeAndCatch 43 = .ok (.invokestatic 344, 3) := by decide +kernel
set_option maxRecDepth 100000 in
theorem dA_seeAndCatch_46 : decode bA_seeAndCatch 46 = .ok (.ifCond .eq 14, 3) := by decide +kernel
set_option maxRecDepth 100000 in
theorem dA_seeAndCatch_49 : decode bA_seeAndCatch 49 = .ok (.aload_n 0, 1) := by decide +kernel
set_option maxRecDepth 100000 in
theorem dA_seeAndCatch_50 : decode bA_seeAndCatch 50 = .ok (.getfield 66, 3) := by decide +kernel
set_option maxRecDepth 100000 in
theorem dA_seeAndCatch_53 : decode bA_seeAndCatch 53 = .ok (.aload_n 2, 1) := by decide +kernel
set_option maxRecDepth 100000 in
theorem dA_seeAndCatch_54 : decode bA_seeAndCatch 54 = .ok (.getfield 237, 3) := by decide +kernel
set_option maxRecDepth 100000 in
theorem dA_seeAndCatch_57 : decode bA_seeAndCatch 57 = .ok (.invokevirtual 348, 3) := by decide +kernel
set_option maxRecDepth 100000 in
theorem dA_seeAndCatch_60 : decode bA_seeAndCatch 60 = .ok (.aload_n 0, 1) := by decide +kernel
set_option maxRecDepth 100000 in
theorem dA_seeAndCatch_61 : decode bA_seeAndCatch 61 = .ok (.getfield 73, 3) := by decide +kernel
set_option maxRecDepth 100000 in
theorem dA_seeAndCatch_64 : decode bA_seeAndCatch 64 = .ok (.getfield 184, 3) := by decide +kernel
set_option maxRecDepth 100000 in
theorem dA_seeAndCatch_67 : decode bA_seeAndCatch 67 = .ok (.invokestatic 344, 3) := by decide +kernel
set_option maxRecDepth 100000 in
theorem dA_seeAndCatch_70 : decode bA_seeAndCatch 70 = .ok (.ifCond .eq 14, 3) := by decide +kernel
set_option maxRecDepth 100000 in
theorem dA_seeAndCatch_73 : decode bA_seeAndCatch 73 = .ok (.aload_n 0, 1) := by decide +kernel
set_option maxRecDepth 100000 in
theorem dA_seeAndCatch_74 : decode bA_seeAndCatch 74 = .ok (.getfield 66, 3) := by decide +kernel
set_option maxRecDepth 100000 in
theorem dA_seeAndCatch_77 : decode bA_seeAndCatch 77 = .ok (.aload_n 2, 1) := by decide +kernel
set_option maxRecDepth 100000 in
theorem dA_seeAndCatch_78 : decode bA_seeAndCatch 78 = .ok (.getfield 240, 3) := by decide +kernel
set_option maxRecDepth 100000 in
theorem dA_seeAndCatch_81 : decode bA_seeAndCatch 81 = .ok (.invokevirtual 348, 3) := by decide +kernel
set_option maxRecDepth 100000 in
theorem dA_seeAndCatch_84 : decode bA_seeAndCatch 84 = .ok (.iinc 1 1, 3) := by decide +kernel
set_option maxRecDepth 100000 in
theorem dA_seeAndCatch_87 : decode bA_seeAndCatch 87 = .ok (.goto (-85), 3) := by decide +kernel
set_option maxRecDepth 100000 in
theorem dA_seeAndCatch_90 : decode bA_seeAndCatch 90 = .ok (.return_, 1) := by decide +kernel
def fA_seeAndCatch_84 (N : Nat) (rec2 : xS → Int32 → Option (xS)) (σ : xS) (a1 : Int32) : Option (xS) :=
  rec2 σ (a1 + 1)
def fA_seeAndCatch_60 (N : Nat) (rec2 : xS → Int32 → Option (xS)) (σ : xS) (a1 : Int32) (k2 : Nat) : Option (xS) :=
  xp (fH_isCatch σ (σ.2.1 17 16 3)) fun r18 =>
  if r18 = 0 then
  (fA_seeAndCatch_84 N rec2 σ a1)
  else
  (if k2 < 40 then
  xp (fC_add σ (σ.1 15 k2 4)) fun s22 =>
  fA_seeAndCatch_84 N rec2 s22 a1
  else none)
def fA_seeAndCatch_2b (N : Nat) (rec2 : xS → Int32 → Option (xS)) (σ : xS) (a1 : Int32) : Option (xS) :=
  if (σ.1 9 0 2) ≤ a1 then
  (some σ)
  else
  (if ¬ (a1 < 0 ∨ 40 ≤ a1.toNatClampNeg) then
  if ¬ ((σ.1 10 0 a1.toNatClampNeg) < 0 ∨ 40 ≤ (σ.1 10 0 a1.toNatClampNeg).toNatClampNeg) then
  xl (x_si σ 15 ((σ.1 10 0 a1.toNatClampNeg).toNatClampNeg) 5 1) fun s27 =>
  xp (fH_isCatch s27 (s27.2.1 17 16 2)) fun r29 =>
  if r29 = 0 then
  (fA_seeAndCatch_60 N rec2 s27 a1 ((σ.1 10 0 a1.toNatClampNeg).toNatClampNeg))
  else
  (xp (fC_add s27 (s27.1 15 ((σ.1 10 0 a1.toNatClampNeg).toNatClampNeg) 3)) fun s32 =>
  fA_seeAndCatch_60 N rec2 s32 a1 ((σ.1 10 0 a1.toNatClampNeg).toNatClampNeg))
  else none
  else none)
def fA_seeAndCatch_2 (N : Nat) : Nat → xS → Int32 → Option (xS)
  | 0, _, _ => none
  | n + 1, σ, a1 => fA_seeAndCatch_2b N (fA_seeAndCatch_2 N n) σ a1
def fA_seeAndCatch (N : Nat) (σ : xS) : Option (xS) :=
  fA_seeAndCatch_2 N N σ 0
set_option maxHeartbeats 4000000 in
set_option maxRecDepth 100000 in
theorem wA_seeAndCatch_84 {p : Program} {l : Launch} {e : Env} {R : Room} {s : State} {m : MethodId} {args : Array Value} {below : List Frame} {meth : Method} {c : Code} {E : xE} {A : Nat → Prop} {τ : yS} (C : xC p s m args meth c R E A bA_seeAndCatch 3 yA_seeAndCatch none 2 0 0) (N : Nat) (σ : xS) (rec2 : xS → Int32 → Option (xS)) (hrec2 : ∀ (σ : xS) (a1 : Int32) (res : xS), rec2 σ a1 = some res → ∀ (H : Heap) (locs : List Loc) (ls : Array Slot), xW E A s σ τ H locs → lv_has ls 3 [(0, .ref (E.2.2.1 0 0)), (1, .int a1)] → W p l e R s m args below meth c H locs 0 0 (MQ below (xQ E A none res τ) args s 0 0 A) (F0 m 2 ls [])) (a1 : Int32) (res : xS) (hf : fA_seeAndCatch_84 N rec2 σ a1 = some res) (H : Heap) (locs : List Loc) (ls : Array Slot) (hw : xW E A s σ τ H locs) (hl : lv_has ls 3 [(0, .ref (E.2.2.1 0 0)), (1, .int a1)]) : W p l e R s m args below meth c H locs 0 0 (MQ below (xQ E A none res τ) args s 0 0 A) (F0 m 84 ls []) := by
  have hx := C.1
  have hb := C.2.1
  unfold fA_seeAndCatch_84 at hf
  refine lv_iinc (v := a1 + 1) (lv' := [(1, .int (a1 + 1)), (0, .ref (E.2.2.1 0 0))]) hx hb dA_seeAndCatch_84 hl (k := 1) rfl rfl (by decide) rfl (fun ls hl => ?_)
  refine lv_goto (tgt := 2) hx hb dA_seeAndCatch_87 (by decide) ?_
  exact hrec2 σ (a1 + 1) res hf H locs ls hw (lv_sub hl [1, 0] rfl)
set_option maxHeartbeats 4000000 in
set_option maxRecDepth 100000 in
theorem wA_seeAndCatch_60 {p : Program} {l : Launch} {e : Env} {R : Room} {s : State} {m : MethodId} {args : Array Value} {below : List Frame} {meth : Method} {c : Code} {E : xE} {A : Nat → Prop} {τ : yS} (C : xC p s m args meth c R E A bA_seeAndCatch 3 yA_seeAndCatch none 2 0 0) (N : Nat) (σ : xS) (rec2 : xS → Int32 → Option (xS)) (hrec2 : ∀ (σ : xS) (a1 : Int32) (res : xS), rec2 σ a1 = some res → ∀ (H : Heap) (locs : List Loc) (ls : Array Slot), xW E A s σ τ H locs → lv_has ls 3 [(0, .ref (E.2.2.1 0 0)), (1, .int a1)] → W p l e R s m args below meth c H locs 0 0 (MQ below (xQ E A none res τ) args s 0 0 A) (F0 m 2 ls [])) (a1 : Int32) (k2 : Nat) (res : xS) (hf : fA_seeAndCatch_60 N rec2 σ a1 k2 = some res) (H : Heap) (locs : List Loc) (ls : Array Slot) (hw : xW E A s σ τ H locs) (hl : lv_has ls 3 [(0, .ref (E.2.2.1 0 0)), (1, .int a1), (2, .ref (E.2.2.1 15 k2))]) : W p l e R s m args below meth c H locs 0 0 (MQ below (xQ E A none res τ) args s 0 0 A) (F0 m 60 ls []) := by
  have hx := C.1
  have hb := C.2.1
  unfold fA_seeAndCatch_60 at hf
  refine lv_aload_n hx hb dA_seeAndCatch_60 rfl (lv_at hl 0 rfl) ?_
  refine x_get C hw 0 0 11 (v := .ref (E.2.2.1 17 16)) at_0 rfl rfl ⟨by decide, by decide⟩ wA_73 rfl dA_seeAndCatch_61 ?_
  refine x_getN C hw 17 16 3 (v := va_rf (σ.2.1 17 16 3)) (at_17 (by decide)) rfl rfl ⟨by decide, by decide⟩ wA_184 rfl dA_seeAndCatch_64 ?_
  obtain ⟨r18, h17, hf⟩ := x_p hf
  refine x_callSN (As := [va_rf (σ.2.1 17 16 3)]) (rest := []) (st1 := [.int r18]) C hw (cH_isCatch l E σ τ (σ.2.1 17 16 3) r18 h17) kA_344 (by decide) rfl rfl hl.1 (lv_room (Nat.le_of_ble_eq_true rfl)) dA_seeAndCatch_67 ⟨by decide, by decide⟩ rfl (fun H locs hw => ?_)
  refine lv_if_eq (tgt := 84) hx hb dA_seeAndCatch_70 (by decide) (fun c19 => ?_) (fun c19 => ?_)
  · replace hf := x_ip c19 hf
    exact wA_seeAndCatch_84 C N σ rec2 hrec2 a1 res hf H locs ls hw (lv_sub hl [0, 1] rfl)
  · replace hf := x_in c19 hf
    refine lv_aload_n hx hb dA_seeAndCatch_73 rfl (lv_at hl 0 rfl) ?_
    refine x_get C hw 0 0 10 (v := .ref (E.2.2.1 12 0)) at_0 rfl rfl ⟨by decide, by decide⟩ wA_66 rfl dA_seeAndCatch_74 ?_
    refine lv_aload_n hx hb dA_seeAndCatch_77 rfl (lv_at hl 2 rfl) ?_
    obtain ⟨g20, hf⟩ := x_g hf
    refine x_getN C hw 15 k2 4 (v := .int (σ.1 15 k2 4)) (at_15 g20) rfl rfl ⟨by decide, by decide⟩ wA_240 rfl dA_seeAndCatch_78 ?_
    obtain ⟨s22, h21, hf⟩ := x_p hf
    refine x_callVN (As := [.int (σ.1 15 k2 4)]) (rest := []) (st1 := []) C hw (cC_add l E σ τ (σ.1 15 k2 4) s22 h21) kA_348 (x_recv C hw 12 0 at_12 rfl rfl) (by decide) rfl rfl hl.1 (lv_room (Nat.le_of_ble_eq_true rfl)) dA_seeAndCatch_81 ⟨by decide, by decide⟩ rfl (fun H locs hw => ?_)
    exact wA_seeAndCatch_84 C N s22 rec2 hrec2 a1 res hf H locs ls hw (lv_sub hl [0, 1] rfl)
set_option maxHeartbeats 4000000 in
set_option maxRecDepth 100000 in
theorem wA_seeAndCatch_2b {p : Program} {l : Launch} {e : Env} {R : Room} {s : State} {m : MethodId} {args : Array Value} {below : List Frame} {meth : Method} {c : Code} {E : xE} {A : Nat → Prop} {τ : yS} (C : xC p s m args meth c R E A bA_seeAndCatch 3 yA_seeAndCatch none 2 0 0) (N : Nat) (σ : xS) (rec2 : xS → Int32 → Option (xS)) (hrec2 : ∀ (σ : xS) (a1 : Int32) (res : xS), rec2 σ a1 = some res → ∀ (H : Heap) (locs : List Loc) (ls : Array Slot), xW E A s σ τ H locs → lv_has ls 3 [(0, .ref (E.2.2.1 0 0)), (1, .int a1)] → W p l e R s m args below meth c H locs 0 0 (MQ below (xQ E A none res τ) args s 0 0 A) (F0 m 2 ls [])) (a1 : Int32) (res : xS) (hf : fA_seeAndCatch_2b N rec2 σ a1 = some res) (H : Heap) (locs : List Loc) (ls : Array Slot) (hw : xW E A s σ τ H locs) (hl : lv_has ls 3 [(0, .ref (E.2.2.1 0 0)), (1, .int a1)]) : W p l e R s m args below meth c H locs 0 0 (MQ below (xQ E A none res τ) args s 0 0 A) (F0 m 2 ls []) := by
  have hx := C.1
  have hb := C.2.1
  unfold fA_seeAndCatch_2b at hf
  refine lv_iload_n hx hb dA_seeAndCatch_2 rfl (lv_at hl 1 rfl) ?_
  refine lv_aload_n hx hb dA_seeAndCatch_3 rfl (lv_at hl 0 rfl) ?_
  refine x_get C hw 0 0 9 (v := .ref (E.2.2.1 9 0)) at_0 rfl rfl ⟨by decide, by decide⟩ wA_59 rfl dA_seeAndCatch_4 ?_
  refine x_getN C hw 9 0 2 (v := .int (σ.1 9 0 2)) at_9 rfl rfl ⟨by decide, by decide⟩ wA_264 rfl dA_seeAndCatch_7 ?_
  refine lv_icmp_ge (tgt := 90) hx hb dA_seeAndCatch_10 (by decide) (fun c23 => ?_) (fun c23 => ?_)
  · replace hf := x_ip c23 hf
    obtain rfl := Option.some.inj hf
    exact x_vret C hw dA_seeAndCatch_90
  · replace hf := x_in c23 hf
    refine lv_aload_n hx hb dA_seeAndCatch_13 rfl (lv_at hl 0 rfl) ?_
    refine x_get C hw 0 0 6 (v := .ref (E.2.2.1 6 0)) at_0 rfl rfl ⟨by decide, by decide⟩ wA_43 rfl dA_seeAndCatch_14 ?_
    refine x_getN C hw 6 0 0 (v := .ref (E.2.2.1 7 0)) at_6 rfl rfl ⟨by decide, by decide⟩ wA_226 rfl dA_seeAndCatch_17 ?_
    refine lv_aload_n hx hb dA_seeAndCatch_20 rfl (lv_at hl 0 rfl) ?_
    refine x_get C hw 0 0 9 (v := .ref (E.2.2.1 9 0)) at_0 rfl rfl ⟨by decide, by decide⟩ wA_59 rfl dA_seeAndCatch_21 ?_
    refine x_getN C hw 9 0 0 (v := .ref (E.2.2.1 10 0)) at_9 rfl rfl ⟨by decide, by decide⟩ wA_341 rfl dA_seeAndCatch_24 ?_
    refine lv_iload_n hx hb dA_seeAndCatch_27 rfl (lv_at hl 1 rfl) ?_
    obtain ⟨g24, hf⟩ := x_g hf
    refine x_ild C hw 10 0 at_10 rfl g24 dA_seeAndCatch_28 ?_
    obtain ⟨g25, hf⟩ := x_g hf
    refine x_ald7 C hw g25 dA_seeAndCatch_29 ?_
    have g26 := x_lt g25
    refine lv_astore_n (lv' := [(2, .ref (E.2.2.1 15 ((σ.1 10 0 a1.toNatClampNeg).toNatClampNeg))), (0, .ref (E.2.2.1 0 0)), (1, .int a1)]) hx hb dA_seeAndCatch_30 rfl hl (by decide) rfl (fun ls hl => ?_)
    refine lv_aload_n hx hb dA_seeAndCatch_31 rfl (lv_at hl 0 rfl) ?_
    refine lv_iconst (v := 1) hx hb dA_seeAndCatch_32 (by decide) ?_
    refine x_putzN C hw 15 ((σ.1 10 0 a1.toNatClampNeg).toNatClampNeg) 5 (at_15 g26) (by decide) rfl rfl rfl ⟨rfl, rfl⟩ ⟨by decide, by decide⟩ (Nat.le_of_ble_eq_true rfl) wA_243 dA_seeAndCatch_33 (fun H locs hw => ?_)
    obtain ⟨s27, es27, hf⟩ := x_l hf
    rw [← es27] at hw
    refine lv_aload_n hx hb dA_seeAndCatch_36 rfl (lv_at hl 1 rfl) ?_
    refine x_get C hw 0 0 11 (v := .ref (E.2.2.1 17 16)) at_0 rfl rfl ⟨by decide, by decide⟩ wA_73 rfl dA_seeAndCatch_37 ?_
    refine x_getN C hw 17 16 2 (v := va_rf (s27.2.1 17 16 2)) (at_17 (by decide)) rfl rfl ⟨by decide, by decide⟩ wA_180 rfl dA_seeAndCatch_40 ?_
    obtain ⟨r29, h28, hf⟩ := x_p hf
    refine x_callSN (As := [va_rf (s27.2.1 17 16 2)]) (rest := []) (st1 := [.int r29]) C hw (cH_isCatch l E s27 τ (s27.2.1 17 16 2) r29 h28) kA_344 (by decide) rfl rfl hl.1 (lv_room (Nat.le_of_ble_eq_true rfl)) dA_seeAndCatch_43 ⟨by decide, by decide⟩ rfl (fun H locs hw => ?_)
    refine lv_if_eq (tgt := 60) hx hb dA_seeAndCatch_46 (by decide) (fun c30 => ?_) (fun c30 => ?_)
    · replace hf := x_ip c30 hf
      exact wA_seeAndCatch_60 C N s27 rec2 hrec2 a1 ((σ.1 10 0 a1.toNatClampNeg).toNatClampNeg) res hf H locs ls hw (lv_sub hl [1, 2, 0] rfl)
    · replace hf := x_in c30 hf
      refine lv_aload_n hx hb dA_seeAndCatch_49 rfl (lv_at hl 1 rfl) ?_
      refine x_get C hw 0 0 10 (v := .ref (E.2.2.1 12 0)) at_0 rfl rfl ⟨by decide, by decide⟩ wA_66 rfl dA_seeAndCatch_50 ?_
      refine lv_aload_n hx hb dA_seeAndCatch_53 rfl (lv_at hl 0 rfl) ?_
      refine x_getN C hw 15 ((σ.1 10 0 a1.toNatClampNeg).toNatClampNeg) 3 (v := .int (s27.1 15 ((σ.1 10 0 a1.toNatClampNeg).toNatClampNeg) 3)) (at_15 g26) rfl rfl ⟨by decide, by decide⟩ wA_237 rfl dA_seeAndCatch_54 ?_
      obtain ⟨s32, h31, hf⟩ := x_p hf
      refine x_callVN (As := [.int (s27.1 15 ((σ.1 10 0 a1.toNatClampNeg).toNatClampNeg) 3)]) (rest := []) (st1 := []) C hw (cC_add l E s27 τ (s27.1 15 ((σ.1 10 0 a1.toNatClampNeg).toNatClampNeg) 3) s32 h31) kA_348 (x_recv C hw 12 0 at_12 rfl rfl) (by decide) rfl rfl hl.1 (lv_room (Nat.le_of_ble_eq_true rfl)) dA_seeAndCatch_57 ⟨by decide, by decide⟩ rfl (fun H locs hw => ?_)
      exact wA_seeAndCatch_60 C N s32 rec2 hrec2 a1 ((σ.1 10 0 a1.toNatClampNeg).toNatClampNeg) res hf H locs ls hw (lv_sub hl [1, 2, 0] rfl)
set_option maxHeartbeats 4000000 in
set_option maxRecDepth 100000 in
theorem wA_seeAndCatch_2 {p : Program} {l : Launch} {e : Env} {R : Room} {s : State} {m : MethodId} {args : Array Value} {below : List Frame} {meth : Method} {c : Code} {E : xE} {A : Nat → Prop} {τ : yS} (C : xC p s m args meth c R E A bA_seeAndCatch 3 yA_seeAndCatch none 2 0 0) (N : Nat) (n : Nat) : ∀ (σ : xS) (a1 : Int32) (res : xS), fA_seeAndCatch_2 N n σ a1 = some res → ∀ (H : Heap) (locs : List Loc) (ls : Array Slot), xW E A s σ τ H locs → lv_has ls 3 [(0, .ref (E.2.2.1 0 0)), (1, .int a1)] → W p l e R s m args below meth c H locs 0 0 (MQ below (xQ E A none res τ) args s 0 0 A) (F0 m 2 ls []) := by
  induction n with
  | zero => intro σ a1 res hf; cases hf
  | succ n ih =>
    intro σ a1 res hf H locs ls hw hl
    exact wA_seeAndCatch_2b C N σ (fA_seeAndCatch_2 N n) ih a1 res hf H locs ls hw hl
set_option maxHeartbeats 4000000 in
set_option maxRecDepth 100000 in
theorem cA_seeAndCatch (l : Launch) (E : xE) (N : Nat) (σ : xS) (τ : yS) (res : xS) (hf : fA_seeAndCatch N σ = some res) : xM l E yA_seeAndCatch bA_seeAndCatch 3 none 2 0 0 [.ref (E.2.2.1 0 0)] σ τ none res τ := by
  refine x_met (by decide) (Nat.le_of_ble_eq_true rfl) (fun p e R s m args below meth c A ls H locs C hw hl => ?_)
  have hl : lv_has ls 3 [(0, .ref (E.2.2.1 0 0))] := hl
  have hx := C.1
  have hb := C.2.1
  unfold fA_seeAndCatch at hf
  refine lv_iconst (v := 0) hx hb dA_seeAndCatch_0 (by decide) ?_
  refine lv_istore_n (lv' := [(1, .int 0), (0, .ref (E.2.2.1 0 0))]) hx hb dA_seeAndCatch_1 rfl hl (by decide) rfl (fun ls hl => ?_)
  exact wA_seeAndCatch_2 C N N σ 0 res hf H locs ls hw (lv_sub hl [1, 0] rfl)
end
section
-- StandIns doCheck ()J
set_option maxRecDepth 100000 in
theorem dA_doCheck_0 : decode bA_doCheck 0 = .ok (.aload_n 0, 1) := by decide +kernel
set_option maxRecDepth 100000 in
theorem dA_doCheck_1 : decode bA_doCheck 1 = .ok (.aload_n 0, 1) := by decide +kernel
set_option maxRecDepth 100000 in
theorem dA_doCheck_2 : decode bA_doCheck 2 = .ok (.getfield 83, 3) := by decide +kernel
set_option maxRecDepth 100000 in
theorem dA_doCheck_5 : decode bA_doCheck 5 = .ok (.iconst 4, 1) := by decide +kernel
set_option maxRecDepth 100000 in
theorem dA_doCheck_6 : decode bA_doCheck 6 = .ok (.if_icmp .ne 10, 3) := by decide +kernel
set_option maxRecDepth 100000 in
theorem dA_doCheck_9 : decode bA_doCheck 9 = .ok (.aload_n 0, 1) := by decide +kernel
set_option maxRecDepth 100000 in
theorem dA_doCheck_10 : decode bA_doCheck 10 = .ok (.getfield 89, 3) := by decide +kernel
set_option maxRecDepth 100000 in
theorem dA_doCheck_13 : decode bA_doCheck 13 = .ok (.goto 4, 3) := by decide +kernel
set_option maxRecDepth 100000 in
theorem dA_doCheck_16 : decode bA_doCheck 16 = .ok (.iconst (-1), 1) := by decide +kernel
set_option maxRecDepth 100000 in
theorem dA_doCheck_17 : decode bA_doCheck 17 = .ok (.invokevirtual 323, 3) := by decide +kernel
set_option maxRecDepth 100000 in
theorem dA_doCheck_20 : decode bA_doCheck 20 = .ok (.aload_n 0, 1) := by decide +kernel
set_option maxRecDepth 100000 in
theorem dA_doCheck_21 : decode bA_doCheck 21 = .ok (.getfield 59, 3) := by decide +kernel
set_option maxRecDepth 100000 in
theorem dA_doCheck_24 : decode bA_doCheck 24 = .ok (.iconst 1, 1) := by decide +kernel
set_option maxRecDepth 100000 in
theorem dA_doCheck_25 : decode bA_doCheck 25 = .ok (.putfield 258, 3) := by decide +kernel
set_option maxRecDepth 100000 in
theorem dA_doCheck_28 : decode bA_doCheck 28 = .ok (.aload_n 0, 1) := by decide +kernel
set_option maxRecDepth 100000 in
theorem dA_doCheck_29 : decode bA_doCheck 29 = .ok (.getfield 59, 3) := by decide +kernel
set_option maxRecDepth 100000 in
theorem dA_doCheck_32 : decode bA_doCheck 32 = .ok (.aload_n 0, 1) := by decide +kernel
set_option maxRecDepth 100000 in
theorem dA_doCheck_33 : decode bA_doCheck 33 = .ok (.invokevirtual 327, 3) := by decide +kernel
set_option maxRecDepth 100000 in
theorem dA_doCheck_36 : decode bA_doCheck 36 = .ok (.putfield 261, 3) := by decide +kernel
set_option maxRecDepth 100000 in
theorem dA_doCheck_39 : decode bA_doCheck 39 = .ok (.aload_n 0, 1) := by decide +kernel
set_option maxRecDepth 100000 in
theorem dA_doCheck_40 : decode bA_doCheck 40 = .ok (.getfield 59, 3) := by decide +kernel
set_option maxRecDepth 100000 in
theorem dA_doCheck_43 : decode bA_doCheck 43 = .ok (.getfield 261, 3) := by decide +kernel
set_option maxRecDepth 100000 in
theorem dA_doCheck_46 : decode bA_doCheck 46 = .ok (.ifCond .eq 44, 3) := by decide +kernel
set_option maxRecDepth 100000 in
theorem dA_doCheck_49 : decode bA_doCheck 49 = .ok (.aload_n 0, 1) := by decide +kernel
set_option maxRecDepth 100000 in
theorem dA_doCheck_50 : decode bA_doCheck 50 = .ok (.getfield 83, 3) := by decide +kernel
set_option maxRecDepth 100000 in
theorem dA_doCheck_53 : decode bA_doCheck 53 = .ok (.iconst 4, 1) := by decide +kernel
set_option maxRecDepth 100000 in
theorem dA_doCheck_54 : decode bA_doCheck 54 = .ok (.if_icmp .ne 32, 3) := by decide +kernel
set_option maxRecDepth 100000 in
theorem dA_doCheck_57 : decode bA_doCheck 57 = .ok (.aload_n 0, 1) := by decide +kernel
set_option maxRecDepth 100000 in
theorem dA_doCheck_58 : decode bA_doCheck 58 = .ok (.getfield 59, 3) := by decide +kernel
set_option maxRecDepth 100000 in
theorem dA_doCheck_61 : decode bA_doCheck 61 = .ok (.aload_n 0, 1) := by decide +kernel
set_option maxRecDepth 100000 in
theorem dA_doCheck_62 : decode bA_doCheck 62 = .ok (.getfield 86, 3) := by decide +kernel
set_option maxRecDepth 100000 in
theorem dA_doCheck_65 : decode bA_doCheck 65 = .ok (.putfield 264, 3) := by decide +kernel
set_option maxRecDepth 100000 in
theorem dA_doCheck_68 : decode bA_doCheck 68 = .ok (.aload_n 0, 1) := by decide +kernel
set_option maxRecDepth 100000 in
theorem dA_doCheck_69 : decode bA_doCheck 69 = .ok (.aload_n 0, 1) := by decide +kernel
set_option maxRecDepth 100000 in
theorem dA_doCheck_70 : decode bA_doCheck 70 = .ok (.getfield 59, 3) := by decide +kernel
set_option maxRecDepth 100000 in
theorem dA_doCheck_73 : decode bA_doCheck 73 = .ok (.getfield 265, 3) := by decide +kernel
set_option maxRecDepth 100000 in
theorem dA_doCheck_76 : decode bA_doCheck 76 = .ok (.aload_n 0, 1) := by decide +kernel
set_option maxRecDepth 100000 in
theorem dA_doCheck_77 : decode bA_doCheck 77 = .ok (.getfield 86, 3) := by decide +kernel
set_option maxRecDepth 100000 in
theorem dA_doCheck_80 : decode bA_doCheck 80 = .ok (.iconst 1, 1) := by decide +kernel
set_option maxRecDepth 100000 in
theorem dA_doCheck_81 : decode bA_doCheck 81 = .ok (.isub, 1) := by decide +kernel
set_option maxRecDepth 100000 in
theorem dA_doCheck_82 : decode bA_doCheck 82 = .ok (.iaload, 1) := by decide +kernel
set_option maxRecDepth 100000 in
theorem dA_doCheck_83 : decode bA_doCheck 83 = .ok (.putfield 89, 3) := by decide +kernel
set_option maxRecDepth 100000 in
theorem dA_doCheck_86 : decode bA_doCheck 86 = .ok (.aload_n 0, 1) := by decide +kernel
set_option maxRecDepth 100000 in
theorem dA_doCheck_87 : decode bA_doCheck 87 = .ok (.invokevirtual 330, 3) := by decide +kernel
set_option maxRecDepth 100000 in
theorem dA_doCheck_90 : decode bA_doCheck 90 = .ok (.aload_n 0, 1) := by decide +kernel
set_option maxRecDepth 100000 in
theorem dA_doCheck_91 : decode bA_doCheck 91 = .ok (.iconst 0, 1) := by decide +kernel
set_option maxRecDepth 100000 in
theorem dA_doCheck_92 : decode bA_doCheck 92 = .ok (.putfield 77, 3) := by decide +kernel
set_option maxRecDepth 100000 in
theorem dA_doCheck_95 : decode bA_doCheck 95 = .ok (.aload_n 0, 1) := by decide +kernel
set_option maxRecDepth 100000 in
theorem dA_doCheck_96 : decode bA_doCheck 96 = .ok (.getfield 59, 3) := by decide +kernel
set_option maxRecDepth 100000 in
theorem dA_doCheck_99 : decode bA_doCheck 99 = .ok (.getfield 261, 3) := by decide +kernel
set_option maxRecDepth 100000 in
theorem dA_doCheck_102 : decode bA_doCheck 102 = .ok (.ifCond .eq 9, 3) := by decide +kernel
set_option maxRecDepth 100000 in
theorem dA_doCheck_105 : decode bA_doCheck 105 = .ok (.ldc2_w 333, 3) := by decide +kernel
set_option maxRecDepth 100000 in
theorem dA_doCheck_108 : decode bA_doCheck 108 = .ok (.goto 6, 3) := by decide +kernel
set_option maxRecDepth 100000 in
theorem dA_doCheck_111 : decode bA_doCheck 111 = .ok (.ldc2_w 335, 3) := by decide +kernel
set_option maxRecDepth 100000 in
theorem dA_doCheck_114 : decode bA_doCheck 114 = .ok (.lreturn, 1) := by decide +kernel
def fA_doCheck_90 (N : Nat) (σ : xS) : Option (Int64 × xS) :=
  xl (x_si σ 0 0 12 0) fun s17 =>
  if (s17.1 9 0 4) = 0 then
  (some (8796093022208, s17))
  else
  (some (4398046511104, s17))
def fA_doCheck_86 (N : Nat) (σ : xS) : Option (Int64 × xS) :=
  xp (fA_seeAndCatch N σ) fun s20 =>
  fA_doCheck_90 N s20
def fA_doCheck_17 (N : Nat) (σ : xS) (t0 : Int32) : Option (Int64 × xS) :=
  xp (fA_findAbove N σ t0) fun s22 =>
  xl (x_si s22 9 0 3 1) fun s23 =>
  xp (fA_passes N s23) fun r25 =>
  if r25 = 0 ∨ r25 = 1 then
  xl (x_si s23 9 0 4 r25) fun s27 =>
  if (s27.1 9 0 4) = 0 then
  (fA_doCheck_90 N s27)
  else
  (if (s27.1 0 0 14) = 4 then
  (xl (x_si s27 9 0 2 (s27.1 0 0 15)) fun s30 =>
  if ¬ (((s30.1 0 0 15) - 1) < 0 ∨ 40 ≤ ((s30.1 0 0 15) - 1).toNatClampNeg) then
  xl (x_si s30 0 0 16 (s30.1 11 0 (((s30.1 0 0 15) - 1).toNatClampNeg))) fun s32 =>
  fA_doCheck_86 N s32
  else none)
  else
  (fA_doCheck_86 N s27))
  else none
def fA_doCheck (N : Nat) (σ : xS) : Option (Int64 × xS) :=
  if (σ.1 0 0 14) = 4 then
  (fA_doCheck_17 N σ (σ.1 0 0 16))
  else
  (fA_doCheck_17 N σ (-1))
set_option maxHeartbeats 4000000 in
set_option maxRecDepth 100000 in
theorem wA_doCheck_90 {p : Program} {l : Launch} {e : Env} {R : Room} {s : State} {m : MethodId} {args : Array Value} {below : List Frame} {meth : Method} {c : Code} {E : xE} {A : Nat → Prop} {τ : yS} (C : xC p s m args meth c R E A bA_doCheck 1 yA_doCheck (some .long) 12 0 0) (N : Nat) (σ : xS) (res : Int64 × xS) (hf : fA_doCheck_90 N σ = some res) (H : Heap) (locs : List Loc) (ls : Array Slot) (hw : xW E A s σ τ H locs) (hl : lv_has ls 1 [(0, .ref (E.2.2.1 0 0))]) : W p l e R s m args below meth c H locs 0 0 (MQ below (xQ E A (some (.long res.1)) res.2 τ) args s 0 0 A) (F0 m 90 ls []) := by
  have hx := C.1
  have hb := C.2.1
  unfold fA_doCheck_90 at hf
  refine lv_aload_n hx hb dA_doCheck_90 rfl (lv_at hl 0 rfl) ?_
  refine lv_iconst (v := 0) hx hb dA_doCheck_91 (by decide) ?_
  refine x_puti C hw 0 0 12 at_0 rfl rfl rfl ⟨rfl, rfl⟩ ⟨by decide, by decide⟩ (Nat.le_of_ble_eq_true rfl) wA_77 dA_doCheck_92 (fun H locs hw => ?_)
  obtain ⟨s17, es17, hf⟩ := x_l hf
  rw [← es17] at hw
  refine lv_aload_n hx hb dA_doCheck_95 rfl (lv_at hl 0 rfl) ?_
  refine x_get C hw 0 0 9 (v := .ref (E.2.2.1 9 0)) at_0 rfl rfl ⟨by decide, by decide⟩ wA_59 rfl dA_doCheck_96 ?_
  refine x_getN C hw 9 0 4 (v := .int (s17.1 9 0 4)) at_9 rfl rfl ⟨by decide, by decide⟩ wA_261 rfl dA_doCheck_99 ?_
  refine lv_if_eq (tgt := 111) hx hb dA_doCheck_102 (by decide) (fun c18 => ?_) (fun c18 => ?_)
  · replace hf := x_ip c18 hf
    refine lv_ldc2 (v := 8796093022208) hx hb C.own (C.tb wA_335) dA_doCheck_111 ?_
    obtain rfl := Option.some.inj hf
    exact x_lret C hw dA_doCheck_114
  · replace hf := x_in c18 hf
    refine lv_ldc2 (v := 4398046511104) hx hb C.own (C.tb wA_333) dA_doCheck_105 ?_
    refine lv_goto (tgt := 114) hx hb dA_doCheck_108 (by decide) ?_
    obtain rfl := Option.some.inj hf
    exact x_lret C hw dA_doCheck_114
set_option maxHeartbeats 4000000 in
set_option maxRecDepth 100000 in
theorem wA_doCheck_86 {p : Program} {l : Launch} {e : Env} {R : Room} {s : State} {m : MethodId} {args : Array Value} {below : List Frame} {meth : Method} {c : Code} {E : xE} {A : Nat → Prop} {τ : yS} (C : xC p s m args meth c R E A bA_doCheck 1 yA_doCheck (some .long) 12 0 0) (N : Nat) (σ : xS) (res : Int64 × xS) (hf : fA_doCheck_86 N σ = some res) (H : Heap) (locs : List Loc) (ls : Array Slot) (hw : xW E A s σ τ H locs) (hl : lv_has ls 1 [(0, .ref (E.2.2.1 0 0))]) : W p l e R s m args below meth c H locs 0 0 (MQ below (xQ E A (some (.long res.1)) res.2 τ) args s 0 0 A) (F0 m 86 ls []) := by
  have hx := C.1
  have hb := C.2.1
  unfold fA_doCheck_86 at hf
  refine lv_aload_n hx hb dA_doCheck_86 rfl (lv_at hl 0 rfl) ?_
  obtain ⟨s20, h19, hf⟩ := x_p hf
  refine x_callV (As := []) (rest := []) (st1 := []) C hw (cA_seeAndCatch l E N σ τ s20 h19) kA_330 (x_recv C hw 0 0 at_0 rfl rfl) (by decide) rfl rfl hl.1 (lv_room (Nat.le_of_ble_eq_true rfl)) dA_doCheck_87 ⟨by decide, by decide⟩ rfl (fun H locs hw => ?_)
  exact wA_doCheck_90 C N s20 res hf H locs ls hw (lv_sub hl [0] rfl)
set_option maxHeartbeats 4000000 in
set_option maxRecDepth 100000 in
theorem wA_doCheck_17 {p : Program} {l : Launch} {e : Env} {R : Room} {s : State} {m : MethodId} {args : Array Value} {below : List Frame} {meth : Method} {c : Code} {E : xE} {A : Nat → Prop} {τ : yS} (C : xC p s m args meth c R E A bA_doCheck 1 yA_doCheck (some .long) 12 0 0) (N : Nat) (σ : xS) (t0 : Int32) (res : Int64 × xS) (hf : fA_doCheck_17 N σ t0 = some res) (H : Heap) (locs : List Loc) (ls : Array Slot) (hw : xW E A s σ τ H locs) (hl : lv_has ls 1 [(0, .ref (E.2.2.1 0 0))]) : W p l e R s m args below meth c H locs 0 0 (MQ below (xQ E A (some (.long res.1)) res.2 τ) args s 0 0 A) (F0 m 17 ls [.int t0, .ref (E.2.2.1 0 0)]) := by
  have hx := C.1
  have hb := C.2.1
  unfold fA_doCheck_17 at hf
  obtain ⟨s22, h21, hf⟩ := x_p hf
  refine x_callV (As := [.int t0]) (rest := []) (st1 := []) C hw (cA_findAbove l E N σ τ t0 s22 h21) kA_323 (x_recv C hw 0 0 at_0 rfl rfl) (by decide) rfl rfl hl.1 (lv_room (Nat.le_of_ble_eq_true rfl)) dA_doCheck_17 ⟨by decide, by decide⟩ rfl (fun H locs hw => ?_)
  refine lv_aload_n hx hb dA_doCheck_20 rfl (lv_at hl 0 rfl) ?_
  refine x_get C hw 0 0 9 (v := .ref (E.2.2.1 9 0)) at_0 rfl rfl ⟨by decide, by decide⟩ wA_59 rfl dA_doCheck_21 ?_
  refine lv_iconst (v := 1) hx hb dA_doCheck_24 (by decide) ?_
  refine x_putzN C hw 9 0 3 at_9 (by decide) rfl rfl rfl ⟨rfl, rfl⟩ ⟨by decide, by decide⟩ (Nat.le_of_ble_eq_true rfl) wA_258 dA_doCheck_25 (fun H locs hw => ?_)
  obtain ⟨s23, es23, hf⟩ := x_l hf
  rw [← es23] at hw
  refine lv_aload_n hx hb dA_doCheck_28 rfl (lv_at hl 0 rfl) ?_
  refine x_get C hw 0 0 9 (v := .ref (E.2.2.1 9 0)) at_0 rfl rfl ⟨by decide, by decide⟩ wA_59 rfl dA_doCheck_29 ?_
  refine lv_aload_n hx hb dA_doCheck_32 rfl (lv_at hl 0 rfl) ?_
  obtain ⟨r25, h24, hf⟩ := x_p hf
  refine x_callV (As := []) (rest := [.ref (E.2.2.1 9 0)]) (st1 := [.int r25, .ref (E.2.2.1 9 0)]) C hw (cA_passes l E N s23 τ r25 h24) kA_327 (x_recv C hw 0 0 at_0 rfl rfl) (by decide) rfl rfl hl.1 (lv_room (Nat.le_of_ble_eq_true rfl)) dA_doCheck_33 ⟨by decide, by decide⟩ rfl (fun H locs hw => ?_)
  obtain ⟨g26, hf⟩ := x_g hf
  refine x_putzN C hw 9 0 4 at_9 g26 rfl rfl rfl ⟨rfl, rfl⟩ ⟨by decide, by decide⟩ (Nat.le_of_ble_eq_true rfl) wA_261 dA_doCheck_36 (fun H locs hw => ?_)
  obtain ⟨s27, es27, hf⟩ := x_l hf
  rw [← es27] at hw
  refine lv_aload_n hx hb dA_doCheck_39 rfl (lv_at hl 0 rfl) ?_
  refine x_get C hw 0 0 9 (v := .ref (E.2.2.1 9 0)) at_0 rfl rfl ⟨by decide, by decide⟩ wA_59 rfl dA_doCheck_40 ?_
  refine x_getN C hw 9 0 4 (v := .int (s27.1 9 0 4)) at_9 rfl rfl ⟨by decide, by decide⟩ wA_261 rfl dA_doCheck_43 ?_
  refine lv_if_eq (tgt := 90) hx hb dA_doCheck_46 (by decide) (fun c28 => ?_) (fun c28 => ?_)
  · replace hf := x_ip c28 hf
    exact wA_doCheck_90 C N s27 res hf H locs ls hw (lv_sub hl [0] rfl)
  · replace hf := x_in c28 hf
    refine lv_aload_n hx hb dA_doCheck_49 rfl (lv_at hl 0 rfl) ?_
    refine x_get C hw 0 0 14 (v := .int (s27.1 0 0 14)) at_0 rfl rfl ⟨by decide, by decide⟩ wA_83 rfl dA_doCheck_50 ?_
    refine lv_iconst (v := 4) hx hb dA_doCheck_53 (by decide) ?_
    refine lv_icmp_ne (tgt := 86) hx hb dA_doCheck_54 (by decide) (fun c29 => ?_) (fun c29 => ?_)
    · replace hf := x_in c29 hf
      exact wA_doCheck_86 C N s27 res hf H locs ls hw (lv_sub hl [0] rfl)
    · replace hf := x_ip c29 hf
      refine lv_aload_n hx hb dA_doCheck_57 rfl (lv_at hl 0 rfl) ?_
      refine x_get C hw 0 0 9 (v := .ref (E.2.2.1 9 0)) at_0 rfl rfl ⟨by decide, by decide⟩ wA_59 rfl dA_doCheck_58 ?_
      refine lv_aload_n hx hb dA_doCheck_61 rfl (lv_at hl 0 rfl) ?_
      refine x_get C hw 0 0 15 (v := .int (s27.1 0 0 15)) at_0 rfl rfl ⟨by decide, by decide⟩ wA_86 rfl dA_doCheck_62 ?_
      refine x_putiN C hw 9 0 2 at_9 rfl rfl rfl ⟨rfl, rfl⟩ ⟨by decide, by decide⟩ (Nat.le_of_ble_eq_true rfl) wA_264 dA_doCheck_65 (fun H locs hw => ?_)
      obtain ⟨s30, es30, hf⟩ := x_l hf
      rw [← es30] at hw
      refine lv_aload_n hx hb dA_doCheck_68 rfl (lv_at hl 0 rfl) ?_
      refine lv_aload_n hx hb dA_doCheck_69 rfl (lv_at hl 0 rfl) ?_
      refine x_get C hw 0 0 9 (v := .ref (E.2.2.1 9 0)) at_0 rfl rfl ⟨by decide, by decide⟩ wA_59 rfl dA_doCheck_70 ?_
      refine x_getN C hw 9 0 1 (v := .ref (E.2.2.1 11 0)) at_9 rfl rfl ⟨by decide, by decide⟩ wA_265 rfl dA_doCheck_73 ?_
      refine lv_aload_n hx hb dA_doCheck_76 rfl (lv_at hl 0 rfl) ?_
      refine x_get C hw 0 0 15 (v := .int (s30.1 0 0 15)) at_0 rfl rfl ⟨by decide, by decide⟩ wA_86 rfl dA_doCheck_77 ?_
      refine lv_iconst (v := 1) hx hb dA_doCheck_80 (by decide) ?_
      refine lv_isub hx hb dA_doCheck_81 ?_
      obtain ⟨g31, hf⟩ := x_g hf
      refine x_ild C hw 11 0 at_11 rfl g31 dA_doCheck_82 ?_
      refine x_puti C hw 0 0 16 at_0 rfl rfl rfl ⟨rfl, rfl⟩ ⟨by decide, by decide⟩ (Nat.le_of_ble_eq_true rfl) wA_89 dA_doCheck_83 (fun H locs hw => ?_)
      obtain ⟨s32, es32, hf⟩ := x_l hf
      rw [← es32] at hw
      exact wA_doCheck_86 C N s32 res hf H locs ls hw (lv_sub hl [0] rfl)
set_option maxHeartbeats 4000000 in
set_option maxRecDepth 100000 in
theorem cA_doCheck (l : Launch) (E : xE) (N : Nat) (σ : xS) (τ : yS) (res : Int64 × xS) (hf : fA_doCheck N σ = some res) : xM l E yA_doCheck bA_doCheck 1 (some .long) 12 0 0 [.ref (E.2.2.1 0 0)] σ τ (some (.long res.1)) res.2 τ := by
  refine x_met (by decide) (Nat.le_of_ble_eq_true rfl) (fun p e R s m args below meth c A ls H locs C hw hl => ?_)
  have hl : lv_has ls 1 [(0, .ref (E.2.2.1 0 0))] := hl
  have hx := C.1
  have hb := C.2.1
  unfold fA_doCheck at hf
  refine lv_aload_n hx hb dA_doCheck_0 rfl (lv_at hl 0 rfl) ?_
  refine lv_aload_n hx hb dA_doCheck_1 rfl (lv_at hl 0 rfl) ?_
  refine x_get C hw 0 0 14 (v := .int (σ.1 0 0 14)) at_0 rfl rfl ⟨by decide, by decide⟩ wA_83 rfl dA_doCheck_2 ?_
  refine lv_iconst (v := 4) hx hb dA_doCheck_5 (by decide) ?_
  refine lv_icmp_ne (tgt := 16) hx hb dA_doCheck_6 (by decide) (fun c33 => ?_) (fun c33 => ?_)
  · replace hf := x_in c33 hf
    refine lv_iconst (v := (-1)) hx hb dA_doCheck_16 (by decide) ?_
    exact wA_doCheck_17 C N σ (-1) res hf H locs ls hw (lv_sub hl [0] rfl)
  · replace hf := x_ip c33 hf
    refine lv_aload_n hx hb dA_doCheck_9 rfl (lv_at hl 0 rfl) ?_
    refine x_get C hw 0 0 16 (v := .int (σ.1 0 0 16)) at_0 rfl rfl ⟨by decide, by decide⟩ wA_89 rfl dA_doCheck_10 ?_
    refine lv_goto (tgt := 17) hx hb dA_doCheck_13 (by decide) ?_
    exact wA_doCheck_17 C N σ (σ.1 0 0 16) res hf H locs ls hw (lv_sub hl [0] rfl)
-- StandIns$Notebook add (LStandIns$Pattern;II)LStandIns$Note;
set_option maxRecDepth 100000 in
theorem dB_add_0 : decode bB_add 0 = .ok (.aload_n 0, 1) := by decide +kernel
set_option maxRecDepth 100000 in
theorem dB_add_1 : decode bB_add 1 = .ok (.getfield 11, 3) := by decide +kernel
set_option maxRecDepth 100000 in
theorem dB_add_4 : decode bB_add 4 = .ok (.aload_n 0, 1) := by decide +kernel
set_option maxRecDepth 100000 in
theorem dB_add_5 : decode bB_add 5 = .ok (.getfield 17, 3) := by decide +kernel
set_option maxRecDepth 100000 in
theorem dB_add_8 : decode bB_add 8 = .ok (.aaload, 1) := by decide +kernel
set_option maxRecDepth 100000 in
theorem dB_add_9 : decode bB_add 9 = .ok (.astore 4, 2) := by decide +kernel
set_option maxRecDepth 100000 in
theorem dB_add_11 : decode bB_add 11 = .ok (.aload 4, 2) := by decide +kernel
set_option maxRecDepth 100000 in
theorem dB_add_13 : decode bB_add 13 = .ok (.aload_n 0, 1) := by decide +kernel
set_option maxRecDepth 100000 in
theorem dB_add_14 : decode bB_add 14 = .ok (.getfield 21, 3) := by decide +kernel
set_option maxRecDepth 100000 in
theorem dB_add_17 : decode bB_add 17 = .ok (.putfield 25, 3) := by decide +kernel
set_option maxRecDepth 100000 in
theorem dB_add_20 : decode bB_add 20 = .ok (.aload 4, 2) := by decide +kernel
set_option maxRecDepth 100000 in
theorem dB_add_22 : decode bB_add 22 = .ok (.aload_n 1, 1) := by decide +kernel
set_option maxRecDepth 100000 in
theorem dB_add_23 : decode bB_add 23 = .ok (.getfield 28, 3) := by decide +kernel
set_option maxRecDepth 100000 in
theorem dB_add_26 : decode bB_add 26 = .ok (.putfield 33, 3) := by decide +kernel
set_option maxRecDepth 100000 in
theorem dB_add_29 : decode bB_add 29 = .ok (.aload 4, 2) := by decide +kernel
set_option maxRecDepth 100000 in
theorem dB_add_31 : decode bB_add 31 = .ok (.aload_n 1, 1) := by decide +kernel
set_option maxRecDepth 100000 in
theorem dB_add_32 : decode bB_add 32 = .ok (.getfield 34, 3) := by decide +kernel
set_option maxRecDepth 100000 in
theorem dB_add_35 : decode bB_add 35 = .ok (.putfield 37, 3) := by decide +kernel
set_option maxRecDepth 100000 in
theorem dB_add_38 : decode bB_add 38 = .ok (.aload 4, 2) := by decide +kernel
set_option maxRecDepth 100000 in
theorem dB_add_40 : decode bB_add 40 = .ok (.iload_n 2, 1) := by decide +kernel
set_option maxRecDepth 100000 in
theorem dB_add_41 : decode bB_add 41 = .ok (.putfield 38, 3) := by decide +kernel
set_option maxRecDepth 100000 in
theorem dB_add_44 : decode bB_add 44 = .ok (.aload 4, 2) := by decide +kernel
set_option maxRecDepth 100000 in
theorem dB_add_46 : decode bB_add 46 = .ok (.iload_n 3, 1) := by decide +kernel
set_option maxRecDepth 100000 in
theorem dB_add_47 : decode bB_add 47 = .ok (.putfield 41, 3) := by decide +kernel
set_option maxRecDepth 100000 in
theorem dB_add_50 : decode bB_add 50 = .ok (.aload 4, 2) := by decide +kernel
set_option maxRecDepth 100000 in
theorem dB_add_52 : decode bB_add 52 = .ok (.iconst 0, 1) := by decide +kernel
set_option maxRecDepth 100000 in
theorem dB_add_53 : decode bB_add 53 = .ok (.putfield 44, 3) := by decide +kernel
set_option maxRecDepth 100000 in
theorem dB_add_56 : decode bB_add 56 = .ok (.aload_n 0, 1) := by decide +kernel
set_option maxRecDepth 100000 in
theorem dB_add_57 : decode bB_add 57 = .ok (.dup, 1) := by decide +kernel
set_option maxRecDepth 100000 in
theorem dB_add_58 : decode bB_add 58 = .ok (.getfield 17, 3) := by decide +kernel
set_option maxRecDepth 100000 in
theorem dB_add_61 : decode bB_add 61 = .ok (.iconst 1, 1) := by decide +kernel
set_option maxRecDepth 100000 in
theorem dB_add_62 : decode bB_add 62 = .ok (.iadd, 1) := by decide +kernel
set_option maxRecDepth 100000 in
theorem dB_add_63 : decode bB_add 63 = .ok (.putfield 17, 3) := by decide +kernel
set_option maxRecDepth 100000 in
theorem dB_add_66 : decode bB_add 66 = .ok (.aload_n 0, 1) := by decide +kernel
set_option maxRecDepth 100000 in
theorem dB_add_67 : decode bB_add 67 = .ok (.dup, 1) := by decide +kernel
set_option maxRecDepth 100000 in
theorem dB_add_68 : decode bB_add 68 = .ok (.getfield 21, 3) := by decide +kernel
set_option maxRecDepth 100000 in
theorem dB_add_71 : decode bB_add 71 = .ok (.iconst 1, 1) := by decide +kernel
set_option maxRecDepth 100000 in
theorem dB_add_72 : decode bB_add 72 = .ok (.iadd, 1) := by decide +kernel
set_option maxRecDepth 100000 in
theorem dB_add_73 : decode bB_add 73 = .ok (.putfield 21, 3) := by decide +kernel
set_option maxRecDepth 100000 in
theorem dB_add_76 : decode bB_add 76 = .ok (.aload 4, 2) := by decide +kernel
set_option maxRecDepth 100000 in
theorem dB_add_78 : decode bB_add 78 = .ok (.areturn, 1) := by decide +kernel
def fB_add (σ : xS) (k1 : Nat) (a2 : Int32) (a3 : Int32) : Option (Nat × xS) :=
  if ¬ ((σ.1 6 0 1) < 0 ∨ 40 ≤ (σ.1 6 0 1).toNatClampNeg) then
  xl (x_si σ 15 ((σ.1 6 0 1).toNatClampNeg) 0 (σ.1 6 0 2)) fun s3 =>
  if k1 < 17 then
  xl (x_si s3 15 ((σ.1 6 0 1).toNatClampNeg) 1 (s3.1 17 k1 0)) fun s5 =>
  xl (x_si s5 15 ((σ.1 6 0 1).toNatClampNeg) 2 (s5.1 17 k1 1)) fun s6 =>
  xl (x_si s6 15 ((σ.1 6 0 1).toNatClampNeg) 3 a2) fun s7 =>
  xl (x_si s7 15 ((σ.1 6 0 1).toNatClampNeg) 4 a3) fun s8 =>
  xl (x_si s8 15 ((σ.1 6 0 1).toNatClampNeg) 5 0) fun s9 =>
  xl (x_si s9 6 0 1 ((s9.1 6 0 1) + 1)) fun s10 =>
  xl (x_si s10 6 0 2 ((s10.1 6 0 2) + 1)) fun s11 =>
  some ((σ.1 6 0 1).toNatClampNeg, s11)
  else none
  else none
set_option maxHeartbeats 4000000 in
set_option maxRecDepth 100000 in
theorem cB_add (l : Launch) (E : xE) (σ : xS) (τ : yS) (k1 : Nat) (a2 : Int32) (a3 : Int32) (res : Nat × xS) (hf : fB_add σ k1 a2 a3 = some res) : xM l E yB_add bB_add 5 (some (.object "StandIns$Note")) 0 0 0 [.ref (E.2.2.1 6 0), .ref (E.2.2.1 17 k1), .int a2, .int a3] σ τ (some (.ref (E.2.2.1 15 res.1))) res.2 τ := by
  refine x_met (by decide) (Nat.le_of_ble_eq_true rfl) (fun p e R s m args below meth c A ls H locs C hw hl => ?_)
  have hl : lv_has ls 5 [(0, .ref (E.2.2.1 6 0)), (1, .ref (E.2.2.1 17 k1)), (2, .int a2), (3, .int a3)] := hl
  have hx := C.1
  have hb := C.2.1
  unfold fB_add at hf
  refine lv_aload_n hx hb dB_add_0 rfl (lv_at hl 0 rfl) ?_
  refine x_get C hw 6 0 0 (v := .ref (E.2.2.1 7 0)) at_6 rfl rfl ⟨by decide, by decide⟩ wB_11 rfl dB_add_1 ?_
  refine lv_aload_n hx hb dB_add_4 rfl (lv_at hl 0 rfl) ?_
  refine x_get C hw 6 0 1 (v := .int (σ.1 6 0 1)) at_6 rfl rfl ⟨by decide, by decide⟩ wB_17 rfl dB_add_5 ?_
  obtain ⟨g1, hf⟩ := x_g hf
  refine x_ald7 C hw g1 dB_add_8 ?_
  have g2 := x_lt g1
  refine lv_astore (lv' := [(4, .ref (E.2.2.1 15 ((σ.1 6 0 1).toNatClampNeg))), (0, .ref (E.2.2.1 6 0)), (1, .ref (E.2.2.1 17 k1)), (2, .int a2), (3, .int a3)]) hx hb dB_add_9 hl (by decide) rfl (fun ls hl => ?_)
  refine lv_aload hx hb dB_add_11 (lv_at hl 0 rfl) ?_
  refine lv_aload_n hx hb dB_add_13 rfl (lv_at hl 1 rfl) ?_
  refine x_get C hw 6 0 2 (v := .int (σ.1 6 0 2)) at_6 rfl rfl ⟨by decide, by decide⟩ wB_21 rfl dB_add_14 ?_
  refine x_putiN C hw 15 ((σ.1 6 0 1).toNatClampNeg) 0 (at_15 g2) rfl rfl rfl ⟨rfl, rfl⟩ ⟨by decide, by decide⟩ (Nat.le_of_ble_eq_true rfl) wB_25 dB_add_17 (fun H locs hw => ?_)
  obtain ⟨s3, es3, hf⟩ := x_l hf
  rw [← es3] at hw
  refine lv_aload hx hb dB_add_20 (lv_at hl 0 rfl) ?_
  refine lv_aload_n hx hb dB_add_22 rfl (lv_at hl 2 rfl) ?_
  obtain ⟨g4, hf⟩ := x_g hf
  refine x_getN C hw 17 k1 0 (v := .int (s3.1 17 k1 0)) (at_17 g4) rfl rfl ⟨by decide, by decide⟩ wB_28 rfl dB_add_23 ?_
  refine x_putiN C hw 15 ((σ.1 6 0 1).toNatClampNeg) 1 (at_15 g2) rfl rfl rfl ⟨rfl, rfl⟩ ⟨by decide, by decide⟩ (Nat.le_of_ble_eq_true rfl) wB_33 dB_add_26 (fun H locs hw => ?_)
  obtain ⟨s5, es5, hf⟩ := x_l hf
  rw [← es5] at hw
  refine lv_aload hx hb dB_add_29 (lv_at hl 0 rfl) ?_
  refine lv_aload_n hx hb dB_add_31 rfl (lv_at hl 2 rfl) ?_
  refine x_getN C hw 17 k1 1 (v := .int (s5.1 17 k1 1)) (at_17 g4) rfl rfl ⟨by decide, by decide⟩ wB_34 rfl dB_add_32 ?_
  refine x_putiN C hw 15 ((σ.1 6 0 1).toNatClampNeg) 2 (at_15 g2) rfl rfl rfl ⟨rfl, rfl⟩ ⟨by decide, by decide⟩ (Nat.le_of_ble_eq_true rfl) wB_37 dB_add_35 (fun H locs hw => ?_)
  obtain ⟨s6, es6, hf⟩ := x_l hf
  rw [← es6] at hw
  refine lv_aload hx hb dB_add_38 (lv_at hl 0 rfl) ?_
  refine lv_iload_n hx hb dB_add_40 rfl (lv_at hl 3 rfl) ?_
  refine x_putiN C hw 15 ((σ.1 6 0 1).toNatClampNeg) 3 (at_15 g2) rfl rfl rfl ⟨rfl, rfl⟩ ⟨by decide, by decide⟩ (Nat.le_of_ble_eq_true rfl) wB_38 dB_add_41 (fun H locs hw => ?_)
  obtain ⟨s7, es7, hf⟩ := x_l hf
  rw [← es7] at hw
  refine lv_aload hx hb dB_add_44 (lv_at hl 0 rfl) ?_
  refine lv_iload_n hx hb dB_add_46 rfl (lv_at hl 4 rfl) ?_
  refine x_putiN C hw 15 ((σ.1 6 0 1).toNatClampNeg) 4 (at_15 g2) rfl rfl rfl ⟨rfl, rfl⟩ ⟨by decide, by decide⟩ (Nat.le_of_ble_eq_true rfl) wB_41 dB_add_47 (fun H locs hw => ?_)
  obtain ⟨s8, es8, hf⟩ := x_l hf
  rw [← es8] at hw
  refine lv_aload hx hb dB_add_50 (lv_at hl 0 rfl) ?_
  refine lv_iconst (v := 0) hx hb dB_add_52 (by decide) ?_
  refine x_putzN C hw 15 ((σ.1 6 0 1).toNatClampNeg) 5 (at_15 g2) (by decide) rfl rfl rfl ⟨rfl, rfl⟩ ⟨by decide, by decide⟩ (Nat.le_of_ble_eq_true rfl) wB_44 dB_add_53 (fun H locs hw => ?_)
  obtain ⟨s9, es9, hf⟩ := x_l hf
  rw [← es9] at hw
  refine lv_aload_n hx hb dB_add_56 rfl (lv_at hl 1 rfl) ?_
  refine lv_dup hx hb dB_add_57 rfl ?_
  refine x_get C hw 6 0 1 (v := .int (s9.1 6 0 1)) at_6 rfl rfl ⟨by decide, by decide⟩ wB_17 rfl dB_add_58 ?_
  refine lv_iconst (v := 1) hx hb dB_add_61 (by decide) ?_
  refine lv_iadd hx hb dB_add_62 ?_
  refine x_puti C hw 6 0 1 at_6 rfl rfl rfl ⟨rfl, rfl⟩ ⟨by decide, by decide⟩ (Nat.le_of_ble_eq_true rfl) wB_17 dB_add_63 (fun H locs hw => ?_)
  obtain ⟨s10, es10, hf⟩ := x_l hf
  rw [← es10] at hw
  refine lv_aload_n hx hb dB_add_66 rfl (lv_at hl 1 rfl) ?_
  refine lv_dup hx hb dB_add_67 rfl ?_
  refine x_get C hw 6 0 2 (v := .int (s10.1 6 0 2)) at_6 rfl rfl ⟨by decide, by decide⟩ wB_21 rfl dB_add_68 ?_
  refine lv_iconst (v := 1) hx hb dB_add_71 (by decide) ?_
  refine lv_iadd hx hb dB_add_72 ?_
  refine x_puti C hw 6 0 2 at_6 rfl rfl rfl ⟨rfl, rfl⟩ ⟨by decide, by decide⟩ (Nat.le_of_ble_eq_true rfl) wB_21 dB_add_73 (fun H locs hw => ?_)
  obtain ⟨s11, es11, hf⟩ := x_l hf
  rw [← es11] at hw
  refine lv_aload hx hb dB_add_76 (lv_at hl 0 rfl) ?_
  obtain rfl := Option.some.inj hf
  exact x_aret C hw (Or.inr ⟨_, rfl⟩) dB_add_78
-- StandIns tellingFor (LStandIns$Note;)I
set_option maxRecDepth 100000 in
theorem dA_tellingFor_0 : decode bA_tellingFor 0 = .ok (.aload_n 0, 1) := by decide +kernel
set_option maxRecDepth 100000 in
theorem dA_tellingFor_1 : decode bA_tellingFor 1 = .ok (.getfield 53, 3) := by decide +kernel
set_option maxRecDepth 100000 in
theorem dA_tellingFor_4 : decode bA_tellingFor 4 = .ok (.iconst 1, 1) := by decide +kernel
set_option maxRecDepth 100000 in
theorem dA_tellingFor_5 : decode bA_tellingFor 5 = .ok (.isub, 1) := by decide +kernel
set_option maxRecDepth 100000 in
theorem dA_tellingFor_6 : decode bA_tellingFor 6 = .ok (.istore_n 2, 1) := by decide +kernel
set_option maxRecDepth 100000 in
theorem dA_tellingFor_7 : decode bA_tellingFor 7 = .ok (.iload_n 2, 1) := by decide +kernel
set_option maxRecDepth 100000 in
theorem dA_tellingFor_8 : decode bA_tellingFor 8 = .ok (.ifCond .lt 42, 3) := by decide +kernel
set_option maxRecDepth 100000 in
theorem dA_tellingFor_11 : decode bA_tellingFor 11 = .ok (.aload_n 0, 1) := by decide +kernel
set_option maxRecDepth 100000 in
theorem dA_tellingFor_12 : decode bA_tellingFor 12 = .ok (.getfield 49, 3) := by decide +kernel
set_option maxRecDepth 100000 in
theorem dA_tellingFor_15 : decode bA_tellingFor 15 = .ok (.iload_n 2, 1) := by decide +kernel
set_option maxRecDepth 100000 in
theorem dA_tellingFor_16 : decode bA_tellingFor 16 = .ok (.aaload, 1) := by decide +kernel
set_option maxRecDepth 100000 in
theorem dA_tellingFor_17 : decode bA_tellingFor 17 = .ok (.getfield 211, 3) := by decide +kernel
set_option maxRecDepth 100000 in
theorem dA_tellingFor_20 : decode bA_tellingFor 20 = .ok (.getfield 214, 3) := by decide +kernel
set_option maxRecDepth 100000 in
theorem dA_tellingFor_23 : decode bA_tellingFor 23 = .ok (.ifCond .le 21, 3) := by decide +kernel
set_option maxRecDepth 100000 in
theorem dA_tellingFor_26 : decode bA_tellingFor 26 = .ok (.aload_n 0, 1) := by decide +kernel
set_option maxRecDepth 100000 in
theorem dA_tellingFor_27 : decode bA_tellingFor 27 = .ok (.getfield 49, 3) := by decide +kernel
set_option maxRecDepth 100000 in
theorem dA_tellingFor_30 : decode bA_tellingFor 30 = .ok (.iload_n 2, 1) := by decide +kernel
set_option maxRecDepth 100000 in
theorem dA_tellingFor_31 : decode bA_tellingFor 31 = .ok (.aaload, 1) := by decide +kernel
set_option maxRecDepth 100000 in
theorem dA_tellingFor_32 : decode bA_tellingFor 32 = .ok (.getfield 249, 3) := by decide +kernel
set_option maxRecDepth 100000 in
theorem dA_tellingFor_35 : decode bA_tellingFor 35 = .ok (.aload_n 1, 1) := by decide +kernel
set_option maxRecDepth 100000 in
theorem dA_tellingFor_36 : decode bA_tellingFor 36 = .ok (.invokevirtual 299, 3) := by decide +kernel
set_option maxRecDepth 100000 in
theorem dA_tellingFor_39 : decode bA_tellingFor 39 = .ok (.ifCond .eq 5, 3) := by decide +kernel
set_option maxRecDepth 100000 in
theorem dA_tellingFor_42 : decode bA_tellingFor 42 = .ok (.iload_n 2, 1) := by decide +kernel
set_option maxRecDepth 100000 in
theorem dA_tellingFor_43 : decode bA_tellingFor 43 = .ok (.ireturn, 1) := by decide +kernel
set_option maxRecDepth 100000 in
theorem dA_tellingFor_44 : decode bA_tellingFor 44 = .ok (.iinc 2 (-1), 3) := by decide +kernel
set_option maxRecDepth 100000 in
theorem dA_tellingFor_47 : decode bA_tellingFor 47 = .ok (.goto (-40), 3) := by decide +kernel
set_option maxRecDepth 100000 in
theorem dA_tellingFor_50 : decode bA_tellingFor 50 = .ok (.iconst (-1), 1) := by decide +kernel
set_option maxRecDepth 100000 in
theorem dA_tellingFor_51 : decode bA_tellingFor 51 = .ok (.ireturn, 1) := by decide +kernel
def fA_tellingFor_44 (N : Nat) (rec7 : Nat → Int32 → Option (Int32)) (σ : xS) (k1 : Nat) (a2 : Int32) : Option (Int32) :=
  rec7 k1 (a2 + (-1))
def fA_tellingFor_7b (N : Nat) (rec7 : Nat → Int32 → Option (Int32)) (σ : xS) (k1 : Nat) (a2 : Int32) : Option (Int32) :=
  if a2 < 0 then
  (some (-1))
  else
  (if ¬ (a2 < 0 ∨ 16 ≤ a2.toNatClampNeg) then
  if a2.toNatClampNeg < 17 then
  if (σ.1 18 a2.toNatClampNeg 2) ≤ 0 then
  (fA_tellingFor_44 N rec7 σ k1 a2)
  else
  (xp (fP_matches σ a2.toNatClampNeg k1) fun r15 =>
  if r15 = 0 then
  (fA_tellingFor_44 N rec7 σ k1 a2)
  else
  (some a2))
  else none
  else none)
def fA_tellingFor_7 (N : Nat) (σ : xS) : Nat → Nat → Int32 → Option (Int32)
  | 0, _, _ => none
  | n + 1, k1, a2 => fA_tellingFor_7b N (fA_tellingFor_7 N σ n) σ k1 a2
def fA_tellingFor (N : Nat) (σ : xS) (k1 : Nat) : Option (Int32) :=
  fA_tellingFor_7 N σ N k1 ((σ.1 0 0 8) - 1)
set_option maxHeartbeats 4000000 in
set_option maxRecDepth 100000 in
theorem wA_tellingFor_44 {p : Program} {l : Launch} {e : Env} {R : Room} {s : State} {m : MethodId} {args : Array Value} {below : List Frame} {meth : Method} {c : Code} {E : xE} {A : Nat → Prop} {τ : yS} (C : xC p s m args meth c R E A bA_tellingFor 3 yA_tellingFor (some .int) 11 0 0) (N : Nat) (σ : xS) (rec7 : Nat → Int32 → Option (Int32)) (hrec7 : ∀ (k1 : Nat) (a2 : Int32) (res : Int32), rec7 k1 a2 = some res → ∀ (H : Heap) (locs : List Loc) (ls : Array Slot), xW E A s σ τ H locs → lv_has ls 3 [(0, .ref (E.2.2.1 0 0)), (1, .ref (E.2.2.1 15 k1)), (2, .int a2)] → W p l e R s m args below meth c H locs 0 0 (MQ below (xQ E A (some (.int res)) σ τ) args s 0 0 A) (F0 m 7 ls [])) (k1 : Nat) (a2 : Int32) (res : Int32) (hf : fA_tellingFor_44 N rec7 σ k1 a2 = some res) (H : Heap) (locs : List Loc) (ls : Array Slot) (hw : xW E A s σ τ H locs) (hl : lv_has ls 3 [(0, .ref (E.2.2.1 0 0)), (1, .ref (E.2.2.1 15 k1)), (2, .int a2)]) : W p l e R s m args below meth c H locs 0 0 (MQ below (xQ E A (some (.int res)) σ τ) args s 0 0 A) (F0 m 44 ls []) := by
  have hx := C.1
  have hb := C.2.1
  unfold fA_tellingFor_44 at hf
  refine lv_iinc (v := a2 + (-1)) (lv' := [(2, .int (a2 + (-1))), (0, .ref (E.2.2.1 0 0)), (1, .ref (E.2.2.1 15 k1))]) hx hb dA_tellingFor_44 hl (k := 2) rfl rfl (by decide) rfl (fun ls hl => ?_)
  refine lv_goto (tgt := 7) hx hb dA_tellingFor_47 (by decide) ?_
  exact hrec7 k1 (a2 + (-1)) res hf H locs ls hw (lv_sub hl [1, 2, 0] rfl)
set_option maxHeartbeats 4000000 in
set_option maxRecDepth 100000 in
theorem wA_tellingFor_7b {p : Program} {l : Launch} {e : Env} {R : Room} {s : State} {m : MethodId} {args : Array Value} {below : List Frame} {meth : Method} {c : Code} {E : xE} {A : Nat → Prop} {τ : yS} (C : xC p s m args meth c R E A bA_tellingFor 3 yA_tellingFor (some .int) 11 0 0) (N : Nat) (σ : xS) (rec7 : Nat → Int32 → Option (Int32)) (hrec7 : ∀ (k1 : Nat) (a2 : Int32) (res : Int32), rec7 k1 a2 = some res → ∀ (H : Heap) (locs : List Loc) (ls : Array Slot), xW E A s σ τ H locs → lv_has ls 3 [(0, .ref (E.2.2.1 0 0)), (1, .ref (E.2.2.1 15 k1)), (2, .int a2)] → W p l e R s m args below meth c H locs 0 0 (MQ below (xQ E A (some (.int res)) σ τ) args s 0 0 A) (F0 m 7 ls [])) (k1 : Nat) (a2 : Int32) (res : Int32) (hf : fA_tellingFor_7b N rec7 σ k1 a2 = some res) (H : Heap) (locs : List Loc) (ls : Array Slot) (hw : xW E A s σ τ H locs) (hl : lv_has ls 3 [(0, .ref (E.2.2.1 0 0)), (1, .ref (E.2.2.1 15 k1)), (2, .int a2)]) : W p l e R s m args below meth c H locs 0 0 (MQ below (xQ E A (some (.int res)) σ τ) args s 0 0 A) (F0 m 7 ls []) := by
  have hx := C.1
  have hb := C.2.1
  unfold fA_tellingFor_7b at hf
  refine lv_iload_n hx hb dA_tellingFor_7 rfl (lv_at hl 2 rfl) ?_
  refine lv_if_lt (tgt := 50) hx hb dA_tellingFor_8 (by decide) (fun c9 => ?_) (fun c9 => ?_)
  · replace hf := x_ip c9 hf
    refine lv_iconst (v := (-1)) hx hb dA_tellingFor_50 (by decide) ?_
    obtain rfl := Option.some.inj hf
    exact x_iret C hw dA_tellingFor_51
  · replace hf := x_in c9 hf
    refine lv_aload_n hx hb dA_tellingFor_11 rfl (lv_at hl 0 rfl) ?_
    refine x_get C hw 0 0 7 (v := .ref (E.2.2.1 8 0)) at_0 rfl rfl ⟨by decide, by decide⟩ wA_49 rfl dA_tellingFor_12 ?_
    refine lv_iload_n hx hb dA_tellingFor_15 rfl (lv_at hl 2 rfl) ?_
    obtain ⟨g10, hf⟩ := x_g hf
    refine x_ald8 C hw g10 dA_tellingFor_16 ?_
    have g11 := x_lt g10
    refine x_getN C hw 16 a2.toNatClampNeg 1 (v := .ref (E.2.2.1 18 a2.toNatClampNeg)) (at_16 g11) rfl rfl ⟨by decide, by decide⟩ wA_211 rfl dA_tellingFor_17 ?_
    obtain ⟨g12, hf⟩ := x_g hf
    refine x_getN C hw 18 a2.toNatClampNeg 2 (v := .int (σ.1 18 a2.toNatClampNeg 2)) (at_18 g12) rfl rfl ⟨by decide, by decide⟩ wA_214 rfl dA_tellingFor_20 ?_
    refine lv_if_le (tgt := 44) hx hb dA_tellingFor_23 (by decide) (fun c13 => ?_) (fun c13 => ?_)
    · replace hf := x_ip c13 hf
      exact wA_tellingFor_44 C N σ rec7 hrec7 k1 a2 res hf H locs ls hw (lv_sub hl [0, 1, 2] rfl)
    · replace hf := x_in c13 hf
      refine lv_aload_n hx hb dA_tellingFor_26 rfl (lv_at hl 0 rfl) ?_
      refine x_get C hw 0 0 7 (v := .ref (E.2.2.1 8 0)) at_0 rfl rfl ⟨by decide, by decide⟩ wA_49 rfl dA_tellingFor_27 ?_
      refine lv_iload_n hx hb dA_tellingFor_30 rfl (lv_at hl 2 rfl) ?_
      refine x_ald8 C hw g10 dA_tellingFor_31 ?_
      refine x_getN C hw 16 a2.toNatClampNeg 0 (v := .ref (E.2.2.1 17 a2.toNatClampNeg)) (at_16 g11) rfl rfl ⟨by decide, by decide⟩ wA_249 rfl dA_tellingFor_32 ?_
      refine lv_aload_n hx hb dA_tellingFor_35 rfl (lv_at hl 1 rfl) ?_
      obtain ⟨r15, h14, hf⟩ := x_p hf
      refine x_callVN (As := [.ref (E.2.2.1 15 k1)]) (rest := []) (st1 := [.int r15]) C hw (cP_matches l E σ τ a2.toNatClampNeg k1 r15 h14) kA_299 (x_recv C hw 17 a2.toNatClampNeg (at_17 g12) rfl rfl) (by decide) rfl rfl hl.1 (lv_room (Nat.le_of_ble_eq_true rfl)) dA_tellingFor_36 ⟨by decide, by decide⟩ rfl (fun H locs hw => ?_)
      refine lv_if_eq (tgt := 44) hx hb dA_tellingFor_39 (by decide) (fun c16 => ?_) (fun c16 => ?_)
      · replace hf := x_ip c16 hf
        exact wA_tellingFor_44 C N σ rec7 hrec7 k1 a2 res hf H locs ls hw (lv_sub hl [0, 1, 2] rfl)
      · replace hf := x_in c16 hf
        refine lv_iload_n hx hb dA_tellingFor_42 rfl (lv_at hl 2 rfl) ?_
        obtain rfl := Option.some.inj hf
        exact x_iret C hw dA_tellingFor_43
set_option maxHeartbeats 4000000 in
set_option maxRecDepth 100000 in
theorem wA_tellingFor_7 {p : Program} {l : Launch} {e : Env} {R : Room} {s : State} {m : MethodId} {args : Array Value} {below : List Frame} {meth : Method} {c : Code} {E : xE} {A : Nat → Prop} {τ : yS} (C : xC p s m args meth c R E A bA_tellingFor 3 yA_tellingFor (some .int) 11 0 0) (N : Nat) (σ : xS) (n : Nat) : ∀ (k1 : Nat) (a2 : Int32) (res : Int32), fA_tellingFor_7 N σ n k1 a2 = some res → ∀ (H : Heap) (locs : List Loc) (ls : Array Slot), xW E A s σ τ H locs → lv_has ls 3 [(0, .ref (E.2.2.1 0 0)), (1, .ref (E.2.2.1 15 k1)), (2, .int a2)] → W p l e R s m args below meth c H locs 0 0 (MQ below (xQ E A (some (.int res)) σ τ) args s 0 0 A) (F0 m 7 ls []) := by
  induction n with
  | zero => intro k1 a2 res hf; cases hf
  | succ n ih =>
    intro k1 a2 res hf H locs ls hw hl
    exact wA_tellingFor_7b C N σ (fA_tellingFor_7 N σ n) ih k1 a2 res hf H locs ls hw hl
set_option maxHeartbeats 4000000 in
set_option maxRecDepth 100000 in
theorem cA_tellingFor (l : Launch) (E : xE) (N : Nat) (σ : xS) (τ : yS) (k1 : Nat) (res : Int32) (hf : fA_tellingFor N σ k1 = some res) : xM l E yA_tellingFor bA_tellingFor 3 (some .int) 11 0 0 [.ref (E.2.2.1 0 0), .ref (E.2.2.1 15 k1)] σ τ (some (.int res)) σ τ := by
  refine x_met (by decide) (Nat.le_of_ble_eq_true rfl) (fun p e R s m args below meth c A ls H locs C hw hl => ?_)
  have hl : lv_has ls 3 [(0, .ref (E.2.2.1 0 0)), (1, .ref (E.2.2.1 15 k1))] := hl
  have hx := C.1
  have hb := C.2.1
  unfold fA_tellingFor at hf
  refine lv_aload_n hx hb dA_tellingFor_0 rfl (lv_at hl 0 rfl) ?_
  refine x_get C hw 0 0 8 (v := .int (σ.1 0 0 8)) at_0 rfl rfl ⟨by decide, by decide⟩ wA_53 rfl dA_tellingFor_1 ?_
  refine lv_iconst (v := 1) hx hb dA_tellingFor_4 (by decide) ?_
  refine lv_isub hx hb dA_tellingFor_5 ?_
  refine lv_istore_n (lv' := [(2, .int ((σ.1 0 0 8) - 1)), (0, .ref (E.2.2.1 0 0)), (1, .ref (E.2.2.1 15 k1))]) hx hb dA_tellingFor_6 rfl hl (by decide) rfl (fun ls hl => ?_)
  exact wA_tellingFor_7 C N σ N k1 ((σ.1 0 0 8) - 1) res hf H locs ls hw (lv_sub hl [1, 2, 0] rfl)
-- StandIns$Method realResult (LStandIns$Note;)I
set_option maxRecDepth 100000 in
theorem dD_realResult_0 : decode bD_realResult 0 = .ok (.aload_n 0, 1) := by decide +kernel
set_option maxRecDepth 100000 in
theorem dD_realResult_1 : decode bD_realResult 1 = .ok (.getfield 15, 3) := by decide +kernel
set_option maxRecDepth 100000 in
theorem dD_realResult_4 : decode bD_realResult 4 = .ok (.ifCond .eq 25, 3) := by decide +kernel
set_option maxRecDepth 100000 in
theorem dD_realResult_7 : decode bD_realResult 7 = .ok (.bipush 7, 2) := by decide +kernel
set_option maxRecDepth 100000 in
theorem dD_realResult_9 : decode bD_realResult 9 = .ok (.aload_n 1, 1) := by decide +kernel
set_option maxRecDepth 100000 in
theorem dD_realResult_10 : decode bD_realResult 10 = .ok (.getfield 19, 3) := by decide +kernel
set_option maxRecDepth 100000 in
theorem dD_realResult_13 : decode bD_realResult 13 = .ok (.imul, 1) := by decide +kernel
set_option maxRecDepth 100000 in
theorem dD_realResult_14 : decode bD_realResult 14 = .ok (.iconst 3, 1) := by decide +kernel
set_option maxRecDepth 100000 in
theorem dD_realResult_15 : decode bD_realResult 15 = .ok (.aload_n 1, 1) := by decide +kernel
set_option maxRecDepth 100000 in
theorem dD_realResult_16 : decode bD_realResult 16 = .ok (.getfield 24, 3) := by decide +kernel
set_option maxRecDepth 100000 in
theorem dD_realResult_19 : decode bD_realResult 19 = .ok (.imul, 1) := by decide +kernel
set_option maxRecDepth 100000 in
theorem dD_realResult_20 : decode bD_realResult 20 = .ok (.iadd, 1) := by decide +kernel
set_option maxRecDepth 100000 in
theorem dD_realResult_21 : decode bD_realResult 21 = .ok (.aload_n 1, 1) := by decide +kernel
set_option maxRecDepth 100000 in
theorem dD_realResult_22 : decode bD_realResult 22 = .ok (.getfield 27, 3) := by decide +kernel
set_option maxRecDepth 100000 in
theorem dD_realResult_25 : decode bD_realResult 25 = .ok (.isub, 1) := by decide +kernel
set_option maxRecDepth 100000 in
theorem dD_realResult_26 : decode bD_realResult 26 = .ok (.goto 4, 3) := by decide +kernel
set_option maxRecDepth 100000 in
theorem dD_realResult_29 : decode bD_realResult 29 = .ok (.iconst 0, 1) := by decide +kernel
set_option maxRecDepth 100000 in
theorem dD_realResult_30 : decode bD_realResult 30 = .ok (.ireturn, 1) := by decide +kernel
def fD_realResult (σ : xS) (k0 : Nat) (k1 : Nat) : Option (Int32) :=
  if k0 < 12 then
  if (σ.1 14 k0 1) = 0 then
  (some 0)
  else
  (if k1 < 40 then
  some (((7 * (σ.1 15 k1 2)) + (3 * (σ.1 15 k1 3))) - (σ.1 15 k1 4))
  else none)
  else none
set_option maxHeartbeats 4000000 in
set_option maxRecDepth 100000 in
theorem cD_realResult (l : Launch) (E : xE) (σ : xS) (τ : yS) (k0 : Nat) (k1 : Nat) (res : Int32) (hf : fD_realResult σ k0 k1 = some res) : xM l E yD_realResult bD_realResult 2 (some .int) 0 0 0 [.ref (E.2.2.1 14 k0), .ref (E.2.2.1 15 k1)] σ τ (some (.int res)) σ τ := by
  refine x_met (by decide) (Nat.le_of_ble_eq_true rfl) (fun p e R s m args below meth c A ls H locs C hw hl => ?_)
  have hl : lv_has ls 2 [(0, .ref (E.2.2.1 14 k0)), (1, .ref (E.2.2.1 15 k1))] := hl
  have hx := C.1
  have hb := C.2.1
  unfold fD_realResult at hf
  refine lv_aload_n hx hb dD_realResult_0 rfl (lv_at hl 0 rfl) ?_
  obtain ⟨g1, hf⟩ := x_g hf
  refine x_get C hw 14 k0 1 (v := .int (σ.1 14 k0 1)) (at_14 g1) rfl rfl ⟨by decide, by decide⟩ wD_15 rfl dD_realResult_1 ?_
  refine lv_if_eq (tgt := 29) hx hb dD_realResult_4 (by decide) (fun c2 => ?_) (fun c2 => ?_)
  · replace hf := x_ip c2 hf
    refine lv_iconst (v := 0) hx hb dD_realResult_29 (by decide) ?_
    obtain rfl := Option.some.inj hf
    exact x_iret C hw dD_realResult_30
  · replace hf := x_in c2 hf
    refine lv_bipush (v := 7) hx hb dD_realResult_7 (by decide) ?_
    refine lv_aload_n hx hb dD_realResult_9 rfl (lv_at hl 1 rfl) ?_
    obtain ⟨g3, hf⟩ := x_g hf
    refine x_getN C hw 15 k1 2 (v := .int (σ.1 15 k1 2)) (at_15 g3) rfl rfl ⟨by decide, by decide⟩ wD_19 rfl dD_realResult_10 ?_
    refine lv_imul hx hb dD_realResult_13 ?_
    refine lv_iconst (v := 3) hx hb dD_realResult_14 (by decide) ?_
    refine lv_aload_n hx hb dD_realResult_15 rfl (lv_at hl 1 rfl) ?_
    refine x_getN C hw 15 k1 3 (v := .int (σ.1 15 k1 3)) (at_15 g3) rfl rfl ⟨by decide, by decide⟩ wD_24 rfl dD_realResult_16 ?_
    refine lv_imul hx hb dD_realResult_19 ?_
    refine lv_iadd hx hb dD_realResult_20 ?_
    refine lv_aload_n hx hb dD_realResult_21 rfl (lv_at hl 1 rfl) ?_
    refine x_getN C hw 15 k1 4 (v := .int (σ.1 15 k1 4)) (at_15 g3) rfl rfl ⟨by decide, by decide⟩ wD_27 rfl dD_realResult_22 ?_
    refine lv_isub hx hb dD_realResult_25 ?_
    refine lv_goto (tgt := 30) hx hb dD_realResult_26 (by decide) ?_
    obtain rfl := Option.some.inj hf
    exact x_iret C hw dD_realResult_30
-- StandIns$Answers spokenTo (ILStandIns$Note;LStandIns$Method;)J
set_option maxRecDepth 100000 in
theorem dQ_spokenTo_0 : decode bQ_spokenTo 0 = .ok (.aload_n 0, 1) := by decide +kernel
set_option maxRecDepth 100000 in
theorem dQ_spokenTo_1 : decode bQ_spokenTo 1 = .ok (.getfield 9, 3) := by decide +kernel
set_option maxRecDepth 100000 in
theorem dQ_spokenTo_4 : decode bQ_spokenTo 4 = .ok (.iload_n 1, 1) := by decide +kernel
set_option maxRecDepth 100000 in
theorem dQ_spokenTo_5 : decode bQ_spokenTo 5 = .ok (.iaload, 1) := by decide +kernel
set_option maxRecDepth 100000 in
theorem dQ_spokenTo_6 : decode bQ_spokenTo 6 = .ok (.tableswitch 80 0 2 #[26, 45, 57], 26) := by decide +kernel
set_option maxRecDepth 100000 in
theorem dQ_spokenTo_32 : decode bQ_spokenTo 32 = .ok (.aload_n 3, 1) := by decide +kernel
set_option maxRecDepth 100000 in
theorem dQ_spokenTo_33 : decode bQ_spokenTo 33 = .ok (.getfield 32, 3) := by decide +kernel
set_option maxRecDepth 100000 in
theorem dQ_spokenTo_36 : decode bQ_spokenTo 36 = .ok (.ifCond .eq 13, 3) := by decide +kernel
set_option maxRecDepth 100000 in
theorem dQ_spokenTo_39 : decode bQ_spokenTo 39 = .ok (.aload_n 0, 1) := by decide +kernel
set_option maxRecDepth 100000 in
theorem dQ_spokenTo_40 : decode bQ_spokenTo 40 = .ok (.getfield 15, 3) := by decide +kernel
set_option maxRecDepth 100000 in
theorem dQ_spokenTo_43 : decode bQ_spokenTo 43 = .ok (.iload_n 1, 1) := by decide +kernel
set_option maxRecDepth 100000 in
theorem dQ_spokenTo_44 : decode bQ_spokenTo 44 = .ok (.iaload, 1) := by decide +kernel
set_option maxRecDepth 100000 in
theorem dQ_spokenTo_45 : decode bQ_spokenTo 45 = .ok (.i2l, 1) := by decide +kernel
set_option maxRecDepth 100000 in
theorem dQ_spokenTo_46 : decode bQ_spokenTo 46 = .ok (.goto 4, 3) := by decide +kernel
set_option maxRecDepth 100000 in
theorem dQ_spokenTo_49 : decode bQ_spokenTo 49 = .ok (.lconst 0, 1) := by decide +kernel
set_option maxRecDepth 100000 in
theorem dQ_spokenTo_50 : decode bQ_spokenTo 50 = .ok (.lreturn, 1) := by decide +kernel
set_option maxRecDepth 100000 in
theorem dQ_spokenTo_51 : decode bQ_spokenTo 51 = .ok (.ldc2_w 36, 3) := by decide +kernel
set_option maxRecDepth 100000 in
theorem dQ_spokenTo_54 : decode bQ_spokenTo 54 = .ok (.aload_n 0, 1) := by decide +kernel
set_option maxRecDepth 100000 in
theorem dQ_spokenTo_55 : decode bQ_spokenTo 55 = .ok (.getfield 15, 3) := by decide +kernel
set_option maxRecDepth 100000 in
theorem dQ_spokenTo_58 : decode bQ_spokenTo 58 = .ok (.iload_n 1, 1) := by decide +kernel
set_option maxRecDepth 100000 in
theorem dQ_spokenTo_59 : decode bQ_spokenTo 59 = .ok (.iaload, 1) := by decide +kernel
set_option maxRecDepth 100000 in
theorem dQ_spokenTo_60 : decode bQ_spokenTo 60 = .ok (.i2l, 1) := by decide +kernel
set_option maxRecDepth 100000 in
theorem dQ_spokenTo_61 : decode bQ_spokenTo 61 = .ok (.ladd, 1) := by decide +kernel
set_option maxRecDepth 100000 in
theorem dQ_spokenTo_62 : decode bQ_spokenTo 62 = .ok (.lreturn, 1) := by decide +kernel
set_option maxRecDepth 100000 in
theorem dQ_spokenTo_63 : decode bQ_spokenTo 63 = .ok (.aload_n 0, 1) := by decide +kernel
set_option maxRecDepth 100000 in
theorem dQ_spokenTo_64 : decode bQ_spokenTo 64 = .ok (.getfield 15, 3) := by decide +kernel
set_option maxRecDepth 100000 in
theorem dQ_spokenTo_67 : decode bQ_spokenTo 67 = .ok (.iload_n 1, 1) := by decide +kernel
set_option maxRecDepth 100000 in
theorem dQ_spokenTo_68 : decode bQ_spokenTo 68 = .ok (.iaload, 1) := by decide +kernel
set_option maxRecDepth 100000 in
theorem dQ_spokenTo_69 : decode bQ_spokenTo 69 = .ok (.ifCond .ne 11, 3) := by decide +kernel
set_option maxRecDepth 100000 in
theorem dQ_spokenTo_72 : decode bQ_spokenTo 72 = .ok (.aload_n 2, 1) := by decide +kernel
set_option maxRecDepth 100000 in
theorem dQ_spokenTo_73 : decode bQ_spokenTo 73 = .ok (.getfield 38, 3) := by decide +kernel
set_option maxRecDepth 100000 in
theorem dQ_spokenTo_76 : decode bQ_spokenTo 76 = .ok (.i2l, 1) := by decide +kernel
set_option maxRecDepth 100000 in
theorem dQ_spokenTo_77 : decode bQ_spokenTo 77 = .ok (.goto 8, 3) := by decide +kernel
set_option maxRecDepth 100000 in
theorem dQ_spokenTo_80 : decode bQ_spokenTo 80 = .ok (.aload_n 2, 1) := by decide +kernel
set_option maxRecDepth 100000 in
theorem dQ_spokenTo_81 : decode bQ_spokenTo 81 = .ok (.getfield 43, 3) := by decide +kernel
set_option maxRecDepth 100000 in
theorem dQ_spokenTo_84 : decode bQ_spokenTo 84 = .ok (.i2l, 1) := by decide +kernel
set_option maxRecDepth 100000 in
theorem dQ_spokenTo_85 : decode bQ_spokenTo 85 = .ok (.lreturn, 1) := by decide +kernel
set_option maxRecDepth 100000 in
theorem dQ_spokenTo_86 : decode bQ_spokenTo 86 = .ok (.aload_n 3, 1) := by decide +kernel
set_option maxRecDepth 100000 in
theorem dQ_spokenTo_87 : decode bQ_spokenTo 87 = .ok (.aload_n 2, 1) := by decide +kernel
set_option maxRecDepth 100000 in
theorem dQ_spokenTo_88 : decode bQ_spokenTo 88 = .ok (.invokevirtual 46, 3) := by decide +kernel
set_option maxRecDepth 100000 in
theorem dQ_spokenTo_91 : decode bQ_spokenTo 91 = .ok (.i2l, 1) := by decide +kernel
set_option maxRecDepth 100000 in
theorem dQ_spokenTo_92 : decode bQ_spokenTo 92 = .ok (.lreturn, 1) := by decide +kernel
def fQ_spokenTo (σ : xS) (k0 : Nat) (a1 : Int32) (k2 : Nat) (k3 : Nat) : Option (Int64) :=
  if k0 < 17 then
  if ¬ (a1 < 0 ∨ 4 ≤ a1.toNatClampNeg) then
  if (σ.1 19 k0 a1.toNatClampNeg) = 0 then
  (if k3 < 12 then
  if (σ.1 14 k3 1) = 0 then
  (some 0)
  else
  (some ((σ.1 20 k0 a1.toNatClampNeg).toInt64))
  else none)
  else
  (if (σ.1 19 k0 a1.toNatClampNeg) = 1 then
  (some (1099511627776 + ((σ.1 20 k0 a1.toNatClampNeg).toInt64)))
  else
  (if (σ.1 19 k0 a1.toNatClampNeg) = 2 then
  (if (σ.1 20 k0 a1.toNatClampNeg) = 0 then
  (if k2 < 40 then
  some ((σ.1 15 k2 3).toInt64)
  else none)
  else
  (if k2 < 40 then
  some ((σ.1 15 k2 4).toInt64)
  else none))
  else
  (xp (fD_realResult σ k3 k2) fun r12 =>
  if k3 < 12 then
  some r12.toInt64
  else none)))
  else none
  else none
set_option maxHeartbeats 4000000 in
set_option maxRecDepth 100000 in
theorem cQ_spokenTo (l : Launch) (E : xE) (σ : xS) (τ : yS) (k0 : Nat) (a1 : Int32) (k2 : Nat) (k3 : Nat) (res : Int64) (hf : fQ_spokenTo σ k0 a1 k2 k3 = some res) : xM l E yQ_spokenTo bQ_spokenTo 4 (some .long) 1 0 0 [.ref (E.2.2.1 18 k0), .int a1, .ref (E.2.2.1 15 k2), .ref (E.2.2.1 14 k3)] σ τ (some (.long res)) σ τ := by
  refine x_met (by decide) (Nat.le_of_ble_eq_true rfl) (fun p e R s m args below meth c A ls H locs C hw hl => ?_)
  have hl : lv_has ls 4 [(0, .ref (E.2.2.1 18 k0)), (1, .int a1), (2, .ref (E.2.2.1 15 k2)), (3, .ref (E.2.2.1 14 k3))] := hl
  have hx := C.1
  have hb := C.2.1
  unfold fQ_spokenTo at hf
  refine lv_aload_n hx hb dQ_spokenTo_0 rfl (lv_at hl 0 rfl) ?_
  obtain ⟨g1, hf⟩ := x_g hf
  refine x_get C hw 18 k0 0 (v := .ref (E.2.2.1 19 k0)) (at_18 g1) rfl rfl ⟨by decide, by decide⟩ wQ_9 rfl dQ_spokenTo_1 ?_
  refine lv_iload_n hx hb dQ_spokenTo_4 rfl (lv_at hl 1 rfl) ?_
  obtain ⟨g2, hf⟩ := x_g hf
  refine x_ild C hw 19 k0 (at_19 g1) rfl g2 dQ_spokenTo_5 ?_
  by_cases c3 : (σ.1 19 k0 a1.toNatClampNeg) = 0
  · replace hf := x_ip c3 hf
    refine lv_tableIn (tgt := 32) hx hb dQ_spokenTo_6 (by rw [c3]; decide) (by rw [c3]; decide) (by rw [c3]; rfl) (by decide) ?_
    refine lv_aload_n hx hb dQ_spokenTo_32 rfl (lv_at hl 3 rfl) ?_
    obtain ⟨g4, hf⟩ := x_g hf
    refine x_getN C hw 14 k3 1 (v := .int (σ.1 14 k3 1)) (at_14 g4) rfl rfl ⟨by decide, by decide⟩ wQ_32 rfl dQ_spokenTo_33 ?_
    refine lv_if_eq (tgt := 49) hx hb dQ_spokenTo_36 (by decide) (fun c5 => ?_) (fun c5 => ?_)
    · replace hf := x_ip c5 hf
      refine lv_lconst (v := 0) hx hb dQ_spokenTo_49 (by decide) ?_
      obtain rfl := Option.some.inj hf
      exact x_lret C hw dQ_spokenTo_50
    · replace hf := x_in c5 hf
      refine lv_aload_n hx hb dQ_spokenTo_39 rfl (lv_at hl 0 rfl) ?_
      refine x_get C hw 18 k0 1 (v := .ref (E.2.2.1 20 k0)) (at_18 g1) rfl rfl ⟨by decide, by decide⟩ wQ_15 rfl dQ_spokenTo_40 ?_
      refine lv_iload_n hx hb dQ_spokenTo_43 rfl (lv_at hl 1 rfl) ?_
      refine x_ild C hw 20 k0 (at_20 g1) rfl g2 dQ_spokenTo_44 ?_
      refine lv_i2l hx hb dQ_spokenTo_45 rfl ?_
      refine lv_goto (tgt := 50) hx hb dQ_spokenTo_46 (by decide) ?_
      obtain rfl := Option.some.inj hf
      exact x_lret C hw dQ_spokenTo_50
  · replace hf := x_in c3 hf
    by_cases c6 : (σ.1 19 k0 a1.toNatClampNeg) = 1
    · replace hf := x_ip c6 hf
      refine lv_tableIn (tgt := 51) hx hb dQ_spokenTo_6 (by rw [c6]; decide) (by rw [c6]; decide) (by rw [c6]; rfl) (by decide) ?_
      refine lv_ldc2 (v := 1099511627776) hx hb C.own (C.tb wQ_36) dQ_spokenTo_51 ?_
      refine lv_aload_n hx hb dQ_spokenTo_54 rfl (lv_at hl 0 rfl) ?_
      refine x_get C hw 18 k0 1 (v := .ref (E.2.2.1 20 k0)) (at_18 g1) rfl rfl ⟨by decide, by decide⟩ wQ_15 rfl dQ_spokenTo_55 ?_
      refine lv_iload_n hx hb dQ_spokenTo_58 rfl (lv_at hl 1 rfl) ?_
      refine x_ild C hw 20 k0 (at_20 g1) rfl g2 dQ_spokenTo_59 ?_
      refine lv_i2l hx hb dQ_spokenTo_60 rfl ?_
      refine lv_ladd hx hb dQ_spokenTo_61 ?_
      obtain rfl := Option.some.inj hf
      exact x_lret C hw dQ_spokenTo_62
    · replace hf := x_in c6 hf
      by_cases c7 : (σ.1 19 k0 a1.toNatClampNeg) = 2
      · replace hf := x_ip c7 hf
        refine lv_tableIn (tgt := 63) hx hb dQ_spokenTo_6 (by rw [c7]; decide) (by rw [c7]; decide) (by rw [c7]; rfl) (by decide) ?_
        refine lv_aload_n hx hb dQ_spokenTo_63 rfl (lv_at hl 0 rfl) ?_
        refine x_get C hw 18 k0 1 (v := .ref (E.2.2.1 20 k0)) (at_18 g1) rfl rfl ⟨by decide, by decide⟩ wQ_15 rfl dQ_spokenTo_64 ?_
        refine lv_iload_n hx hb dQ_spokenTo_67 rfl (lv_at hl 1 rfl) ?_
        refine x_ild C hw 20 k0 (at_20 g1) rfl g2 dQ_spokenTo_68 ?_
        refine lv_if_ne (tgt := 80) hx hb dQ_spokenTo_69 (by decide) (fun c8 => ?_) (fun c8 => ?_)
        · replace hf := x_in c8 hf
          refine lv_aload_n hx hb dQ_spokenTo_80 rfl (lv_at hl 2 rfl) ?_
          obtain ⟨g9, hf⟩ := x_g hf
          refine x_getN C hw 15 k2 4 (v := .int (σ.1 15 k2 4)) (at_15 g9) rfl rfl ⟨by decide, by decide⟩ wQ_43 rfl dQ_spokenTo_81 ?_
          refine lv_i2l hx hb dQ_spokenTo_84 rfl ?_
          obtain rfl := Option.some.inj hf
          exact x_lret C hw dQ_spokenTo_85
        · replace hf := x_ip c8 hf
          refine lv_aload_n hx hb dQ_spokenTo_72 rfl (lv_at hl 2 rfl) ?_
          obtain ⟨g10, hf⟩ := x_g hf
          refine x_getN C hw 15 k2 3 (v := .int (σ.1 15 k2 3)) (at_15 g10) rfl rfl ⟨by decide, by decide⟩ wQ_38 rfl dQ_spokenTo_73 ?_
          refine lv_i2l hx hb dQ_spokenTo_76 rfl ?_
          refine lv_goto (tgt := 85) hx hb dQ_spokenTo_77 (by decide) ?_
          obtain rfl := Option.some.inj hf
          exact x_lret C hw dQ_spokenTo_85
      · replace hf := x_in c7 hf
        refine lv_tableOut (tgt := 86) hx hb dQ_spokenTo_6 (by have nc3 := lv_neT c3 (a := 0) (by decide); have nc6 := lv_neT c6 (a := 1) (by decide); have nc7 := lv_neT c7 (a := 2) (by decide); omega) (by decide) ?_
        refine lv_aload_n hx hb dQ_spokenTo_86 rfl (lv_at hl 3 rfl) ?_
        refine lv_aload_n hx hb dQ_spokenTo_87 rfl (lv_at hl 2 rfl) ?_
        obtain ⟨r12, h11, hf⟩ := x_p hf
        obtain ⟨g13, hf⟩ := x_g hf
        refine x_callVN (As := [.ref (E.2.2.1 15 k2)]) (rest := []) (st1 := [.int r12]) C hw (cD_realResult l E σ τ k3 k2 r12 h11) kQ_46 (x_recv C hw 14 k3 (at_14 g13) rfl rfl) (by decide) rfl rfl hl.1 (lv_room (Nat.le_of_ble_eq_true rfl)) dQ_spokenTo_88 ⟨by decide, by decide⟩ rfl (fun H locs hw => ?_)
        refine lv_i2l hx hb dQ_spokenTo_91 rfl ?_
        obtain rfl := Option.some.inj hf
        exact x_lret C hw dQ_spokenTo_92
-- StandIns$Telling answerTo (LStandIns$Note;LStandIns$Method;)J
set_option maxRecDepth 100000 in
theorem dT_answerTo_0 : decode bT_answerTo 0 = .ok (.aload_n 0, 1) := by decide +kernel
set_option maxRecDepth 100000 in
theorem dT_answerTo_1 : decode bT_answerTo 1 = .ok (.getfield 23, 3) := by decide +kernel
set_option maxRecDepth 100000 in
theorem dT_answerTo_4 : decode bT_answerTo 4 = .ok (.istore_n 3, 1) := by decide +kernel
set_option maxRecDepth 100000 in
theorem dT_answerTo_5 : decode bT_answerTo 5 = .ok (.aload_n 0, 1) := by decide +kernel
set_option maxRecDepth 100000 in
theorem dT_answerTo_6 : decode bT_answerTo 6 = .ok (.getfield 23, 3) := by decide +kernel
set_option maxRecDepth 100000 in
theorem dT_answerTo_9 : decode bT_answerTo 9 = .ok (.aload_n 0, 1) := by decide +kernel
set_option maxRecDepth 100000 in
theorem dT_answerTo_10 : decode bT_answerTo 10 = .ok (.getfield 19, 3) := by decide +kernel
set_option maxRecDepth 100000 in
theorem dT_answerTo_13 : decode bT_answerTo 13 = .ok (.getfield 34, 3) := by decide +kernel
set_option maxRecDepth 100000 in
theorem dT_answerTo_16 : decode bT_answerTo 16 = .ok (.iconst 1, 1) := by decide +kernel
set_option maxRecDepth 100000 in
theorem dT_answerTo_17 : decode bT_answerTo 17 = .ok (.isub, 1) := by decide +kernel
set_option maxRecDepth 100000 in
theorem dT_answerTo_18 : decode bT_answerTo 18 = .ok (.if_icmp .ge 13, 3) := by decide +kernel
set_option maxRecDepth 100000 in
theorem dT_answerTo_21 : decode bT_answerTo 21 = .ok (.aload_n 0, 1) := by decide +kernel
set_option maxRecDepth 100000 in
theorem dT_answerTo_22 : decode bT_answerTo 22 = .ok (.dup, 1) := by decide +kernel
set_option maxRecDepth 100000 in
theorem dT_answerTo_23 : decode bT_answerTo 23 = .ok (.getfield 23, 3) := by decide +kernel
set_option maxRecDepth 100000 in
theorem dT_answerTo_26 : decode bT_answerTo 26 = .ok (.iconst 1, 1) := by decide +kernel
set_option maxRecDepth 100000 in
theorem dT_answerTo_27 : decode bT_answerTo 27 = .ok (.iadd, 1) := by decide +kernel
set_option maxRecDepth 100000 in
theorem dT_answerTo_28 : decode bT_answerTo 28 = .ok (.putfield 23, 3) := by decide +kernel
set_option maxRecDepth 100000 in
theorem dT_answerTo_31 : decode bT_answerTo 31 = .ok (.aload_n 0, 1) := by decide +kernel
set_option maxRecDepth 100000 in
theorem dT_answerTo_32 : decode bT_answerTo 32 = .ok (.dup, 1) := by decide +kernel
set_option maxRecDepth 100000 in
theorem dT_answerTo_33 : decode bT_answerTo 33 = .ok (.getfield 27, 3) := by decide +kernel
set_option maxRecDepth 100000 in
theorem dT_answerTo_36 : decode bT_answerTo 36 = .ok (.iconst 1, 1) := by decide +kernel
set_option maxRecDepth 100000 in
theorem dT_answerTo_37 : decode bT_answerTo 37 = .ok (.iadd, 1) := by decide +kernel
set_option maxRecDepth 100000 in
theorem dT_answerTo_38 : decode bT_answerTo 38 = .ok (.putfield 27, 3) := by decide +kernel
set_option maxRecDepth 100000 in
theorem dT_answerTo_41 : decode bT_answerTo 41 = .ok (.aload_n 0, 1) := by decide +kernel
set_option maxRecDepth 100000 in
theorem dT_answerTo_42 : decode bT_answerTo 42 = .ok (.getfield 19, 3) := by decide +kernel
set_option maxRecDepth 100000 in
theorem dT_answerTo_45 : decode bT_answerTo 45 = .ok (.iload_n 3, 1) := by decide +kernel
set_option maxRecDepth 100000 in
theorem dT_answerTo_46 : decode bT_answerTo 46 = .ok (.aload_n 1, 1) := by decide +kernel
set_option maxRecDepth 100000 in
theorem dT_answerTo_47 : decode bT_answerTo 47 = .ok (.aload_n 2, 1) := by decide +kernel
set_option maxRecDepth 100000 in
theorem dT_answerTo_48 : decode bT_answerTo 48 = .ok (.invokevirtual 37, 3) := by decide +kernel
set_option maxRecDepth 100000 in
theorem dT_answerTo_51 : decode bT_answerTo 51 = .ok (.lreturn, 1) := by decide +kernel
def fT_answerTo_31 (σ : xS) (k0 : Nat) (k1 : Nat) (k2 : Nat) (a3 : Int32) : Option (Int64 × xS) :=
  if k0 < 16 then
  xl (x_si σ 16 k0 3 ((σ.1 16 k0 3) + 1)) fun s7 =>
  xp (fQ_spokenTo s7 k0 a3 k1 k2) fun r9 =>
  if k0 < 17 then
  some (r9, s7)
  else none
  else none
def fT_answerTo (σ : xS) (k0 : Nat) (k1 : Nat) (k2 : Nat) : Option (Int64 × xS) :=
  if k0 < 16 then
  if k0 < 17 then
  if ((σ.1 18 k0 2) - 1) ≤ (σ.1 16 k0 2) then
  (fT_answerTo_31 σ k0 k1 k2 (σ.1 16 k0 2))
  else
  (xl (x_si σ 16 k0 2 ((σ.1 16 k0 2) + 1)) fun s14 =>
  fT_answerTo_31 s14 k0 k1 k2 (σ.1 16 k0 2))
  else none
  else none
set_option maxHeartbeats 4000000 in
set_option maxRecDepth 100000 in
theorem wT_answerTo_31 {p : Program} {l : Launch} {e : Env} {R : Room} {s : State} {m : MethodId} {args : Array Value} {below : List Frame} {meth : Method} {c : Code} {E : xE} {A : Nat → Prop} {τ : yS} (C : xC p s m args meth c R E A bT_answerTo 4 yT_answerTo (some .long) 2 0 0) (σ : xS) (k0 : Nat) (k1 : Nat) (k2 : Nat) (a3 : Int32) (res : Int64 × xS) (hf : fT_answerTo_31 σ k0 k1 k2 a3 = some res) (H : Heap) (locs : List Loc) (ls : Array Slot) (hw : xW E A s σ τ H locs) (hl : lv_has ls 4 [(0, .ref (E.2.2.1 16 k0)), (1, .ref (E.2.2.1 15 k1)), (2, .ref (E.2.2.1 14 k2)), (3, .int a3)]) : W p l e R s m args below meth c H locs 0 0 (MQ below (xQ E A (some (.long res.1)) res.2 τ) args s 0 0 A) (F0 m 31 ls []) := by
  have hx := C.1
  have hb := C.2.1
  unfold fT_answerTo_31 at hf
  refine lv_aload_n hx hb dT_answerTo_31 rfl (lv_at hl 0 rfl) ?_
  refine lv_dup hx hb dT_answerTo_32 rfl ?_
  obtain ⟨g6, hf⟩ := x_g hf
  refine x_get C hw 16 k0 3 (v := .int (σ.1 16 k0 3)) (at_16 g6) rfl rfl ⟨by decide, by decide⟩ wT_27 rfl dT_answerTo_33 ?_
  refine lv_iconst (v := 1) hx hb dT_answerTo_36 (by decide) ?_
  refine lv_iadd hx hb dT_answerTo_37 ?_
  refine x_puti C hw 16 k0 3 (at_16 g6) rfl rfl rfl ⟨rfl, rfl⟩ ⟨by decide, by decide⟩ (Nat.le_of_ble_eq_true rfl) wT_27 dT_answerTo_38 (fun H locs hw => ?_)
  obtain ⟨s7, es7, hf⟩ := x_l hf
  rw [← es7] at hw
  refine lv_aload_n hx hb dT_answerTo_41 rfl (lv_at hl 0 rfl) ?_
  refine x_get C hw 16 k0 1 (v := .ref (E.2.2.1 18 k0)) (at_16 g6) rfl rfl ⟨by decide, by decide⟩ wT_19 rfl dT_answerTo_42 ?_
  refine lv_iload_n hx hb dT_answerTo_45 rfl (lv_at hl 3 rfl) ?_
  refine lv_aload_n hx hb dT_answerTo_46 rfl (lv_at hl 1 rfl) ?_
  refine lv_aload_n hx hb dT_answerTo_47 rfl (lv_at hl 2 rfl) ?_
  obtain ⟨r9, h8, hf⟩ := x_p hf
  obtain ⟨g10, hf⟩ := x_g hf
  refine x_callVN (As := [.int a3, .ref (E.2.2.1 15 k1), .ref (E.2.2.1 14 k2)]) (rest := []) (st1 := [.long r9]) C hw (cQ_spokenTo l E s7 τ k0 a3 k1 k2 r9 h8) kT_37 (x_recv C hw 18 k0 (at_18 g10) rfl rfl) (by decide) rfl rfl hl.1 (lv_room (Nat.le_of_ble_eq_true rfl)) dT_answerTo_48 ⟨by decide, by decide⟩ rfl (fun H locs hw => ?_)
  obtain rfl := Option.some.inj hf
  exact x_lret C hw dT_answerTo_51
set_option maxHeartbeats 4000000 in
set_option maxRecDepth 100000 in
theorem cT_answerTo (l : Launch) (E : xE) (σ : xS) (τ : yS) (k0 : Nat) (k1 : Nat) (k2 : Nat) (res : Int64 × xS) (hf : fT_answerTo σ k0 k1 k2 = some res) : xM l E yT_answerTo bT_answerTo 4 (some .long) 2 0 0 [.ref (E.2.2.1 16 k0), .ref (E.2.2.1 15 k1), .ref (E.2.2.1 14 k2)] σ τ (some (.long res.1)) res.2 τ := by
  refine x_met (by decide) (Nat.le_of_ble_eq_true rfl) (fun p e R s m args below meth c A ls H locs C hw hl => ?_)
  have hl : lv_has ls 4 [(0, .ref (E.2.2.1 16 k0)), (1, .ref (E.2.2.1 15 k1)), (2, .ref (E.2.2.1 14 k2))] := hl
  have hx := C.1
  have hb := C.2.1
  unfold fT_answerTo at hf
  refine lv_aload_n hx hb dT_answerTo_0 rfl (lv_at hl 0 rfl) ?_
  obtain ⟨g11, hf⟩ := x_g hf
  refine x_get C hw 16 k0 2 (v := .int (σ.1 16 k0 2)) (at_16 g11) rfl rfl ⟨by decide, by decide⟩ wT_23 rfl dT_answerTo_1 ?_
  refine lv_istore_n (lv' := [(3, .int (σ.1 16 k0 2)), (0, .ref (E.2.2.1 16 k0)), (1, .ref (E.2.2.1 15 k1)), (2, .ref (E.2.2.1 14 k2))]) hx hb dT_answerTo_4 rfl hl (by decide) rfl (fun ls hl => ?_)
  refine lv_aload_n hx hb dT_answerTo_5 rfl (lv_at hl 1 rfl) ?_
  refine x_get C hw 16 k0 2 (v := .int (σ.1 16 k0 2)) (at_16 g11) rfl rfl ⟨by decide, by decide⟩ wT_23 rfl dT_answerTo_6 ?_
  refine lv_aload_n hx hb dT_answerTo_9 rfl (lv_at hl 1 rfl) ?_
  refine x_get C hw 16 k0 1 (v := .ref (E.2.2.1 18 k0)) (at_16 g11) rfl rfl ⟨by decide, by decide⟩ wT_19 rfl dT_answerTo_10 ?_
  obtain ⟨g12, hf⟩ := x_g hf
  refine x_getN C hw 18 k0 2 (v := .int (σ.1 18 k0 2)) (at_18 g12) rfl rfl ⟨by decide, by decide⟩ wT_34 rfl dT_answerTo_13 ?_
  refine lv_iconst (v := 1) hx hb dT_answerTo_16 (by decide) ?_
  refine lv_isub hx hb dT_answerTo_17 ?_
  refine lv_icmp_ge (tgt := 31) hx hb dT_answerTo_18 (by decide) (fun c13 => ?_) (fun c13 => ?_)
  · replace hf := x_ip c13 hf
    exact wT_answerTo_31 C σ k0 k1 k2 (σ.1 16 k0 2) res hf H locs ls hw (lv_sub hl [1, 2, 3, 0] rfl)
  · replace hf := x_in c13 hf
    refine lv_aload_n hx hb dT_answerTo_21 rfl (lv_at hl 1 rfl) ?_
    refine lv_dup hx hb dT_answerTo_22 rfl ?_
    refine x_get C hw 16 k0 2 (v := .int (σ.1 16 k0 2)) (at_16 g11) rfl rfl ⟨by decide, by decide⟩ wT_23 rfl dT_answerTo_23 ?_
    refine lv_iconst (v := 1) hx hb dT_answerTo_26 (by decide) ?_
    refine lv_iadd hx hb dT_answerTo_27 ?_
    refine x_puti C hw 16 k0 2 (at_16 g11) rfl rfl rfl ⟨rfl, rfl⟩ ⟨by decide, by decide⟩ (Nat.le_of_ble_eq_true rfl) wT_23 dT_answerTo_28 (fun H locs hw => ?_)
    obtain ⟨s14, es14, hf⟩ := x_l hf
    rw [← es14] at hw
    exact wT_answerTo_31 C s14 k0 k1 k2 (σ.1 16 k0 2) res hf H locs ls hw (lv_sub hl [1, 2, 3, 0] rfl)
-- StandIns noteAndAnswer (LStandIns$Method;II)J
set_option maxRecDepth 100000 in
theorem dA_noteAndAnswer_0 : decode bA_noteAndAnswer 0 = .ok (.aload_n 0, 1) := by decide +kernel
set_option maxRecDepth 100000 in
theorem dA_noteAndAnswer_1 : decode bA_noteAndAnswer 1 = .ok (.getfield 43, 3) := by decide +kernel
set_option maxRecDepth 100000 in
theorem dA_noteAndAnswer_4 : decode bA_noteAndAnswer 4 = .ok (.aload_n 0, 1) := by decide +kernel
set_option maxRecDepth 100000 in
theorem dA_noteAndAnswer_5 : decode bA_noteAndAnswer 5 = .ok (.getfield 73, 3) := by decide +kernel
set_option maxRecDepth 100000 in
theorem dA_noteAndAnswer_8 : decode bA_noteAndAnswer 8 = .ok (.iload_n 2, 1) := by decide +kernel
set_option maxRecDepth 100000 in
theorem dA_noteAndAnswer_9 : decode bA_noteAndAnswer 9 = .ok (.iload_n 3, 1) := by decide +kernel
set_option maxRecDepth 100000 in
theorem dA_noteAndAnswer_10 : decode bA_noteAndAnswer 10 = .ok (.invokevirtual 307, 3) := by decide +kernel
set_option maxRecDepth 100000 in
theorem dA_noteAndAnswer_13 : decode bA_noteAndAnswer 13 = .ok (.astore 4, 2) := by decide +kernel
set_option maxRecDepth 100000 in
theorem dA_noteAndAnswer_15 : decode bA_noteAndAnswer 15 = .ok (.aload 4, 2) := by decide +kernel
set_option maxRecDepth 100000 in
theorem dA_noteAndAnswer_17 : decode bA_noteAndAnswer 17 = .ok (.aload_n 0, 1) := by decide +kernel
set_option maxRecDepth 100000 in
theorem dA_noteAndAnswer_18 : decode bA_noteAndAnswer 18 = .ok (.aload 4, 2) := by decide +kernel
set_option maxRecDepth 100000 in
theorem dA_noteAndAnswer_20 : decode bA_noteAndAnswer 20 = .ok (.invokevirtual 310, 3) := by decide +kernel
set_option maxRecDepth 100000 in
theorem dA_noteAndAnswer_23 : decode bA_noteAndAnswer 23 = .ok (.putfield 246, 3) := by decide +kernel
set_option maxRecDepth 100000 in
theorem dA_noteAndAnswer_26 : decode bA_noteAndAnswer 26 = .ok (.aload_n 0, 1) := by decide +kernel
set_option maxRecDepth 100000 in
theorem dA_noteAndAnswer_27 : decode bA_noteAndAnswer 27 = .ok (.iconst 1, 1) := by decide +kernel
set_option maxRecDepth 100000 in
theorem dA_noteAndAnswer_28 : decode bA_noteAndAnswer 28 = .ok (.putfield 77, 3) := by decide +kernel
set_option maxRecDepth 100000 in
theorem dA_noteAndAnswer_31 : decode bA_noteAndAnswer 31 = .ok (.aload 4, 2) := by decide +kernel
set_option maxRecDepth 100000 in
theorem dA_noteAndAnswer_33 : decode bA_noteAndAnswer 33 = .ok (.getfield 246, 3) := by decide +kernel
set_option maxRecDepth 100000 in
theorem dA_noteAndAnswer_36 : decode bA_noteAndAnswer 36 = .ok (.iconst (-1), 1) := by decide +kernel
set_option maxRecDepth 100000 in
theorem dA_noteAndAnswer_37 : decode bA_noteAndAnswer 37 = .ok (.if_icmp .eq 20, 3) := by decide +kernel
set_option maxRecDepth 100000 in
theorem dA_noteAndAnswer_40 : decode bA_noteAndAnswer 40 = .ok (.aload_n 0, 1) := by decide +kernel
set_option maxRecDepth 100000 in
theorem dA_noteAndAnswer_41 : decode bA_noteAndAnswer 41 = .ok (.getfield 49, 3) := by decide +kernel
set_option maxRecDepth 100000 in
theorem dA_noteAndAnswer_44 : decode bA_noteAndAnswer 44 = .ok (.aload 4, 2) := by decide +kernel
set_option maxRecDepth 100000 in
theorem dA_noteAndAnswer_46 : decode bA_noteAndAnswer 46 = .ok (.getfield 246, 3) := by decide +kernel
set_option maxRecDepth 100000 in
theorem dA_noteAndAnswer_49 : decode bA_noteAndAnswer 49 = .ok (.aaload, 1) := by decide +kernel
set_option maxRecDepth 100000 in
theorem dA_noteAndAnswer_50 : decode bA_noteAndAnswer 50 = .ok (.aload 4, 2) := by decide +kernel
set_option maxRecDepth 100000 in
theorem dA_noteAndAnswer_52 : decode bA_noteAndAnswer 52 = .ok (.aload_n 1, 1) := by decide +kernel
set_option maxRecDepth 100000 in
theorem dA_noteAndAnswer_53 : decode bA_noteAndAnswer 53 = .ok (.invokevirtual 314, 3) := by decide +kernel
set_option maxRecDepth 100000 in
theorem dA_noteAndAnswer_56 : decode bA_noteAndAnswer 56 = .ok (.lreturn, 1) := by decide +kernel
set_option maxRecDepth 100000 in
theorem dA_noteAndAnswer_57 : decode bA_noteAndAnswer 57 = .ok (.aload_n 0, 1) := by decide +kernel
set_option maxRecDepth 100000 in
theorem dA_noteAndAnswer_58 : decode bA_noteAndAnswer 58 = .ok (.getfield 19, 3) := by decide +kernel
set_option maxRecDepth 100000 in
theorem dA_noteAndAnswer_61 : decode bA_noteAndAnswer 61 = .ok (.aload 4, 2) := by decide +kernel
set_option maxRecDepth 100000 in
theorem dA_noteAndAnswer_63 : decode bA_noteAndAnswer 63 = .ok (.getfield 235, 3) := by decide +kernel
set_option maxRecDepth 100000 in
theorem dA_noteAndAnswer_66 : decode bA_noteAndAnswer 66 = .ok (.iaload, 1) := by decide +kernel
set_option maxRecDepth 100000 in
theorem dA_noteAndAnswer_67 : decode bA_noteAndAnswer 67 = .ok (.lookupswitch 35 #[(0, 25), (1, 27)], 25) := by decide +kernel
set_option maxRecDepth 100000 in
theorem dA_noteAndAnswer_92 : decode bA_noteAndAnswer 92 = .ok (.lconst 0, 1) := by decide +kernel
set_option maxRecDepth 100000 in
theorem dA_noteAndAnswer_93 : decode bA_noteAndAnswer 93 = .ok (.lreturn, 1) := by decide +kernel
set_option maxRecDepth 100000 in
theorem dA_noteAndAnswer_94 : decode bA_noteAndAnswer 94 = .ok (.aload_n 1, 1) := by decide +kernel
set_option maxRecDepth 100000 in
theorem dA_noteAndAnswer_95 : decode bA_noteAndAnswer 95 = .ok (.aload 4, 2) := by decide +kernel
set_option maxRecDepth 100000 in
theorem dA_noteAndAnswer_97 : decode bA_noteAndAnswer 97 = .ok (.invokevirtual 318, 3) := by decide +kernel
set_option maxRecDepth 100000 in
theorem dA_noteAndAnswer_100 : decode bA_noteAndAnswer 100 = .ok (.i2l, 1) := by decide +kernel
set_option maxRecDepth 100000 in
theorem dA_noteAndAnswer_101 : decode bA_noteAndAnswer 101 = .ok (.lreturn, 1) := by decide +kernel
set_option maxRecDepth 100000 in
theorem dA_noteAndAnswer_102 : decode bA_noteAndAnswer 102 = .ok (.ldc2_w 321, 3) := by decide +kernel
set_option maxRecDepth 100000 in
theorem dA_noteAndAnswer_105 : decode bA_noteAndAnswer 105 = .ok (.lreturn, 1) := by decide +kernel
def fA_noteAndAnswer (N : Nat) (σ : xS) (k1 : Nat) (a2 : Int32) (a3 : Int32) : Option (Int64 × xS) :=
  xb (fB_add σ 16 a2 a3) fun r2 s3 =>
  xp (fA_tellingFor N s3 r2) fun r5 =>
  if r2 < 40 then
  xl (x_si s3 15 r2 6 r5) fun s7 =>
  xl (x_si s7 0 0 12 1) fun s8 =>
  if (s8.1 15 r2 6) = (-1) then
  (if ¬ ((s8.1 15 r2 1) < 0 ∨ 6 ≤ (s8.1 15 r2 1).toNatClampNeg) then
  if (s8.1 3 0 ((s8.1 15 r2 1).toNatClampNeg)) = 0 then
  (some (0, s8))
  else
  (if (s8.1 3 0 ((s8.1 15 r2 1).toNatClampNeg)) = 1 then
  (xp (fD_realResult s8 k1 r2) fun r14 =>
  if k1 < 12 then
  some (r14.toInt64, s8)
  else none)
  else
  (some (2199023255552, s8)))
  else none)
  else
  (if ¬ ((s8.1 15 r2 6) < 0 ∨ 16 ≤ (s8.1 15 r2 6).toNatClampNeg) then
  xb (fT_answerTo s8 ((s8.1 15 r2 6).toNatClampNeg) r2 k1) fun r19 s20 =>
  some (r19, s20)
  else none)
  else none
set_option maxHeartbeats 4000000 in
set_option maxRecDepth 100000 in
theorem cA_noteAndAnswer (l : Launch) (E : xE) (N : Nat) (σ : xS) (τ : yS) (k1 : Nat) (a2 : Int32) (a3 : Int32) (res : Int64 × xS) (hf : fA_noteAndAnswer N σ k1 a2 a3 = some res) : xM l E yA_noteAndAnswer bA_noteAndAnswer 5 (some .long) 12 0 0 [.ref (E.2.2.1 0 0), .ref (E.2.2.1 14 k1), .int a2, .int a3] σ τ (some (.long res.1)) res.2 τ := by
  refine x_met (by decide) (Nat.le_of_ble_eq_true rfl) (fun p e R s m args below meth c A ls H locs C hw hl => ?_)
  have hl : lv_has ls 5 [(0, .ref (E.2.2.1 0 0)), (1, .ref (E.2.2.1 14 k1)), (2, .int a2), (3, .int a3)] := hl
  have hx := C.1
  have hb := C.2.1
  unfold fA_noteAndAnswer at hf
  refine lv_aload_n hx hb dA_noteAndAnswer_0 rfl (lv_at hl 0 rfl) ?_
  refine x_get C hw 0 0 6 (v := .ref (E.2.2.1 6 0)) at_0 rfl rfl ⟨by decide, by decide⟩ wA_43 rfl dA_noteAndAnswer_1 ?_
  refine lv_aload_n hx hb dA_noteAndAnswer_4 rfl (lv_at hl 0 rfl) ?_
  refine x_get C hw 0 0 11 (v := .ref (E.2.2.1 17 16)) at_0 rfl rfl ⟨by decide, by decide⟩ wA_73 rfl dA_noteAndAnswer_5 ?_
  refine lv_iload_n hx hb dA_noteAndAnswer_8 rfl (lv_at hl 2 rfl) ?_
  refine lv_iload_n hx hb dA_noteAndAnswer_9 rfl (lv_at hl 3 rfl) ?_
  obtain ⟨r2, s3, h1, hf⟩ := x_b hf
  refine x_callVN (As := [.ref (E.2.2.1 17 16), .int a2, .int a3]) (rest := []) (st1 := [.ref (E.2.2.1 15 r2)]) C hw (cB_add l E σ τ 16 a2 a3 (r2, s3) h1) kA_307 (x_recv C hw 6 0 at_6 rfl rfl) (by decide) rfl rfl hl.1 (lv_room (Nat.le_of_ble_eq_true rfl)) dA_noteAndAnswer_10 ⟨by decide, by decide⟩ rfl (fun H locs hw => ?_)
  refine lv_astore (lv' := [(4, .ref (E.2.2.1 15 r2)), (0, .ref (E.2.2.1 0 0)), (1, .ref (E.2.2.1 14 k1)), (2, .int a2), (3, .int a3)]) hx hb dA_noteAndAnswer_13 hl (by decide) rfl (fun ls hl => ?_)
  refine lv_aload hx hb dA_noteAndAnswer_15 (lv_at hl 0 rfl) ?_
  refine lv_aload_n hx hb dA_noteAndAnswer_17 rfl (lv_at hl 1 rfl) ?_
  refine lv_aload hx hb dA_noteAndAnswer_18 (lv_at hl 0 rfl) ?_
  obtain ⟨r5, h4, hf⟩ := x_p hf
  refine x_callV (As := [.ref (E.2.2.1 15 r2)]) (rest := [.ref (E.2.2.1 15 r2)]) (st1 := [.int r5, .ref (E.2.2.1 15 r2)]) C hw (cA_tellingFor l E N s3 τ r2 r5 h4) kA_310 (x_recv C hw 0 0 at_0 rfl rfl) (by decide) rfl rfl hl.1 (lv_room (Nat.le_of_ble_eq_true rfl)) dA_noteAndAnswer_20 ⟨by decide, by decide⟩ rfl (fun H locs hw => ?_)
  obtain ⟨g6, hf⟩ := x_g hf
  refine x_putiN C hw 15 r2 6 (at_15 g6) rfl rfl rfl ⟨rfl, rfl⟩ ⟨by decide, by decide⟩ (Nat.le_of_ble_eq_true rfl) wA_246 dA_noteAndAnswer_23 (fun H locs hw => ?_)
  obtain ⟨s7, es7, hf⟩ := x_l hf
  rw [← es7] at hw
  refine lv_aload_n hx hb dA_noteAndAnswer_26 rfl (lv_at hl 1 rfl) ?_
  refine lv_iconst (v := 1) hx hb dA_noteAndAnswer_27 (by decide) ?_
  refine x_puti C hw 0 0 12 at_0 rfl rfl rfl ⟨rfl, rfl⟩ ⟨by decide, by decide⟩ (Nat.le_of_ble_eq_true rfl) wA_77 dA_noteAndAnswer_28 (fun H locs hw => ?_)
  obtain ⟨s8, es8, hf⟩ := x_l hf
  rw [← es8] at hw
  refine lv_aload hx hb dA_noteAndAnswer_31 (lv_at hl 0 rfl) ?_
  refine x_getN C hw 15 r2 6 (v := .int (s8.1 15 r2 6)) (at_15 g6) rfl rfl ⟨by decide, by decide⟩ wA_246 rfl dA_noteAndAnswer_33 ?_
  refine lv_iconst (v := (-1)) hx hb dA_noteAndAnswer_36 (by decide) ?_
  refine lv_icmp_eq (tgt := 57) hx hb dA_noteAndAnswer_37 (by decide) (fun c9 => ?_) (fun c9 => ?_)
  · replace hf := x_ip c9 hf
    refine lv_aload_n hx hb dA_noteAndAnswer_57 rfl (lv_at hl 1 rfl) ?_
    refine x_get C hw 0 0 2 (v := .ref (E.2.2.1 3 0)) at_0 rfl rfl ⟨by decide, by decide⟩ wA_19 rfl dA_noteAndAnswer_58 ?_
    refine lv_aload hx hb dA_noteAndAnswer_61 (lv_at hl 0 rfl) ?_
    refine x_getN C hw 15 r2 1 (v := .int (s8.1 15 r2 1)) (at_15 g6) rfl rfl ⟨by decide, by decide⟩ wA_235 rfl dA_noteAndAnswer_63 ?_
    obtain ⟨g10, hf⟩ := x_g hf
    refine x_ild C hw 3 0 at_3 rfl g10 dA_noteAndAnswer_66 ?_
    by_cases c11 : (s8.1 3 0 ((s8.1 15 r2 1).toNatClampNeg)) = 0
    · replace hf := x_ip c11 hf
      refine lv_lookup (off := 25) (tgt := 92) hx hb dA_noteAndAnswer_67 rfl (by rw [c11]; first | done | rfl) (by decide) ?_
      refine lv_lconst (v := 0) hx hb dA_noteAndAnswer_92 (by decide) ?_
      obtain rfl := Option.some.inj hf
      exact x_lret C hw dA_noteAndAnswer_93
    · replace hf := x_in c11 hf
      by_cases c12 : (s8.1 3 0 ((s8.1 15 r2 1).toNatClampNeg)) = 1
      · replace hf := x_ip c12 hf
        refine lv_lookup (off := 27) (tgt := 94) hx hb dA_noteAndAnswer_67 rfl (by rw [c12]; first | done | rfl) (by decide) ?_
        refine lv_aload_n hx hb dA_noteAndAnswer_94 rfl (lv_at hl 2 rfl) ?_
        refine lv_aload hx hb dA_noteAndAnswer_95 (lv_at hl 0 rfl) ?_
        obtain ⟨r14, h13, hf⟩ := x_p hf
        obtain ⟨g15, hf⟩ := x_g hf
        refine x_callVN (As := [.ref (E.2.2.1 15 r2)]) (rest := []) (st1 := [.int r14]) C hw (cD_realResult l E s8 τ k1 r2 r14 h13) kA_318 (x_recv C hw 14 k1 (at_14 g15) rfl rfl) (by decide) rfl rfl hl.1 (lv_room (Nat.le_of_ble_eq_true rfl)) dA_noteAndAnswer_97 ⟨by decide, by decide⟩ rfl (fun H locs hw => ?_)
        refine lv_i2l hx hb dA_noteAndAnswer_100 rfl ?_
        obtain rfl := Option.some.inj hf
        exact x_lret C hw dA_noteAndAnswer_101
      · replace hf := x_in c12 hf
        refine lv_lookup (off := 35) (tgt := 102) hx hb dA_noteAndAnswer_67 rfl (by show Op.lookupswitch.offset [(0, 25), (1, 27)] _ _ = _; rw [lv_osw c11 (by decide), lv_osw c12 (by decide)]; first | done | rfl) (by decide) ?_
        refine lv_ldc2 (v := 2199023255552) hx hb C.own (C.tb wA_321) dA_noteAndAnswer_102 ?_
        obtain rfl := Option.some.inj hf
        exact x_lret C hw dA_noteAndAnswer_105
  · replace hf := x_in c9 hf
    refine lv_aload_n hx hb dA_noteAndAnswer_40 rfl (lv_at hl 1 rfl) ?_
    refine x_get C hw 0 0 7 (v := .ref (E.2.2.1 8 0)) at_0 rfl rfl ⟨by decide, by decide⟩ wA_49 rfl dA_noteAndAnswer_41 ?_
    refine lv_aload hx hb dA_noteAndAnswer_44 (lv_at hl 0 rfl) ?_
    refine x_getN C hw 15 r2 6 (v := .int (s8.1 15 r2 6)) (at_15 g6) rfl rfl ⟨by decide, by decide⟩ wA_246 rfl dA_noteAndAnswer_46 ?_
    obtain ⟨g16, hf⟩ := x_g hf
    refine x_ald8 C hw g16 dA_noteAndAnswer_49 ?_
    have g17 := x_lt g16
    refine lv_aload hx hb dA_noteAndAnswer_50 (lv_at hl 0 rfl) ?_
    refine lv_aload_n hx hb dA_noteAndAnswer_52 rfl (lv_at hl 2 rfl) ?_
    obtain ⟨r19, s20, h18, hf⟩ := x_b hf
    refine x_callVN (As := [.ref (E.2.2.1 15 r2), .ref (E.2.2.1 14 k1)]) (rest := []) (st1 := [.long r19]) C hw (cT_answerTo l E s8 τ ((s8.1 15 r2 6).toNatClampNeg) r2 k1 (r19, s20) h18) kA_314 (x_recv C hw 16 ((s8.1 15 r2 6).toNatClampNeg) (at_16 g17) rfl rfl) (by decide) rfl rfl hl.1 (lv_room (Nat.le_of_ble_eq_true rfl)) dA_noteAndAnswer_53 ⟨by decide, by decide⟩ rfl (fun H locs hw => ?_)
    obtain rfl := Option.some.inj hf
    exact x_lret C hw dA_noteAndAnswer_56
end
section
-- StandIns call (IIII)J
set_option maxRecDepth 100000 in
theorem dA_call_0 : decode bA_call 0 = .ok (.aload_n 0, 1) := by decide +kernel
set_option maxRecDepth 100000 in
theorem dA_call_1 : decode bA_call 1 = .ok (.iload_n 1, 1) := by decide +kernel
set_option maxRecDepth 100000 in
theorem dA_call_2 : decode bA_call 2 = .ok (.invokevirtual 150, 3) := by decide +kernel
set_option maxRecDepth 100000 in
theorem dA_call_5 : decode bA_call 5 = .ok (.ifCond .eq 11, 3) := by decide +kernel
set_option maxRecDepth 100000 in
theorem dA_call_8 : decode bA_call 8 = .ok (.iload_n 2, 1) := by decide +kernel
set_option maxRecDepth 100000 in
theorem dA_call_9 : decode bA_call 9 = .ok (.iconst 4, 1) := by decide +kernel
set_option maxRecDepth 100000 in
theorem dA_call_10 : decode bA_call 10 = .ok (.invokestatic 97, 3) := by decide +kernel
set_option maxRecDepth 100000 in
theorem dA_call_13 : decode bA_call 13 = .ok (.ifCond .ne 7, 3) := by decide +kernel
set_option maxRecDepth 100000 in
theorem dA_call_16 : decode bA_call 16 = .ok (.ldc2_w 153, 3) := by decide +kernel
set_option maxRecDepth 100000 in
theorem dA_call_19 : decode bA_call 19 = .ok (.lreturn, 1) := by decide +kernel
set_option maxRecDepth 100000 in
theorem dA_call_20 : decode bA_call 20 = .ok (.aload_n 0, 1) := by decide +kernel
set_option maxRecDepth 100000 in
theorem dA_call_21 : decode bA_call 21 = .ok (.iload_n 1, 1) := by decide +kernel
set_option maxRecDepth 100000 in
theorem dA_call_22 : decode bA_call 22 = .ok (.invokevirtual 155, 3) := by decide +kernel
set_option maxRecDepth 100000 in
theorem dA_call_25 : decode bA_call 25 = .ok (.ifCond .eq 7, 3) := by decide +kernel
set_option maxRecDepth 100000 in
theorem dA_call_28 : decode bA_call 28 = .ok (.ldc2_w 158, 3) := by decide +kernel
set_option maxRecDepth 100000 in
theorem dA_call_31 : decode bA_call 31 = .ok (.lreturn, 1) := by decide +kernel
set_option maxRecDepth 100000 in
theorem dA_call_32 : decode bA_call 32 = .ok (.aload_n 0, 1) := by decide +kernel
set_option maxRecDepth 100000 in
theorem dA_call_33 : decode bA_call 33 = .ok (.iload_n 1, 1) := by decide +kernel
set_option maxRecDepth 100000 in
theorem dA_call_34 : decode bA_call 34 = .ok (.iload_n 2, 1) := by decide +kernel
set_option maxRecDepth 100000 in
theorem dA_call_35 : decode bA_call 35 = .ok (.invokevirtual 160, 3) := by decide +kernel
set_option maxRecDepth 100000 in
theorem dA_call_38 : decode bA_call 38 = .ok (.astore 5, 2) := by decide +kernel
set_option maxRecDepth 100000 in
theorem dA_call_40 : decode bA_call 40 = .ok (.aload_n 0, 1) := by decide +kernel
set_option maxRecDepth 100000 in
theorem dA_call_41 : decode bA_call 41 = .ok (.iload_n 1, 1) := by decide +kernel
set_option maxRecDepth 100000 in
theorem dA_call_42 : decode bA_call 42 = .ok (.aload 5, 2) := by decide +kernel
set_option maxRecDepth 100000 in
theorem dA_call_44 : decode bA_call 44 = .ok (.invokevirtual 164, 3) := by decide +kernel
set_option maxRecDepth 100000 in
theorem dA_call_47 : decode bA_call 47 = .ok (.istore 6, 2) := by decide +kernel
set_option maxRecDepth 100000 in
theorem dA_call_49 : decode bA_call 49 = .ok (.iload 6, 2) := by decide +kernel
set_option maxRecDepth 100000 in
theorem dA_call_51 : decode bA_call 51 = .ok (.ifCond .eq 11, 3) := by decide +kernel
set_option maxRecDepth 100000 in
theorem dA_call_54 : decode bA_call 54 = .ok (.ldc2_w 168, 3) := by decide +kernel
set_option maxRecDepth 100000 in
theorem dA_call_57 : decode bA_call 57 = .ok (.iload 6, 2) := by decide +kernel
set_option maxRecDepth 100000 in
theorem dA_call_59 : decode bA_call 59 = .ok (.i2l, 1) := by decide +kernel
set_option maxRecDepth 100000 in
theorem dA_call_60 : decode bA_call 60 = .ok (.ladd, 1) := by decide +kernel
set_option maxRecDepth 100000 in
theorem dA_call_61 : decode bA_call 61 = .ok (.lreturn, 1) := by decide +kernel
set_option maxRecDepth 100000 in
theorem dA_call_62 : decode bA_call 62 = .ok (.aload 5, 2) := by decide +kernel
set_option maxRecDepth 100000 in
theorem dA_call_64 : decode bA_call 64 = .ok (.getfield 105, 3) := by decide +kernel
set_option maxRecDepth 100000 in
theorem dA_call_67 : decode bA_call 67 = .ok (.ifCond .le 7, 3) := by decide +kernel
set_option maxRecDepth 100000 in
theorem dA_call_70 : decode bA_call 70 = .ok (.iload_n 3, 1) := by decide +kernel
set_option maxRecDepth 100000 in
theorem dA_call_71 : decode bA_call 71 = .ok (.goto 4, 3) := by decide +kernel
set_option maxRecDepth 100000 in
theorem dA_call_74 : decode bA_call 74 = .ok (.iconst 0, 1) := by decide +kernel
set_option maxRecDepth 100000 in
theorem dA_call_75 : decode bA_call 75 = .ok (.istore 7, 2) := by decide +kernel
set_option maxRecDepth 100000 in
theorem dA_call_77 : decode bA_call 77 = .ok (.aload 5, 2) := by decide +kernel
set_option maxRecDepth 100000 in
theorem dA_call_79 : decode bA_call 79 = .ok (.getfield 105, 3) := by decide +kernel
set_option maxRecDepth 100000 in
theorem dA_call_82 : decode bA_call 82 = .ok (.iconst 1, 1) := by decide +kernel
set_option maxRecDepth 100000 in
theorem dA_call_83 : decode bA_call 83 = .ok (.if_icmp .le 8, 3) := by decide +kernel
set_option maxRecDepth 100000 in
theorem dA_call_86 : decode bA_call 86 = .ok (.iload 4, 2) := by decide +kernel
set_option maxRecDepth 100000 in
theorem dA_call_88 : decode bA_call 88 = .ok (.goto 4, 3) := by decide +kernel
set_option maxRecDepth 100000 in
theorem dA_call_91 : decode bA_call 91 = .ok (.iconst 0, 1) := by decide +kernel
set_option maxRecDepth 100000 in
theorem dA_call_92 : decode bA_call 92 = .ok (.istore 8, 2) := by decide +kernel
set_option maxRecDepth 100000 in
theorem dA_call_94 : decode bA_call 94 = .ok (.aload_n 0, 1) := by decide +kernel
set_option maxRecDepth 100000 in
theorem dA_call_95 : decode bA_call 95 = .ok (.getfield 73, 3) := by decide +kernel
set_option maxRecDepth 100000 in
theorem dA_call_98 : decode bA_call 98 = .ok (.iload_n 1, 1) := by decide +kernel
set_option maxRecDepth 100000 in
theorem dA_call_99 : decode bA_call 99 = .ok (.putfield 170, 3) := by decide +kernel
set_option maxRecDepth 100000 in
theorem dA_call_102 : decode bA_call 102 = .ok (.aload_n 0, 1) := by decide +kernel
set_option maxRecDepth 100000 in
theorem dA_call_103 : decode bA_call 103 = .ok (.getfield 73, 3) := by decide +kernel
set_option maxRecDepth 100000 in
theorem dA_call_106 : decode bA_call 106 = .ok (.iload_n 2, 1) := by decide +kernel
set_option maxRecDepth 100000 in
theorem dA_call_107 : decode bA_call 107 = .ok (.putfield 173, 3) := by decide +kernel
set_option maxRecDepth 100000 in
theorem dA_call_110 : decode bA_call 110 = .ok (.aload_n 0, 1) := by decide +kernel
set_option maxRecDepth 100000 in
theorem dA_call_111 : decode bA_call 111 = .ok (.getfield 73, 3) := by decide +kernel
set_option maxRecDepth 100000 in
theorem dA_call_114 : decode bA_call 114 = .ok (.aload_n 0, 1) := by decide +kernel
set_option maxRecDepth 100000 in
theorem dA_call_115 : decode bA_call 115 = .ok (.iconst 0, 1) := by decide +kernel
set_option maxRecDepth 100000 in
theorem dA_call_116 : decode bA_call 116 = .ok (.aload 5, 2) := by decide +kernel
set_option maxRecDepth 100000 in
theorem dA_call_118 : decode bA_call 118 = .ok (.getfield 105, 3) := by decide +kernel
set_option maxRecDepth 100000 in
theorem dA_call_121 : decode bA_call 121 = .ok (.iload 7, 2) := by decide +kernel
set_option maxRecDepth 100000 in
theorem dA_call_123 : decode bA_call 123 = .ok (.invokevirtual 176, 3) := by decide +kernel
set_option maxRecDepth 100000 in
theorem dA_call_126 : decode bA_call 126 = .ok (.putfield 180, 3) := by decide +kernel
set_option maxRecDepth 100000 in
theorem dA_call_129 : decode bA_call 129 = .ok (.aload_n 0, 1) := by decide +kernel
set_option maxRecDepth 100000 in
theorem dA_call_130 : decode bA_call 130 = .ok (.getfield 73, 3) := by decide +kernel
set_option maxRecDepth 100000 in
theorem dA_call_133 : decode bA_call 133 = .ok (.aload_n 0, 1) := by decide +kernel
set_option maxRecDepth 100000 in
theorem dA_call_134 : decode bA_call 134 = .ok (.iconst 1, 1) := by decide +kernel
set_option maxRecDepth 100000 in
theorem dA_call_135 : decode bA_call 135 = .ok (.aload 5, 2) := by decide +kernel
set_option maxRecDepth 100000 in
theorem dA_call_137 : decode bA_call 137 = .ok (.getfield 105, 3) := by decide +kernel
set_option maxRecDepth 100000 in
theorem dA_call_140 : decode bA_call 140 = .ok (.iload 8, 2) := by decide +kernel
set_option maxRecDepth 100000 in
theorem dA_call_142 : decode bA_call 142 = .ok (.invokevirtual 176, 3) := by decide +kernel
set_option maxRecDepth 100000 in
theorem dA_call_145 : decode bA_call 145 = .ok (.putfield 184, 3) := by decide +kernel
set_option maxRecDepth 100000 in
theorem dA_call_148 : decode bA_call 148 = .ok (.aload_n 0, 1) := by decide +kernel
set_option maxRecDepth 100000 in
theorem dA_call_149 : decode bA_call 149 = .ok (.getfield 29, 3) := by decide +kernel
set_option maxRecDepth 100000 in
theorem dA_call_152 : decode bA_call 152 = .ok (.iconst 0, 1) := by decide +kernel
set_option maxRecDepth 100000 in
theorem dA_call_153 : decode bA_call 153 = .ok (.putfield 121, 3) := by decide +kernel
set_option maxRecDepth 100000 in
theorem dA_call_156 : decode bA_call 156 = .ok (.aload_n 0, 1) := by decide +kernel
set_option maxRecDepth 100000 in
theorem dA_call_157 : decode bA_call 157 = .ok (.getfield 77, 3) := by decide +kernel
set_option maxRecDepth 100000 in
theorem dA_call_160 : decode bA_call 160 = .ok (.iconst 2, 1) := by decide +kernel
set_option maxRecDepth 100000 in
theorem dA_call_161 : decode bA_call 161 = .ok (.if_icmp .ne 8, 3) := by decide +kernel
set_option maxRecDepth 100000 in
theorem dA_call_164 : decode bA_call 164 = .ok (.aload_n 0, 1) := by decide +kernel
set_option maxRecDepth 100000 in
theorem dA_call_165 : decode bA_call 165 = .ok (.invokevirtual 187, 3) := by decide +kernel
set_option maxRecDepth 100000 in
theorem dA_call_168 : decode bA_call 168 = .ok (.lreturn, 1) := by decide +kernel
set_option maxRecDepth 100000 in
theorem dA_call_169 : decode bA_call 169 = .ok (.aload_n 0, 1) := by decide +kernel
set_option maxRecDepth 100000 in
theorem dA_call_170 : decode bA_call 170 = .ok (.getfield 77, 3) := by decide +kernel
set_option maxRecDepth 100000 in
theorem dA_call_173 : decode bA_call 173 = .ok (.iconst 3, 1) := by decide +kernel
set_option maxRecDepth 100000 in
theorem dA_call_174 : decode bA_call 174 = .ok (.if_icmp .ne 10, 3) := by decide +kernel
set_option maxRecDepth 100000 in
theorem dA_call_177 : decode bA_call 177 = .ok (.aload_n 0, 1) := by decide +kernel
set_option maxRecDepth 100000 in
theorem dA_call_178 : decode bA_call 178 = .ok (.invokevirtual 191, 3) := by decide +kernel
set_option maxRecDepth 100000 in
theorem dA_call_181 : decode bA_call 181 = .ok (.goto 13, 3) := by decide +kernel
set_option maxRecDepth 100000 in
theorem dA_call_184 : decode bA_call 184 = .ok (.aload_n 0, 1) := by decide +kernel
set_option maxRecDepth 100000 in
theorem dA_call_185 : decode bA_call 185 = .ok (.aload 5, 2) := by decide +kernel
set_option maxRecDepth 100000 in
theorem dA_call_187 : decode bA_call 187 = .ok (.iload 7, 2) := by decide +kernel
set_option maxRecDepth 100000 in
theorem dA_call_189 : decode bA_call 189 = .ok (.iload 8, 2) := by decide +kernel
set_option maxRecDepth 100000 in
theorem dA_call_191 : decode bA_call 191 = .ok (.invokevirtual 194, 3) := by decide +kernel
set_option maxRecDepth 100000 in
theorem dA_call_194 : decode bA_call 194 = .ok (.lreturn, 1) := by decide +kernel
def fA_call_92 (N : Nat) (σ : xS) (a1 : Int32) (a2 : Int32) (k5 : Nat) (a7 : Int32) (t0 : Int32) : Option (Int64 × xS) :=
  xl (x_si σ 17 16 0 a1) fun s26 =>
  xl (x_si s26 17 16 1 a2) fun s27 =>
  if k5 < 12 then
  xb (fA_matcherOf s27 0 (s27.1 14 k5 0) a7) fun r30 s31 =>
  xl (x_sp s31 17 16 2 r30) fun s32 =>
  xb (fA_matcherOf s32 1 (s32.1 14 k5 0) t0) fun r34 s35 =>
  xl (x_sp s35 17 16 3 r34) fun s36 =>
  xl (x_si s36 4 0 1 0) fun s37 =>
  if (s37.1 0 0 12) = 2 then
  (xb (fA_tellPrepared N s37) fun r47 s48 =>
  some (r47, s48))
  else
  (if (s37.1 0 0 12) = 3 then
  (xb (fA_doCheck N s37) fun r44 s45 =>
  some (r44, s45))
  else
  (xb (fA_noteAndAnswer N s37 k5 a7 t0) fun r41 s42 =>
  some (r41, s42)))
  else none
def fA_call_75 (N : Nat) (σ : xS) (a1 : Int32) (a2 : Int32) (a4 : Int32) (k5 : Nat) (t0 : Int32) : Option (Int64 × xS) :=
  if k5 < 12 then
  if (σ.1 14 k5 0) ≤ 1 then
  (fA_call_92 N σ a1 a2 k5 t0 0)
  else
  (fA_call_92 N σ a1 a2 k5 t0 a4)
  else none
def fA_call (N : Nat) (σ : xS) (a1 : Int32) (a2 : Int32) (a3 : Int32) (a4 : Int32) : Option (Int64 × xS) :=
  if (fA_isStandIn σ a1) = 0 then
  (some (17592186044415, σ))
  else
  (if (fA_isBelow a2 4) = 0 then
  (some (17592186044415, σ))
  else
  (if (fA_hasNoRoomForCallOf σ a1) = 0 then
  (xp (fA_methodOf σ a1 a2) fun r58 =>
  xb (fA_misuseOfCall N σ a1 r58) fun r60 s61 =>
  if r60 = 0 then
  (if r58 < 12 then
  if (s61.1 14 r58 0) ≤ 0 then
  (fA_call_75 N s61 a1 a2 a4 r58 0)
  else
  (fA_call_75 N s61 a1 a2 a4 r58 a3)
  else none)
  else
  (some (17592186044416 + r60.toInt64, s61)))
  else
  (some (17592186044414, σ))))
set_option maxHeartbeats 4000000 in
set_option maxRecDepth 100000 in
theorem wA_call_92 {p : Program} {l : Launch} {e : Env} {R : Room} {s : State} {m : MethodId} {args : Array Value} {below : List Frame} {meth : Method} {c : Code} {E : xE} {A : Nat → Prop} {τ : yS} (C : xC p s m args meth c R E A bA_call 9 yA_call (some .long) 13 2 10) (N : Nat) (σ : xS) (a1 : Int32) (a2 : Int32) (k5 : Nat) (a7 : Int32) (t0 : Int32) (res : Int64 × xS) (hf : fA_call_92 N σ a1 a2 k5 a7 t0 = some res) (H : Heap) (locs : List Loc) (ls : Array Slot) (hw : xW E A s σ τ H locs) (hl : lv_has ls 9 [(0, .ref (E.2.2.1 0 0)), (1, .int a1), (2, .int a2), (5, .ref (E.2.2.1 14 k5)), (7, .int a7)]) : W p l e R s m args below meth c H locs 0 0 (MQ below (xQ E A (some (.long res.1)) res.2 τ) args s 2 10 A) (F0 m 92 ls [.int t0]) := by
  have hx := C.1
  have hb := C.2.1
  unfold fA_call_92 at hf
  refine lv_istore (lv' := [(8, .int t0), (0, .ref (E.2.2.1 0 0)), (1, .int a1), (2, .int a2), (5, .ref (E.2.2.1 14 k5)), (7, .int a7)]) hx hb dA_call_92 hl (by decide) rfl (fun ls hl => ?_)
  refine lv_aload_n hx hb dA_call_94 rfl (lv_at hl 1 rfl) ?_
  refine x_get C hw 0 0 11 (v := .ref (E.2.2.1 17 16)) at_0 rfl rfl ⟨by decide, by decide⟩ wA_73 rfl dA_call_95 ?_
  refine lv_iload_n hx hb dA_call_98 rfl (lv_at hl 2 rfl) ?_
  refine x_putiN C hw 17 16 0 (at_17 (by decide)) rfl rfl rfl ⟨rfl, rfl⟩ ⟨by decide, by decide⟩ (Nat.le_of_ble_eq_true rfl) wA_170 dA_call_99 (fun H locs hw => ?_)
  obtain ⟨s26, es26, hf⟩ := x_l hf
  rw [← es26] at hw
  refine lv_aload_n hx hb dA_call_102 rfl (lv_at hl 1 rfl) ?_
  refine x_get C hw 0 0 11 (v := .ref (E.2.2.1 17 16)) at_0 rfl rfl ⟨by decide, by decide⟩ wA_73 rfl dA_call_103 ?_
  refine lv_iload_n hx hb dA_call_106 rfl (lv_at hl 3 rfl) ?_
  refine x_putiN C hw 17 16 1 (at_17 (by decide)) rfl rfl rfl ⟨rfl, rfl⟩ ⟨by decide, by decide⟩ (Nat.le_of_ble_eq_true rfl) wA_173 dA_call_107 (fun H locs hw => ?_)
  obtain ⟨s27, es27, hf⟩ := x_l hf
  rw [← es27] at hw
  refine lv_aload_n hx hb dA_call_110 rfl (lv_at hl 1 rfl) ?_
  refine x_get C hw 0 0 11 (v := .ref (E.2.2.1 17 16)) at_0 rfl rfl ⟨by decide, by decide⟩ wA_73 rfl dA_call_111 ?_
  refine lv_aload_n hx hb dA_call_114 rfl (lv_at hl 1 rfl) ?_
  refine lv_iconst (v := 0) hx hb dA_call_115 (by decide) ?_
  refine lv_aload hx hb dA_call_116 (lv_at hl 4 rfl) ?_
  obtain ⟨g28, hf⟩ := x_g hf
  refine x_getN C hw 14 k5 0 (v := .int (s27.1 14 k5 0)) (at_14 g28) rfl rfl ⟨by decide, by decide⟩ wA_105 rfl dA_call_118 ?_
  refine lv_iload hx hb dA_call_121 (lv_at hl 5 rfl) ?_
  obtain ⟨r30, s31, h29, hf⟩ := x_b hf
  refine x_callV (As := [.int 0, .int (s27.1 14 k5 0), .int a7]) (rest := [.ref (E.2.2.1 17 16)]) (st1 := [va_rf r30, .ref (E.2.2.1 17 16)]) C hw (cA_matcherOf l E s27 τ 0 (s27.1 14 k5 0) a7 (r30, s31) h29) kA_176 (x_recv C hw 0 0 at_0 rfl rfl) (by decide) rfl rfl hl.1 (lv_room (Nat.le_of_ble_eq_true rfl)) dA_call_123 ⟨by decide, by decide⟩ rfl (fun H locs hw => ?_)
  refine x_putoN C hw 17 16 2 (at_17 (by decide)) rfl rfl rfl ⟨rfl, rfl⟩ ⟨by decide, by decide⟩ (Nat.le_of_ble_eq_true rfl) wA_180 dA_call_126 (fun H locs hw => ?_)
  obtain ⟨s32, es32, hf⟩ := x_l hf
  rw [← es32] at hw
  refine lv_aload_n hx hb dA_call_129 rfl (lv_at hl 1 rfl) ?_
  refine x_get C hw 0 0 11 (v := .ref (E.2.2.1 17 16)) at_0 rfl rfl ⟨by decide, by decide⟩ wA_73 rfl dA_call_130 ?_
  refine lv_aload_n hx hb dA_call_133 rfl (lv_at hl 1 rfl) ?_
  refine lv_iconst (v := 1) hx hb dA_call_134 (by decide) ?_
  refine lv_aload hx hb dA_call_135 (lv_at hl 4 rfl) ?_
  refine x_getN C hw 14 k5 0 (v := .int (s32.1 14 k5 0)) (at_14 g28) rfl rfl ⟨by decide, by decide⟩ wA_105 rfl dA_call_137 ?_
  refine lv_iload hx hb dA_call_140 (lv_at hl 0 rfl) ?_
  obtain ⟨r34, s35, h33, hf⟩ := x_b hf
  refine x_callV (As := [.int 1, .int (s32.1 14 k5 0), .int t0]) (rest := [.ref (E.2.2.1 17 16)]) (st1 := [va_rf r34, .ref (E.2.2.1 17 16)]) C hw (cA_matcherOf l E s32 τ 1 (s32.1 14 k5 0) t0 (r34, s35) h33) kA_176 (x_recv C hw 0 0 at_0 rfl rfl) (by decide) rfl rfl hl.1 (lv_room (Nat.le_of_ble_eq_true rfl)) dA_call_142 ⟨by decide, by decide⟩ rfl (fun H locs hw => ?_)
  refine x_putoN C hw 17 16 3 (at_17 (by decide)) rfl rfl rfl ⟨rfl, rfl⟩ ⟨by decide, by decide⟩ (Nat.le_of_ble_eq_true rfl) wA_184 dA_call_145 (fun H locs hw => ?_)
  obtain ⟨s36, es36, hf⟩ := x_l hf
  rw [← es36] at hw
  refine lv_aload_n hx hb dA_call_148 rfl (lv_at hl 1 rfl) ?_
  refine x_get C hw 0 0 4 (v := .ref (E.2.2.1 4 0)) at_0 rfl rfl ⟨by decide, by decide⟩ wA_29 rfl dA_call_149 ?_
  refine lv_iconst (v := 0) hx hb dA_call_152 (by decide) ?_
  refine x_putiN C hw 4 0 1 at_4 rfl rfl rfl ⟨rfl, rfl⟩ ⟨by decide, by decide⟩ (Nat.le_of_ble_eq_true rfl) wA_121 dA_call_153 (fun H locs hw => ?_)
  obtain ⟨s37, es37, hf⟩ := x_l hf
  rw [← es37] at hw
  refine lv_aload_n hx hb dA_call_156 rfl (lv_at hl 1 rfl) ?_
  refine x_get C hw 0 0 12 (v := .int (s37.1 0 0 12)) at_0 rfl rfl ⟨by decide, by decide⟩ wA_77 rfl dA_call_157 ?_
  refine lv_iconst (v := 2) hx hb dA_call_160 (by decide) ?_
  refine lv_icmp_ne (tgt := 169) hx hb dA_call_161 (by decide) (fun c38 => ?_) (fun c38 => ?_)
  · replace hf := x_in c38 hf
    refine lv_aload_n hx hb dA_call_169 rfl (lv_at hl 1 rfl) ?_
    refine x_get C hw 0 0 12 (v := .int (s37.1 0 0 12)) at_0 rfl rfl ⟨by decide, by decide⟩ wA_77 rfl dA_call_170 ?_
    refine lv_iconst (v := 3) hx hb dA_call_173 (by decide) ?_
    refine lv_icmp_ne (tgt := 184) hx hb dA_call_174 (by decide) (fun c39 => ?_) (fun c39 => ?_)
    · replace hf := x_in c39 hf
      refine lv_aload_n hx hb dA_call_184 rfl (lv_at hl 1 rfl) ?_
      refine lv_aload hx hb dA_call_185 (lv_at hl 4 rfl) ?_
      refine lv_iload hx hb dA_call_187 (lv_at hl 5 rfl) ?_
      refine lv_iload hx hb dA_call_189 (lv_at hl 0 rfl) ?_
      obtain ⟨r41, s42, h40, hf⟩ := x_b hf
      refine x_callV (As := [.ref (E.2.2.1 14 k5), .int a7, .int t0]) (rest := []) (st1 := [.long r41]) C hw (cA_noteAndAnswer l E N s37 τ k5 a7 t0 (r41, s42) h40) kA_194 (x_recv C hw 0 0 at_0 rfl rfl) (by decide) rfl rfl hl.1 (lv_room (Nat.le_of_ble_eq_true rfl)) dA_call_191 ⟨by decide, by decide⟩ rfl (fun H locs hw => ?_)
      obtain rfl := Option.some.inj hf
      refine W.widen (k := 2) (n := 10) (by decide) (by decide) ?_
      exact x_lret C hw dA_call_194
    · replace hf := x_ip c39 hf
      refine lv_aload_n hx hb dA_call_177 rfl (lv_at hl 1 rfl) ?_
      obtain ⟨r44, s45, h43, hf⟩ := x_b hf
      refine x_callV (As := []) (rest := []) (st1 := [.long r44]) C hw (cA_doCheck l E N s37 τ (r44, s45) h43) kA_191 (x_recv C hw 0 0 at_0 rfl rfl) (by decide) rfl rfl hl.1 (lv_room (Nat.le_of_ble_eq_true rfl)) dA_call_178 ⟨by decide, by decide⟩ rfl (fun H locs hw => ?_)
      refine lv_goto (tgt := 194) hx hb dA_call_181 (by decide) ?_
      obtain rfl := Option.some.inj hf
      refine W.widen (k := 2) (n := 10) (by decide) (by decide) ?_
      exact x_lret C hw dA_call_194
  · replace hf := x_ip c38 hf
    refine lv_aload_n hx hb dA_call_164 rfl (lv_at hl 1 rfl) ?_
    obtain ⟨r47, s48, h46, hf⟩ := x_b hf
    refine x_callV (As := []) (rest := []) (st1 := [.long r47]) C hw (cA_tellPrepared l E N s37 τ (r47, s48) h46) kA_187 (x_recv C hw 0 0 at_0 rfl rfl) (by decide) rfl rfl hl.1 (lv_room (Nat.le_of_ble_eq_true rfl)) dA_call_165 ⟨by decide, by decide⟩ rfl (fun H locs hw => ?_)
    obtain rfl := Option.some.inj hf
    refine W.widen (k := 2) (n := 10) (by decide) (by decide) ?_
    exact x_lret C hw dA_call_168
set_option maxHeartbeats 4000000 in
set_option maxRecDepth 100000 in
theorem wA_call_75 {p : Program} {l : Launch} {e : Env} {R : Room} {s : State} {m : MethodId} {args : Array Value} {below : List Frame} {meth : Method} {c : Code} {E : xE} {A : Nat → Prop} {τ : yS} (C : xC p s m args meth c R E A bA_call 9 yA_call (some .long) 13 2 10) (N : Nat) (σ : xS) (a1 : Int32) (a2 : Int32) (a4 : Int32) (k5 : Nat) (t0 : Int32) (res : Int64 × xS) (hf : fA_call_75 N σ a1 a2 a4 k5 t0 = some res) (H : Heap) (locs : List Loc) (ls : Array Slot) (hw : xW E A s σ τ H locs) (hl : lv_has ls 9 [(0, .ref (E.2.2.1 0 0)), (1, .int a1), (2, .int a2), (4, .int a4), (5, .ref (E.2.2.1 14 k5))]) : W p l e R s m args below meth c H locs 0 0 (MQ below (xQ E A (some (.long res.1)) res.2 τ) args s 2 10 A) (F0 m 75 ls [.int t0]) := by
  have hx := C.1
  have hb := C.2.1
  unfold fA_call_75 at hf
  refine lv_istore (lv' := [(7, .int t0), (0, .ref (E.2.2.1 0 0)), (1, .int a1), (2, .int a2), (4, .int a4), (5, .ref (E.2.2.1 14 k5))]) hx hb dA_call_75 hl (by decide) rfl (fun ls hl => ?_)
  refine lv_aload hx hb dA_call_77 (lv_at hl 5 rfl) ?_
  obtain ⟨g49, hf⟩ := x_g hf
  refine x_getN C hw 14 k5 0 (v := .int (σ.1 14 k5 0)) (at_14 g49) rfl rfl ⟨by decide, by decide⟩ wA_105 rfl dA_call_79 ?_
  refine lv_iconst (v := 1) hx hb dA_call_82 (by decide) ?_
  refine lv_icmp_le (tgt := 91) hx hb dA_call_83 (by decide) (fun c50 => ?_) (fun c50 => ?_)
  · replace hf := x_ip c50 hf
    refine lv_iconst (v := 0) hx hb dA_call_91 (by decide) ?_
    exact wA_call_92 C N σ a1 a2 k5 t0 0 res hf H locs ls hw (lv_sub hl [1, 2, 3, 5, 0] rfl)
  · replace hf := x_in c50 hf
    refine lv_iload hx hb dA_call_86 (lv_at hl 4 rfl) ?_
    refine lv_goto (tgt := 92) hx hb dA_call_88 (by decide) ?_
    exact wA_call_92 C N σ a1 a2 k5 t0 a4 res hf H locs ls hw (lv_sub hl [1, 2, 3, 5, 0] rfl)
set_option maxHeartbeats 4000000 in
set_option maxRecDepth 100000 in
theorem cA_call (l : Launch) (E : xE) (N : Nat) (σ : xS) (τ : yS) (a1 : Int32) (a2 : Int32) (a3 : Int32) (a4 : Int32) (res : Int64 × xS) (hf : fA_call N σ a1 a2 a3 a4 = some res) : xM l E yA_call bA_call 9 (some .long) 13 2 10 [.ref (E.2.2.1 0 0), .int a1, .int a2, .int a3, .int a4] σ τ (some (.long res.1)) res.2 τ := by
  refine x_met (by decide) (Nat.le_of_ble_eq_true rfl) (fun p e R s m args below meth c A ls H locs C hw hl => ?_)
  have hl : lv_has ls 9 [(0, .ref (E.2.2.1 0 0)), (1, .int a1), (2, .int a2), (3, .int a3), (4, .int a4)] := hl
  have hx := C.1
  have hb := C.2.1
  unfold fA_call at hf
  refine lv_aload_n hx hb dA_call_0 rfl (lv_at hl 0 rfl) ?_
  refine lv_iload_n hx hb dA_call_1 rfl (lv_at hl 1 rfl) ?_
  refine x_callV (As := [.int a1]) (rest := []) (st1 := [.int (fA_isStandIn σ a1)]) C hw (cA_isStandIn l E σ τ a1) kA_150 (x_recv C hw 0 0 at_0 rfl rfl) (by decide) rfl rfl hl.1 (lv_room (Nat.le_of_ble_eq_true rfl)) dA_call_2 ⟨by decide, by decide⟩ rfl (fun H locs hw => ?_)
  refine lv_if_eq (tgt := 16) hx hb dA_call_5 (by decide) (fun c52 => ?_) (fun c52 => ?_)
  · replace hf := x_ip c52 hf
    refine lv_ldc2 (v := 17592186044415) hx hb C.own (C.tb wA_153) dA_call_16 ?_
    obtain rfl := Option.some.inj hf
    refine W.widen (k := 2) (n := 10) (by decide) (by decide) ?_
    exact x_lret C hw dA_call_19
  · replace hf := x_in c52 hf
    refine lv_iload_n hx hb dA_call_8 rfl (lv_at hl 2 rfl) ?_
    refine lv_iconst (v := 4) hx hb dA_call_9 (by decide) ?_
    refine x_callS (As := [.int a2, .int 4]) (rest := []) (st1 := [.int (fA_isBelow a2 4)]) C hw (cA_isBelow l E σ τ a2 4) kA_97 (by decide) rfl rfl hl.1 (lv_room (Nat.le_of_ble_eq_true rfl)) dA_call_10 ⟨by decide, by decide⟩ rfl (fun H locs hw => ?_)
    refine lv_if_ne (tgt := 20) hx hb dA_call_13 (by decide) (fun c54 => ?_) (fun c54 => ?_)
    · replace hf := x_in c54 hf
      refine lv_aload_n hx hb dA_call_20 rfl (lv_at hl 0 rfl) ?_
      refine lv_iload_n hx hb dA_call_21 rfl (lv_at hl 1 rfl) ?_
      refine x_callV (As := [.int a1]) (rest := []) (st1 := [.int (fA_hasNoRoomForCallOf σ a1)]) C hw (cA_hasNoRoomForCallOf l E σ τ a1) kA_155 (x_recv C hw 0 0 at_0 rfl rfl) (by decide) rfl rfl hl.1 (lv_room (Nat.le_of_ble_eq_true rfl)) dA_call_22 ⟨by decide, by decide⟩ rfl (fun H locs hw => ?_)
      refine lv_if_eq (tgt := 32) hx hb dA_call_25 (by decide) (fun c56 => ?_) (fun c56 => ?_)
      · replace hf := x_ip c56 hf
        refine lv_aload_n hx hb dA_call_32 rfl (lv_at hl 0 rfl) ?_
        refine lv_iload_n hx hb dA_call_33 rfl (lv_at hl 1 rfl) ?_
        refine lv_iload_n hx hb dA_call_34 rfl (lv_at hl 2 rfl) ?_
        obtain ⟨r58, h57, hf⟩ := x_p hf
        refine x_callV (As := [.int a1, .int a2]) (rest := []) (st1 := [.ref (E.2.2.1 14 r58)]) C hw (cA_methodOf l E σ τ a1 a2 r58 h57) kA_160 (x_recv C hw 0 0 at_0 rfl rfl) (by decide) rfl rfl hl.1 (lv_room (Nat.le_of_ble_eq_true rfl)) dA_call_35 ⟨by decide, by decide⟩ rfl (fun H locs hw => ?_)
        refine lv_astore (lv' := [(5, .ref (E.2.2.1 14 r58)), (0, .ref (E.2.2.1 0 0)), (1, .int a1), (2, .int a2), (3, .int a3), (4, .int a4)]) hx hb dA_call_38 hl (by decide) rfl (fun ls hl => ?_)
        refine lv_aload_n hx hb dA_call_40 rfl (lv_at hl 1 rfl) ?_
        refine lv_iload_n hx hb dA_call_41 rfl (lv_at hl 2 rfl) ?_
        refine lv_aload hx hb dA_call_42 (lv_at hl 0 rfl) ?_
        obtain ⟨r60, s61, h59, hf⟩ := x_b hf
        refine x_callV (As := [.int a1, .ref (E.2.2.1 14 r58)]) (rest := []) (st1 := [.int r60]) C hw (cA_misuseOfCall l E N σ τ a1 r58 (r60, s61) h59) kA_164 (x_recv C hw 0 0 at_0 rfl rfl) (by decide) rfl rfl hl.1 (lv_room (Nat.le_of_ble_eq_true rfl)) dA_call_44 ⟨by decide, by decide⟩ rfl (fun H locs hw => ?_)
        refine lv_istore (lv' := [(6, .int r60), (5, .ref (E.2.2.1 14 r58)), (0, .ref (E.2.2.1 0 0)), (1, .int a1), (2, .int a2), (3, .int a3), (4, .int a4)]) hx hb dA_call_47 hl (by decide) rfl (fun ls hl => ?_)
        refine lv_iload hx hb dA_call_49 (lv_at hl 0 rfl) ?_
        refine lv_if_eq (tgt := 62) hx hb dA_call_51 (by decide) (fun c62 => ?_) (fun c62 => ?_)
        · replace hf := x_ip c62 hf
          refine lv_aload hx hb dA_call_62 (lv_at hl 1 rfl) ?_
          obtain ⟨g63, hf⟩ := x_g hf
          refine x_getN C hw 14 r58 0 (v := .int (s61.1 14 r58 0)) (at_14 g63) rfl rfl ⟨by decide, by decide⟩ wA_105 rfl dA_call_64 ?_
          refine lv_if_le (tgt := 74) hx hb dA_call_67 (by decide) (fun c64 => ?_) (fun c64 => ?_)
          · replace hf := x_ip c64 hf
            refine lv_iconst (v := 0) hx hb dA_call_74 (by decide) ?_
            exact wA_call_75 C N s61 a1 a2 a4 r58 0 res hf H locs ls hw (lv_sub hl [2, 3, 4, 6, 1] rfl)
          · replace hf := x_in c64 hf
            refine lv_iload_n hx hb dA_call_70 rfl (lv_at hl 5 rfl) ?_
            refine lv_goto (tgt := 75) hx hb dA_call_71 (by decide) ?_
            exact wA_call_75 C N s61 a1 a2 a4 r58 a3 res hf H locs ls hw (lv_sub hl [2, 3, 4, 6, 1] rfl)
        · replace hf := x_in c62 hf
          refine lv_ldc2 (v := 17592186044416) hx hb C.own (C.tb wA_168) dA_call_54 ?_
          refine lv_iload hx hb dA_call_57 (lv_at hl 0 rfl) ?_
          refine lv_i2l hx hb dA_call_59 rfl ?_
          refine lv_ladd hx hb dA_call_60 ?_
          obtain rfl := Option.some.inj hf
          refine W.widen (k := 2) (n := 10) (by decide) (by decide) ?_
          exact x_lret C hw dA_call_61
      · replace hf := x_in c56 hf
        refine lv_ldc2 (v := 17592186044414) hx hb C.own (C.tb wA_158) dA_call_28 ?_
        obtain rfl := Option.some.inj hf
        refine W.widen (k := 2) (n := 10) (by decide) (by decide) ?_
        exact x_lret C hw dA_call_31
    · replace hf := x_ip c54 hf
      refine lv_ldc2 (v := 17592186044415) hx hb C.own (C.tb wA_153) dA_call_16 ?_
      obtain rfl := Option.some.inj hf
      refine W.widen (k := 2) (n := 10) (by decide) (by decide) ?_
      exact x_lret C hw dA_call_19
-- StandIns$Notebook takeBackLast ()V
set_option maxRecDepth 100000 in
theorem dB_takeBackLast_0 : decode bB_takeBackLast 0 = .ok (.aload_n 0, 1) := by decide +kernel
set_option maxRecDepth 100000 in
theorem dB_takeBackLast_1 : decode bB_takeBackLast 1 = .ok (.getfield 17, 3) := by decide +kernel
set_option maxRecDepth 100000 in
theorem dB_takeBackLast_4 : decode bB_takeBackLast 4 = .ok (.ifCond .le 13, 3) := by decide +kernel
set_option maxRecDepth 100000 in
theorem dB_takeBackLast_7 : decode bB_takeBackLast 7 = .ok (.aload_n 0, 1) := by decide +kernel
set_option maxRecDepth 100000 in
theorem dB_takeBackLast_8 : decode bB_takeBackLast 8 = .ok (.dup, 1) := by decide +kernel
set_option maxRecDepth 100000 in
theorem dB_takeBackLast_9 : decode bB_takeBackLast 9 = .ok (.getfield 17, 3) := by decide +kernel
set_option maxRecDepth 100000 in
theorem dB_takeBackLast_12 : decode bB_takeBackLast 12 = .ok (.iconst 1, 1) := by decide +kernel
set_option maxRecDepth 100000 in
theorem dB_takeBackLast_13 : decode bB_takeBackLast 13 = .ok (.isub, 1) := by decide +kernel
set_option maxRecDepth 100000 in
theorem dB_takeBackLast_14 : decode bB_takeBackLast 14 = .ok (.putfield 17, 3) := by decide +kernel
set_option maxRecDepth 100000 in
theorem dB_takeBackLast_17 : decode bB_takeBackLast 17 = .ok (.return_, 1) := by decide +kernel
def fB_takeBackLast (σ : xS) : xS :=
  if (σ.1 6 0 1) ≤ 0 then
  (σ)
  else
  (xl (x_si σ 6 0 1 ((σ.1 6 0 1) - 1)) fun s2 =>
  s2)
set_option maxHeartbeats 4000000 in
set_option maxRecDepth 100000 in
theorem cB_takeBackLast (l : Launch) (E : xE) (σ : xS) (τ : yS) (res : xS) (hf : fB_takeBackLast σ = res) : xM l E yB_takeBackLast bB_takeBackLast 1 none 0 0 0 [.ref (E.2.2.1 6 0)] σ τ none res τ := by
  refine x_met (by decide) (Nat.le_of_ble_eq_true rfl) (fun p e R s m args below meth c A ls H locs C hw hl => ?_)
  have hl : lv_has ls 1 [(0, .ref (E.2.2.1 6 0))] := hl
  have hx := C.1
  have hb := C.2.1
  unfold fB_takeBackLast at hf
  refine lv_aload_n hx hb dB_takeBackLast_0 rfl (lv_at hl 0 rfl) ?_
  refine x_get C hw 6 0 1 (v := .int (σ.1 6 0 1)) at_6 rfl rfl ⟨by decide, by decide⟩ wB_17 rfl dB_takeBackLast_1 ?_
  refine lv_if_le (tgt := 17) hx hb dB_takeBackLast_4 (by decide) (fun c1 => ?_) (fun c1 => ?_)
  · replace hf := x_ip c1 hf
    obtain rfl := hf
    exact x_vret C hw dB_takeBackLast_17
  · replace hf := x_in c1 hf
    refine lv_aload_n hx hb dB_takeBackLast_7 rfl (lv_at hl 0 rfl) ?_
    refine lv_dup hx hb dB_takeBackLast_8 rfl ?_
    refine x_get C hw 6 0 1 (v := .int (σ.1 6 0 1)) at_6 rfl rfl ⟨by decide, by decide⟩ wB_17 rfl dB_takeBackLast_9 ?_
    refine lv_iconst (v := 1) hx hb dB_takeBackLast_12 (by decide) ?_
    refine lv_isub hx hb dB_takeBackLast_13 ?_
    refine x_puti C hw 6 0 1 at_6 rfl rfl rfl ⟨rfl, rfl⟩ ⟨by decide, by decide⟩ (Nat.le_of_ble_eq_true rfl) wB_17 dB_takeBackLast_14 (fun H locs hw => ?_)
    obtain ⟨s2, es2, hf⟩ := x_l hf
    rw [← es2] at hw
    obtain rfl := hf
    exact x_vret C hw dB_takeBackLast_17
-- StandIns when ()I
set_option maxRecDepth 100000 in
theorem dA_when_0 : decode bA_when 0 = .ok (.aload_n 0, 1) := by decide +kernel
set_option maxRecDepth 100000 in
theorem dA_when_1 : decode bA_when 1 = .ok (.getfield 53, 3) := by decide +kernel
set_option maxRecDepth 100000 in
theorem dA_when_4 : decode bA_when 4 = .ok (.bipush 16, 2) := by decide +kernel
set_option maxRecDepth 100000 in
theorem dA_when_6 : decode bA_when 6 = .ok (.if_icmp .lt 6, 3) := by decide +kernel
set_option maxRecDepth 100000 in
theorem dA_when_9 : decode bA_when 9 = .ok (.bipush (-2), 2) := by decide +kernel
set_option maxRecDepth 100000 in
theorem dA_when_11 : decode bA_when 11 = .ok (.ireturn, 1) := by decide +kernel
set_option maxRecDepth 100000 in
theorem dA_when_12 : decode bA_when 12 = .ok (.aload_n 0, 1) := by decide +kernel
set_option maxRecDepth 100000 in
theorem dA_when_13 : decode bA_when 13 = .ok (.aload_n 0, 1) := by decide +kernel
set_option maxRecDepth 100000 in
theorem dA_when_14 : decode bA_when 14 = .ok (.getfield 77, 3) := by decide +kernel
set_option maxRecDepth 100000 in
theorem dA_when_17 : decode bA_when 17 = .ok (.iconst 1, 1) := by decide +kernel
set_option maxRecDepth 100000 in
theorem dA_when_18 : decode bA_when 18 = .ok (.if_icmp .eq 7, 3) := by decide +kernel
set_option maxRecDepth 100000 in
theorem dA_when_21 : decode bA_when 21 = .ok (.iconst 1, 1) := by decide +kernel
set_option maxRecDepth 100000 in
theorem dA_when_22 : decode bA_when 22 = .ok (.goto 4, 3) := by decide +kernel
set_option maxRecDepth 100000 in
theorem dA_when_25 : decode bA_when 25 = .ok (.iconst 0, 1) := by decide +kernel
set_option maxRecDepth 100000 in
theorem dA_when_26 : decode bA_when 26 = .ok (.invokevirtual 101, 3) := by decide +kernel
set_option maxRecDepth 100000 in
theorem dA_when_29 : decode bA_when 29 = .ok (.istore_n 1, 1) := by decide +kernel
set_option maxRecDepth 100000 in
theorem dA_when_30 : decode bA_when 30 = .ok (.iload_n 1, 1) := by decide +kernel
set_option maxRecDepth 100000 in
theorem dA_when_31 : decode bA_when 31 = .ok (.ifCond .eq 5, 3) := by decide +kernel
set_option maxRecDepth 100000 in
theorem dA_when_34 : decode bA_when 34 = .ok (.iload_n 1, 1) := by decide +kernel
set_option maxRecDepth 100000 in
theorem dA_when_35 : decode bA_when 35 = .ok (.ireturn, 1) := by decide +kernel
set_option maxRecDepth 100000 in
theorem dA_when_36 : decode bA_when 36 = .ok (.aload_n 0, 1) := by decide +kernel
set_option maxRecDepth 100000 in
theorem dA_when_37 : decode bA_when 37 = .ok (.getfield 43, 3) := by decide +kernel
set_option maxRecDepth 100000 in
theorem dA_when_40 : decode bA_when 40 = .ok (.invokevirtual 198, 3) := by decide +kernel
set_option maxRecDepth 100000 in
theorem dA_when_43 : decode bA_when 43 = .ok (.aload_n 0, 1) := by decide +kernel
set_option maxRecDepth 100000 in
theorem dA_when_44 : decode bA_when 44 = .ok (.invokevirtual 201, 3) := by decide +kernel
set_option maxRecDepth 100000 in
theorem dA_when_47 : decode bA_when 47 = .ok (.aload_n 0, 1) := by decide +kernel
set_option maxRecDepth 100000 in
theorem dA_when_48 : decode bA_when 48 = .ok (.iconst 4, 1) := by decide +kernel
set_option maxRecDepth 100000 in
theorem dA_when_49 : decode bA_when 49 = .ok (.putfield 77, 3) := by decide +kernel
set_option maxRecDepth 100000 in
theorem dA_when_52 : decode bA_when 52 = .ok (.aload_n 0, 1) := by decide +kernel
set_option maxRecDepth 100000 in
theorem dA_when_53 : decode bA_when 53 = .ok (.getfield 53, 3) := by decide +kernel
set_option maxRecDepth 100000 in
theorem dA_when_56 : decode bA_when 56 = .ok (.iconst 1, 1) := by decide +kernel
set_option maxRecDepth 100000 in
theorem dA_when_57 : decode bA_when 57 = .ok (.isub, 1) := by decide +kernel
set_option maxRecDepth 100000 in
theorem dA_when_58 : decode bA_when 58 = .ok (.ireturn, 1) := by decide +kernel
def fA_when_26 (σ : xS) (t0 : Int32) : Option (Int32 × xS) :=
  xb (fA_misuseOfPlainStep σ t0) fun r11 s12 =>
  if r11 = 0 then
  (xl (fB_takeBackLast s12) fun s15 =>
  xp (fA_beginTelling s15) fun s17 =>
  xl (x_si s17 0 0 12 4) fun s18 =>
  some ((s18.1 0 0 8) - 1, s18))
  else
  (some (r11, s12))
def fA_when (σ : xS) : Option (Int32 × xS) :=
  if (σ.1 0 0 8) < 16 then
  (if (σ.1 0 0 12) = 1 then
  (fA_when_26 σ 0)
  else
  (fA_when_26 σ 1))
  else
  (some ((-2), σ))
set_option maxHeartbeats 4000000 in
set_option maxRecDepth 100000 in
theorem wA_when_26 {p : Program} {l : Launch} {e : Env} {R : Room} {s : State} {m : MethodId} {args : Array Value} {below : List Frame} {meth : Method} {c : Code} {E : xE} {A : Nat → Prop} {τ : yS} (C : xC p s m args meth c R E A bA_when 2 yA_when (some .int) 5 0 0) (σ : xS) (t0 : Int32) (res : Int32 × xS) (hf : fA_when_26 σ t0 = some res) (H : Heap) (locs : List Loc) (ls : Array Slot) (hw : xW E A s σ τ H locs) (hl : lv_has ls 2 [(0, .ref (E.2.2.1 0 0))]) : W p l e R s m args below meth c H locs 0 0 (MQ below (xQ E A (some (.int res.1)) res.2 τ) args s 0 0 A) (F0 m 26 ls [.int t0, .ref (E.2.2.1 0 0)]) := by
  have hx := C.1
  have hb := C.2.1
  unfold fA_when_26 at hf
  obtain ⟨r11, s12, h10, hf⟩ := x_b hf
  refine x_callV (As := [.int t0]) (rest := []) (st1 := [.int r11]) C hw (cA_misuseOfPlainStep l E σ τ t0 (r11, s12) h10) kA_101 (x_recv C hw 0 0 at_0 rfl rfl) (by decide) rfl rfl hl.1 (lv_room (Nat.le_of_ble_eq_true rfl)) dA_when_26 ⟨by decide, by decide⟩ rfl (fun H locs hw => ?_)
  refine lv_istore_n (lv' := [(1, .int r11), (0, .ref (E.2.2.1 0 0))]) hx hb dA_when_29 rfl hl (by decide) rfl (fun ls hl => ?_)
  refine lv_iload_n hx hb dA_when_30 rfl (lv_at hl 0 rfl) ?_
  refine lv_if_eq (tgt := 36) hx hb dA_when_31 (by decide) (fun c13 => ?_) (fun c13 => ?_)
  · replace hf := x_ip c13 hf
    refine lv_aload_n hx hb dA_when_36 rfl (lv_at hl 1 rfl) ?_
    refine x_get C hw 0 0 6 (v := .ref (E.2.2.1 6 0)) at_0 rfl rfl ⟨by decide, by decide⟩ wA_43 rfl dA_when_37 ?_
    obtain ⟨s15, h14, hf⟩ := x_l hf
    refine x_callVN (As := []) (rest := []) (st1 := []) C hw (cB_takeBackLast l E s12 τ s15 h14.symm) kA_198 (x_recv C hw 6 0 at_6 rfl rfl) (by decide) rfl rfl hl.1 (lv_room (Nat.le_of_ble_eq_true rfl)) dA_when_40 ⟨by decide, by decide⟩ rfl (fun H locs hw => ?_)
    refine lv_aload_n hx hb dA_when_43 rfl (lv_at hl 1 rfl) ?_
    obtain ⟨s17, h16, hf⟩ := x_p hf
    refine x_callV (As := []) (rest := []) (st1 := []) C hw (cA_beginTelling l E s15 τ s17 h16) kA_201 (x_recv C hw 0 0 at_0 rfl rfl) (by decide) rfl rfl hl.1 (lv_room (Nat.le_of_ble_eq_true rfl)) dA_when_44 ⟨by decide, by decide⟩ rfl (fun H locs hw => ?_)
    refine lv_aload_n hx hb dA_when_47 rfl (lv_at hl 1 rfl) ?_
    refine lv_iconst (v := 4) hx hb dA_when_48 (by decide) ?_
    refine x_puti C hw 0 0 12 at_0 rfl rfl rfl ⟨rfl, rfl⟩ ⟨by decide, by decide⟩ (Nat.le_of_ble_eq_true rfl) wA_77 dA_when_49 (fun H locs hw => ?_)
    obtain ⟨s18, es18, hf⟩ := x_l hf
    rw [← es18] at hw
    refine lv_aload_n hx hb dA_when_52 rfl (lv_at hl 1 rfl) ?_
    refine x_get C hw 0 0 8 (v := .int (s18.1 0 0 8)) at_0 rfl rfl ⟨by decide, by decide⟩ wA_53 rfl dA_when_53 ?_
    refine lv_iconst (v := 1) hx hb dA_when_56 (by decide) ?_
    refine lv_isub hx hb dA_when_57 ?_
    obtain rfl := Option.some.inj hf
    exact x_iret C hw dA_when_58
  · replace hf := x_in c13 hf
    refine lv_iload_n hx hb dA_when_34 rfl (lv_at hl 0 rfl) ?_
    obtain rfl := Option.some.inj hf
    exact x_iret C hw dA_when_35
set_option maxHeartbeats 4000000 in
set_option maxRecDepth 100000 in
theorem cA_when (l : Launch) (E : xE) (σ : xS) (τ : yS) (res : Int32 × xS) (hf : fA_when σ = some res) : xM l E yA_when bA_when 2 (some .int) 5 0 0 [.ref (E.2.2.1 0 0)] σ τ (some (.int res.1)) res.2 τ := by
  refine x_met (by decide) (Nat.le_of_ble_eq_true rfl) (fun p e R s m args below meth c A ls H locs C hw hl => ?_)
  have hl : lv_has ls 2 [(0, .ref (E.2.2.1 0 0))] := hl
  have hx := C.1
  have hb := C.2.1
  unfold fA_when at hf
  refine lv_aload_n hx hb dA_when_0 rfl (lv_at hl 0 rfl) ?_
  refine x_get C hw 0 0 8 (v := .int (σ.1 0 0 8)) at_0 rfl rfl ⟨by decide, by decide⟩ wA_53 rfl dA_when_1 ?_
  refine lv_bipush (v := 16) hx hb dA_when_4 (by decide) ?_
  refine lv_icmp_lt (tgt := 12) hx hb dA_when_6 (by decide) (fun c19 => ?_) (fun c19 => ?_)
  · replace hf := x_ip c19 hf
    refine lv_aload_n hx hb dA_when_12 rfl (lv_at hl 0 rfl) ?_
    refine lv_aload_n hx hb dA_when_13 rfl (lv_at hl 0 rfl) ?_
    refine x_get C hw 0 0 12 (v := .int (σ.1 0 0 12)) at_0 rfl rfl ⟨by decide, by decide⟩ wA_77 rfl dA_when_14 ?_
    refine lv_iconst (v := 1) hx hb dA_when_17 (by decide) ?_
    refine lv_icmp_eq (tgt := 25) hx hb dA_when_18 (by decide) (fun c20 => ?_) (fun c20 => ?_)
    · replace hf := x_ip c20 hf
      refine lv_iconst (v := 0) hx hb dA_when_25 (by decide) ?_
      exact wA_when_26 C σ 0 res hf H locs ls hw (lv_sub hl [0] rfl)
    · replace hf := x_in c20 hf
      refine lv_iconst (v := 1) hx hb dA_when_21 (by decide) ?_
      refine lv_goto (tgt := 26) hx hb dA_when_22 (by decide) ?_
      exact wA_when_26 C σ 1 res hf H locs ls hw (lv_sub hl [0] rfl)
  · replace hf := x_in c19 hf
    refine lv_bipush (v := (-2)) hx hb dA_when_9 (by decide) ?_
    obtain rfl := Option.some.inj hf
    exact x_iret C hw dA_when_11
-- StandIns isAnswer (II)Z
set_option maxRecDepth 100000 in
theorem dA_isAnswer_0 : decode bA_isAnswer 0 = .ok (.iload_n 0, 1) := by decide +kernel
set_option maxRecDepth 100000 in
theorem dA_isAnswer_1 : decode bA_isAnswer 1 = .ok (.tableswitch 47 0 3 #[31, 33, 41, 31], 31) := by decide +kernel
set_option maxRecDepth 100000 in
theorem dA_isAnswer_32 : decode bA_isAnswer 32 = .ok (.iconst 1, 1) := by decide +kernel
set_option maxRecDepth 100000 in
theorem dA_isAnswer_33 : decode bA_isAnswer 33 = .ok (.ireturn, 1) := by decide +kernel
set_option maxRecDepth 100000 in
theorem dA_isAnswer_34 : decode bA_isAnswer 34 = .ok (.iload_n 1, 1) := by decide +kernel
set_option maxRecDepth 100000 in
theorem dA_isAnswer_35 : decode bA_isAnswer 35 = .ok (.sipush 1000, 3) := by decide +kernel
set_option maxRecDepth 100000 in
theorem dA_isAnswer_38 : decode bA_isAnswer 38 = .ok (.invokestatic 97, 3) := by decide +kernel
set_option maxRecDepth 100000 in
theorem dA_isAnswer_41 : decode bA_isAnswer 41 = .ok (.ireturn, 1) := by decide +kernel
set_option maxRecDepth 100000 in
theorem dA_isAnswer_42 : decode bA_isAnswer 42 = .ok (.iload_n 1, 1) := by decide +kernel
set_option maxRecDepth 100000 in
theorem dA_isAnswer_43 : decode bA_isAnswer 43 = .ok (.iconst 2, 1) := by decide +kernel
set_option maxRecDepth 100000 in
theorem dA_isAnswer_44 : decode bA_isAnswer 44 = .ok (.invokestatic 97, 3) := by decide +kernel
set_option maxRecDepth 100000 in
theorem dA_isAnswer_47 : decode bA_isAnswer 47 = .ok (.ireturn, 1) := by decide +kernel
set_option maxRecDepth 100000 in
theorem dA_isAnswer_48 : decode bA_isAnswer 48 = .ok (.iconst 0, 1) := by decide +kernel
set_option maxRecDepth 100000 in
theorem dA_isAnswer_49 : decode bA_isAnswer 49 = .ok (.ireturn, 1) := by decide +kernel
def fA_isAnswer (a0 : Int32) (a1 : Int32) : Int32 :=
  if a0 = 0 then
  (1)
  else
  (if a0 = 1 then
  (fA_isBelow a1 1000)
  else
  (if a0 = 2 then
  (fA_isBelow a1 2)
  else
  (if a0 = 3 then
  (1)
  else
  (0))))
set_option maxHeartbeats 4000000 in
set_option maxRecDepth 100000 in
theorem cA_isAnswer (l : Launch) (E : xE) (σ : xS) (τ : yS) (a0 : Int32) (a1 : Int32) : xM l E yA_isAnswer bA_isAnswer 2 (some .boolean) 1 0 0 [.int a0, .int a1] σ τ (some (.int (fA_isAnswer a0 a1))) σ τ := by
  refine x_met (by decide) (Nat.le_of_ble_eq_true rfl) (fun p e R s m args below meth c A ls H locs C hw hl => ?_)
  have hl : lv_has ls 2 [(0, .int a0), (1, .int a1)] := hl
  have hx := C.1
  have hb := C.2.1
  obtain ⟨res, hf⟩ : ∃ z, fA_isAnswer a0 a1 = z := ⟨_, rfl⟩
  rw [hf]
  unfold fA_isAnswer at hf
  refine lv_iload_n hx hb dA_isAnswer_0 rfl (lv_at hl 0 rfl) ?_
  by_cases c1 : a0 = 0
  · replace hf := x_ip c1 hf
    refine lv_tableIn (tgt := 32) hx hb dA_isAnswer_1 (by rw [c1]; decide) (by rw [c1]; decide) (by rw [c1]; rfl) (by decide) ?_
    refine lv_iconst (v := 1) hx hb dA_isAnswer_32 (by decide) ?_
    obtain rfl := hf
    exact x_zret C hw rfl dA_isAnswer_33
  · replace hf := x_in c1 hf
    by_cases c2 : a0 = 1
    · replace hf := x_ip c2 hf
      refine lv_tableIn (tgt := 34) hx hb dA_isAnswer_1 (by rw [c2]; decide) (by rw [c2]; decide) (by rw [c2]; rfl) (by decide) ?_
      refine lv_iload_n hx hb dA_isAnswer_34 rfl (lv_at hl 1 rfl) ?_
      refine lv_sipush (v := 1000) hx hb dA_isAnswer_35 (by decide) ?_
      refine x_callS (As := [.int a1, .int 1000]) (rest := []) (st1 := [.int (fA_isBelow a1 1000)]) C hw (cA_isBelow l E σ τ a1 1000) kA_97 (by decide) rfl rfl hl.1 (lv_room (Nat.le_of_ble_eq_true rfl)) dA_isAnswer_38 ⟨by decide, by decide⟩ rfl (fun H locs hw => ?_)
      obtain rfl := hf
      exact x_zret C hw (zA_isBelow a1 1000) dA_isAnswer_41
    · replace hf := x_in c2 hf
      by_cases c4 : a0 = 2
      · replace hf := x_ip c4 hf
        refine lv_tableIn (tgt := 42) hx hb dA_isAnswer_1 (by rw [c4]; decide) (by rw [c4]; decide) (by rw [c4]; rfl) (by decide) ?_
        refine lv_iload_n hx hb dA_isAnswer_42 rfl (lv_at hl 1 rfl) ?_
        refine lv_iconst (v := 2) hx hb dA_isAnswer_43 (by decide) ?_
        refine x_callS (As := [.int a1, .int 2]) (rest := []) (st1 := [.int (fA_isBelow a1 2)]) C hw (cA_isBelow l E σ τ a1 2) kA_97 (by decide) rfl rfl hl.1 (lv_room (Nat.le_of_ble_eq_true rfl)) dA_isAnswer_44 ⟨by decide, by decide⟩ rfl (fun H locs hw => ?_)
        obtain rfl := hf
        exact x_zret C hw (zA_isBelow a1 2) dA_isAnswer_47
      · replace hf := x_in c4 hf
        by_cases c6 : a0 = 3
        · replace hf := x_ip c6 hf
          refine lv_tableIn (tgt := 32) hx hb dA_isAnswer_1 (by rw [c6]; decide) (by rw [c6]; decide) (by rw [c6]; rfl) (by decide) ?_
          refine lv_iconst (v := 1) hx hb dA_isAnswer_32 (by decide) ?_
          obtain rfl := hf
          exact x_zret C hw rfl dA_isAnswer_33
        · replace hf := x_in c6 hf
          refine lv_tableOut (tgt := 48) hx hb dA_isAnswer_1 (by have nc1 := lv_neT c1 (a := 0) (by decide); have nc2 := lv_neT c2 (a := 1) (by decide); have nc4 := lv_neT c4 (a := 2) (by decide); have nc6 := lv_neT c6 (a := 3) (by decide); omega) (by decide) ?_
          refine lv_iconst (v := 0) hx hb dA_isAnswer_48 (by decide) ?_
          obtain rfl := hf
          exact x_zret C hw rfl dA_isAnswer_49
theorem zA_isAnswer (a0 : Int32) (a1 : Int32) : narrow .boolean (.int (fA_isAnswer a0 a1)) = .int (fA_isAnswer a0 a1) := by
  unfold fA_isAnswer
  (repeat' split) <;> first | rfl | exact zA_isBelow _ _ | exact zA_isBelow _ _
-- StandIns answer (II)I
set_option maxRecDepth 100000 in
theorem dA_answer_0 : decode bA_answer 0 = .ok (.iload_n 1, 1) := by decide +kernel
set_option maxRecDepth 100000 in
theorem dA_answer_1 : decode bA_answer 1 = .ok (.iload_n 2, 1) := by decide +kernel
set_option maxRecDepth 100000 in
theorem dA_answer_2 : decode bA_answer 2 = .ok (.invokestatic 204, 3) := by decide +kernel
set_option maxRecDepth 100000 in
theorem dA_answer_5 : decode bA_answer 5 = .ok (.ifCond .ne 5, 3) := by decide +kernel
set_option maxRecDepth 100000 in
theorem dA_answer_8 : decode bA_answer 8 = .ok (.iconst (-1), 1) := by decide +kernel
set_option maxRecDepth 100000 in
theorem dA_answer_9 : decode bA_answer 9 = .ok (.ireturn, 1) := by decide +kernel
set_option maxRecDepth 100000 in
theorem dA_answer_10 : decode bA_answer 10 = .ok (.aload_n 0, 1) := by decide +kernel
set_option maxRecDepth 100000 in
theorem dA_answer_11 : decode bA_answer 11 = .ok (.getfield 77, 3) := by decide +kernel
set_option maxRecDepth 100000 in
theorem dA_answer_14 : decode bA_answer 14 = .ok (.iconst 4, 1) := by decide +kernel
set_option maxRecDepth 100000 in
theorem dA_answer_15 : decode bA_answer 15 = .ok (.if_icmp .ne 13, 3) := by decide +kernel
set_option maxRecDepth 100000 in
theorem dA_answer_18 : decode bA_answer 18 = .ok (.aload_n 0, 1) := by decide +kernel
set_option maxRecDepth 100000 in
theorem dA_answer_19 : decode bA_answer 19 = .ok (.invokevirtual 207, 3) := by decide +kernel
set_option maxRecDepth 100000 in
theorem dA_answer_22 : decode bA_answer 22 = .ok (.getfield 211, 3) := by decide +kernel
set_option maxRecDepth 100000 in
theorem dA_answer_25 : decode bA_answer 25 = .ok (.goto 7, 3) := by decide +kernel
set_option maxRecDepth 100000 in
theorem dA_answer_28 : decode bA_answer 28 = .ok (.aload_n 0, 1) := by decide +kernel
set_option maxRecDepth 100000 in
theorem dA_answer_29 : decode bA_answer 29 = .ok (.getfield 36, 3) := by decide +kernel
set_option maxRecDepth 100000 in
theorem dA_answer_32 : decode bA_answer 32 = .ok (.astore_n 3, 1) := by decide +kernel
set_option maxRecDepth 100000 in
theorem dA_answer_33 : decode bA_answer 33 = .ok (.aload_n 3, 1) := by decide +kernel
set_option maxRecDepth 100000 in
theorem dA_answer_34 : decode bA_answer 34 = .ok (.getfield 214, 3) := by decide +kernel
set_option maxRecDepth 100000 in
theorem dA_answer_37 : decode bA_answer 37 = .ok (.iconst 4, 1) := by decide +kernel
set_option maxRecDepth 100000 in
theorem dA_answer_38 : decode bA_answer 38 = .ok (.if_icmp .lt 6, 3) := by decide +kernel
set_option maxRecDepth 100000 in
theorem dA_answer_41 : decode bA_answer 41 = .ok (.bipush (-2), 2) := by decide +kernel
set_option maxRecDepth 100000 in
theorem dA_answer_43 : decode bA_answer 43 = .ok (.ireturn, 1) := by decide +kernel
set_option maxRecDepth 100000 in
theorem dA_answer_44 : decode bA_answer 44 = .ok (.aload_n 0, 1) := by decide +kernel
set_option maxRecDepth 100000 in
theorem dA_answer_45 : decode bA_answer 45 = .ok (.getfield 77, 3) := by decide +kernel
set_option maxRecDepth 100000 in
theorem dA_answer_48 : decode bA_answer 48 = .ok (.iconst 4, 1) := by decide +kernel
set_option maxRecDepth 100000 in
theorem dA_answer_49 : decode bA_answer 49 = .ok (.if_icmp .ne 33, 3) := by decide +kernel
set_option maxRecDepth 100000 in
theorem dA_answer_52 : decode bA_answer 52 = .ok (.aload_n 0, 1) := by decide +kernel
set_option maxRecDepth 100000 in
theorem dA_answer_53 : decode bA_answer 53 = .ok (.aload_n 0, 1) := by decide +kernel
set_option maxRecDepth 100000 in
theorem dA_answer_54 : decode bA_answer 54 = .ok (.getfield 73, 3) := by decide +kernel
set_option maxRecDepth 100000 in
theorem dA_answer_57 : decode bA_answer 57 = .ok (.getfield 170, 3) := by decide +kernel
set_option maxRecDepth 100000 in
theorem dA_answer_60 : decode bA_answer 60 = .ok (.aload_n 0, 1) := by decide +kernel
set_option maxRecDepth 100000 in
theorem dA_answer_61 : decode bA_answer 61 = .ok (.getfield 73, 3) := by decide +kernel
set_option maxRecDepth 100000 in
theorem dA_answer_64 : decode bA_answer 64 = .ok (.getfield 173, 3) := by decide +kernel
set_option maxRecDepth 100000 in
theorem dA_answer_67 : decode bA_answer 67 = .ok (.invokevirtual 160, 3) := by decide +kernel
set_option maxRecDepth 100000 in
theorem dA_answer_70 : decode bA_answer 70 = .ok (.iload_n 1, 1) := by decide +kernel
set_option maxRecDepth 100000 in
theorem dA_answer_71 : decode bA_answer 71 = .ok (.iload_n 2, 1) := by decide +kernel
set_option maxRecDepth 100000 in
theorem dA_answer_72 : decode bA_answer 72 = .ok (.invokevirtual 215, 3) := by decide +kernel
set_option maxRecDepth 100000 in
theorem dA_answer_75 : decode bA_answer 75 = .ok (.ifCond .ne 7, 3) := by decide +kernel
set_option maxRecDepth 100000 in
theorem dA_answer_78 : decode bA_answer 78 = .ok (.iconst 1, 1) := by decide +kernel
set_option maxRecDepth 100000 in
theorem dA_answer_79 : decode bA_answer 79 = .ok (.goto 4, 3) := by decide +kernel
set_option maxRecDepth 100000 in
theorem dA_answer_82 : decode bA_answer 82 = .ok (.iconst 0, 1) := by decide +kernel
set_option maxRecDepth 100000 in
theorem dA_answer_83 : decode bA_answer 83 = .ok (.istore 4, 2) := by decide +kernel
set_option maxRecDepth 100000 in
theorem dA_answer_85 : decode bA_answer 85 = .ok (.aload_n 0, 1) := by decide +kernel
set_option maxRecDepth 100000 in
theorem dA_answer_86 : decode bA_answer 86 = .ok (.aload_n 0, 1) := by decide +kernel
set_option maxRecDepth 100000 in
theorem dA_answer_87 : decode bA_answer 87 = .ok (.invokevirtual 147, 3) := by decide +kernel
set_option maxRecDepth 100000 in
theorem dA_answer_90 : decode bA_answer 90 = .ok (.aload_n 0, 1) := by decide +kernel
set_option maxRecDepth 100000 in
theorem dA_answer_91 : decode bA_answer 91 = .ok (.getfield 29, 3) := by decide +kernel
set_option maxRecDepth 100000 in
theorem dA_answer_94 : decode bA_answer 94 = .ok (.getfield 121, 3) := by decide +kernel
set_option maxRecDepth 100000 in
theorem dA_answer_97 : decode bA_answer 97 = .ok (.ifCond .le 7, 3) := by decide +kernel
set_option maxRecDepth 100000 in
theorem dA_answer_100 : decode bA_answer 100 = .ok (.iconst 1, 1) := by decide +kernel
set_option maxRecDepth 100000 in
theorem dA_answer_101 : decode bA_answer 101 = .ok (.goto 4, 3) := by decide +kernel
set_option maxRecDepth 100000 in
theorem dA_answer_104 : decode bA_answer 104 = .ok (.iconst 0, 1) := by decide +kernel
set_option maxRecDepth 100000 in
theorem dA_answer_105 : decode bA_answer 105 = .ok (.iload 4, 2) := by decide +kernel
set_option maxRecDepth 100000 in
theorem dA_answer_107 : decode bA_answer 107 = .ok (.invokevirtual 132, 3) := by decide +kernel
set_option maxRecDepth 100000 in
theorem dA_answer_110 : decode bA_answer 110 = .ok (.istore 5, 2) := by decide +kernel
set_option maxRecDepth 100000 in
theorem dA_answer_112 : decode bA_answer 112 = .ok (.iload 5, 2) := by decide +kernel
set_option maxRecDepth 100000 in
theorem dA_answer_114 : decode bA_answer 114 = .ok (.ifCond .eq 6, 3) := by decide +kernel
set_option maxRecDepth 100000 in
theorem dA_answer_117 : decode bA_answer 117 = .ok (.iload 5, 2) := by decide +kernel
set_option maxRecDepth 100000 in
theorem dA_answer_119 : decode bA_answer 119 = .ok (.ireturn, 1) := by decide +kernel
set_option maxRecDepth 100000 in
theorem dA_answer_120 : decode bA_answer 120 = .ok (.aload_n 3, 1) := by decide +kernel
set_option maxRecDepth 100000 in
theorem dA_answer_121 : decode bA_answer 121 = .ok (.iload_n 1, 1) := by decide +kernel
set_option maxRecDepth 100000 in
theorem dA_answer_122 : decode bA_answer 122 = .ok (.iload_n 2, 1) := by decide +kernel
set_option maxRecDepth 100000 in
theorem dA_answer_123 : decode bA_answer 123 = .ok (.invokevirtual 218, 3) := by decide +kernel
set_option maxRecDepth 100000 in
theorem dA_answer_126 : decode bA_answer 126 = .ok (.aload_n 0, 1) := by decide +kernel
set_option maxRecDepth 100000 in
theorem dA_answer_127 : decode bA_answer 127 = .ok (.getfield 77, 3) := by decide +kernel
set_option maxRecDepth 100000 in
theorem dA_answer_130 : decode bA_answer 130 = .ok (.iconst 4, 1) := by decide +kernel
set_option maxRecDepth 100000 in
theorem dA_answer_131 : decode bA_answer 131 = .ok (.if_icmp .ne 10, 3) := by decide +kernel
set_option maxRecDepth 100000 in
theorem dA_answer_134 : decode bA_answer 134 = .ok (.aload_n 3, 1) := by decide +kernel
set_option maxRecDepth 100000 in
theorem dA_answer_135 : decode bA_answer 135 = .ok (.getfield 214, 3) := by decide +kernel
set_option maxRecDepth 100000 in
theorem dA_answer_138 : decode bA_answer 138 = .ok (.goto 11, 3) := by decide +kernel
set_option maxRecDepth 100000 in
theorem dA_answer_141 : decode bA_answer 141 = .ok (.aload_n 0, 1) := by decide +kernel
set_option maxRecDepth 100000 in
theorem dA_answer_142 : decode bA_answer 142 = .ok (.aload_n 3, 1) := by decide +kernel
set_option maxRecDepth 100000 in
theorem dA_answer_143 : decode bA_answer 143 = .ok (.getfield 214, 3) := by decide +kernel
set_option maxRecDepth 100000 in
theorem dA_answer_146 : decode bA_answer 146 = .ok (.invokevirtual 112, 3) := by decide +kernel
set_option maxRecDepth 100000 in
theorem dA_answer_149 : decode bA_answer 149 = .ok (.ireturn, 1) := by decide +kernel
def fA_answer_105 (σ : xS) (a1 : Int32) (a2 : Int32) (k3 : Nat) (a4 : Int32) (t0 : Int32) (t1 : Int32) : Option (Int32 × xS) :=
  xb (fA_misuseIf σ t1 t0 a4) fun r23 s24 =>
  if r23 = 0 then
  (xp (fQ_add s24 k3 a1 a2) fun s27 =>
  if k3 < 17 then
  if (s27.1 0 0 12) = 4 then
  (some (s27.1 18 k3 2, s27))
  else
  (xl (fA_idleWith s27 (s27.1 18 k3 2)) fun s31 =>
  some (s31.1, s31.2))
  else none)
  else
  (some (r23, s24))
def fA_answer_83 (σ : xS) (a1 : Int32) (a2 : Int32) (k3 : Nat) (t0 : Int32) : Option (Int32 × xS) :=
  if (σ.1 4 0 1) ≤ 0 then
  (fA_answer_105 σ a1 a2 k3 t0 0 (fA_awaitsCall σ))
  else
  (fA_answer_105 σ a1 a2 k3 t0 1 (fA_awaitsCall σ))
def fA_answer_82 (σ : xS) (a1 : Int32) (a2 : Int32) (k3 : Nat) : Option (Int32 × xS) :=
  fA_answer_83 σ a1 a2 k3 0
def fA_answer_32 (σ : xS) (a1 : Int32) (a2 : Int32) (t0 : Nat) : Option (Int32 × xS) :=
  if t0 < 17 then
  if (σ.1 18 t0 2) < 4 then
  (if (σ.1 0 0 12) = 4 then
  (xp (fA_methodOf σ (σ.1 17 16 0) (σ.1 17 16 1)) fun r38 =>
  xp (fD_canDo σ r38 a1 a2) fun r40 =>
  if r38 < 12 then
  if r40 = 0 then
  (fA_answer_83 σ a1 a2 t0 1)
  else
  (fA_answer_82 σ a1 a2 t0)
  else none)
  else
  (fA_answer_82 σ a1 a2 t0))
  else
  (some ((-2), σ))
  else none
def fA_answer (σ : xS) (a1 : Int32) (a2 : Int32) : Option (Int32 × xS) :=
  if (fA_isAnswer a1 a2) = 0 then
  (some ((-1), σ))
  else
  (if (σ.1 0 0 12) = 4 then
  (xp (fA_latestTelling σ) fun r47 =>
  if r47 < 16 then
  fA_answer_32 σ a1 a2 r47
  else none)
  else
  (fA_answer_32 σ a1 a2 16))
set_option maxHeartbeats 4000000 in
set_option maxRecDepth 100000 in
theorem wA_answer_105 {p : Program} {l : Launch} {e : Env} {R : Room} {s : State} {m : MethodId} {args : Array Value} {below : List Frame} {meth : Method} {c : Code} {E : xE} {A : Nat → Prop} {τ : yS} (C : xC p s m args meth c R E A bA_answer 6 yA_answer (some .int) 4 0 0) (σ : xS) (a1 : Int32) (a2 : Int32) (k3 : Nat) (a4 : Int32) (t0 : Int32) (t1 : Int32) (res : Int32 × xS) (hf : fA_answer_105 σ a1 a2 k3 a4 t0 t1 = some res) (H : Heap) (locs : List Loc) (ls : Array Slot) (hw : xW E A s σ τ H locs) (hl : lv_has ls 6 [(0, .ref (E.2.2.1 0 0)), (1, .int a1), (2, .int a2), (3, .ref (E.2.2.1 18 k3)), (4, .int a4)]) : W p l e R s m args below meth c H locs 0 0 (MQ below (xQ E A (some (.int res.1)) res.2 τ) args s 0 0 A) (F0 m 105 ls [.int t0, .int t1, .ref (E.2.2.1 0 0)]) := by
  have hx := C.1
  have hb := C.2.1
  unfold fA_answer_105 at hf
  refine lv_iload hx hb dA_answer_105 (lv_at hl 4 rfl) ?_
  obtain ⟨r23, s24, h22, hf⟩ := x_b hf
  refine x_callV (As := [.int t1, .int t0, .int a4]) (rest := []) (st1 := [.int r23]) C hw (cA_misuseIf l E σ τ t1 t0 a4 (r23, s24) h22) kA_132 (x_recv C hw 0 0 at_0 rfl rfl) (by decide) rfl rfl hl.1 (lv_room (Nat.le_of_ble_eq_true rfl)) dA_answer_107 ⟨by decide, by decide⟩ rfl (fun H locs hw => ?_)
  refine lv_istore (lv' := [(5, .int r23), (0, .ref (E.2.2.1 0 0)), (1, .int a1), (2, .int a2), (3, .ref (E.2.2.1 18 k3)), (4, .int a4)]) hx hb dA_answer_110 hl (by decide) rfl (fun ls hl => ?_)
  refine lv_iload hx hb dA_answer_112 (lv_at hl 0 rfl) ?_
  refine lv_if_eq (tgt := 120) hx hb dA_answer_114 (by decide) (fun c25 => ?_) (fun c25 => ?_)
  · replace hf := x_ip c25 hf
    refine lv_aload_n hx hb dA_answer_120 rfl (lv_at hl 4 rfl) ?_
    refine lv_iload_n hx hb dA_answer_121 rfl (lv_at hl 2 rfl) ?_
    refine lv_iload_n hx hb dA_answer_122 rfl (lv_at hl 3 rfl) ?_
    obtain ⟨s27, h26, hf⟩ := x_p hf
    obtain ⟨g28, hf⟩ := x_g hf
    refine x_callVN (As := [.int a1, .int a2]) (rest := []) (st1 := []) C hw (cQ_add l E s24 τ k3 a1 a2 s27 h26) kA_218 (x_recv C hw 18 k3 (at_18 g28) rfl rfl) (by decide) rfl rfl hl.1 (lv_room (Nat.le_of_ble_eq_true rfl)) dA_answer_123 ⟨by decide, by decide⟩ rfl (fun H locs hw => ?_)
    refine lv_aload_n hx hb dA_answer_126 rfl (lv_at hl 1 rfl) ?_
    refine x_get C hw 0 0 12 (v := .int (s27.1 0 0 12)) at_0 rfl rfl ⟨by decide, by decide⟩ wA_77 rfl dA_answer_127 ?_
    refine lv_iconst (v := 4) hx hb dA_answer_130 (by decide) ?_
    refine lv_icmp_ne (tgt := 141) hx hb dA_answer_131 (by decide) (fun c29 => ?_) (fun c29 => ?_)
    · replace hf := x_in c29 hf
      refine lv_aload_n hx hb dA_answer_141 rfl (lv_at hl 1 rfl) ?_
      refine lv_aload_n hx hb dA_answer_142 rfl (lv_at hl 4 rfl) ?_
      refine x_getN C hw 18 k3 2 (v := .int (s27.1 18 k3 2)) (at_18 g28) rfl rfl ⟨by decide, by decide⟩ wA_214 rfl dA_answer_143 ?_
      obtain ⟨s31, h30, hf⟩ := x_l hf
      refine x_callV (As := [.int (s27.1 18 k3 2)]) (rest := []) (st1 := [.int s31.1]) C hw (cA_idleWith l E s27 τ (s27.1 18 k3 2) s31 h30.symm) kA_112 (x_recv C hw 0 0 at_0 rfl rfl) (by decide) rfl rfl hl.1 (lv_room (Nat.le_of_ble_eq_true rfl)) dA_answer_146 ⟨by decide, by decide⟩ rfl (fun H locs hw => ?_)
      obtain rfl := Option.some.inj hf
      exact x_iret C hw dA_answer_149
    · replace hf := x_ip c29 hf
      refine lv_aload_n hx hb dA_answer_134 rfl (lv_at hl 4 rfl) ?_
      refine x_getN C hw 18 k3 2 (v := .int (s27.1 18 k3 2)) (at_18 g28) rfl rfl ⟨by decide, by decide⟩ wA_214 rfl dA_answer_135 ?_
      refine lv_goto (tgt := 149) hx hb dA_answer_138 (by decide) ?_
      obtain rfl := Option.some.inj hf
      exact x_iret C hw dA_answer_149
  · replace hf := x_in c25 hf
    refine lv_iload hx hb dA_answer_117 (lv_at hl 0 rfl) ?_
    obtain rfl := Option.some.inj hf
    exact x_iret C hw dA_answer_119
set_option maxHeartbeats 4000000 in
set_option maxRecDepth 100000 in
theorem wA_answer_83 {p : Program} {l : Launch} {e : Env} {R : Room} {s : State} {m : MethodId} {args : Array Value} {below : List Frame} {meth : Method} {c : Code} {E : xE} {A : Nat → Prop} {τ : yS} (C : xC p s m args meth c R E A bA_answer 6 yA_answer (some .int) 4 0 0) (σ : xS) (a1 : Int32) (a2 : Int32) (k3 : Nat) (t0 : Int32) (res : Int32 × xS) (hf : fA_answer_83 σ a1 a2 k3 t0 = some res) (H : Heap) (locs : List Loc) (ls : Array Slot) (hw : xW E A s σ τ H locs) (hl : lv_has ls 6 [(0, .ref (E.2.2.1 0 0)), (1, .int a1), (2, .int a2), (3, .ref (E.2.2.1 18 k3))]) : W p l e R s m args below meth c H locs 0 0 (MQ below (xQ E A (some (.int res.1)) res.2 τ) args s 0 0 A) (F0 m 83 ls [.int t0]) := by
  have hx := C.1
  have hb := C.2.1
  unfold fA_answer_83 at hf
  refine lv_istore (lv' := [(4, .int t0), (0, .ref (E.2.2.1 0 0)), (1, .int a1), (2, .int a2), (3, .ref (E.2.2.1 18 k3))]) hx hb dA_answer_83 hl (by decide) rfl (fun ls hl => ?_)
  refine lv_aload_n hx hb dA_answer_85 rfl (lv_at hl 1 rfl) ?_
  refine lv_aload_n hx hb dA_answer_86 rfl (lv_at hl 1 rfl) ?_
  refine x_callV (As := []) (rest := [.ref (E.2.2.1 0 0)]) (st1 := [.int (fA_awaitsCall σ), .ref (E.2.2.1 0 0)]) C hw (cA_awaitsCall l E σ τ) kA_147 (x_recv C hw 0 0 at_0 rfl rfl) (by decide) rfl rfl hl.1 (lv_room (Nat.le_of_ble_eq_true rfl)) dA_answer_87 ⟨by decide, by decide⟩ rfl (fun H locs hw => ?_)
  refine lv_aload_n hx hb dA_answer_90 rfl (lv_at hl 1 rfl) ?_
  refine x_get C hw 0 0 4 (v := .ref (E.2.2.1 4 0)) at_0 rfl rfl ⟨by decide, by decide⟩ wA_29 rfl dA_answer_91 ?_
  refine x_getN C hw 4 0 1 (v := .int (σ.1 4 0 1)) at_4 rfl rfl ⟨by decide, by decide⟩ wA_121 rfl dA_answer_94 ?_
  refine lv_if_le (tgt := 104) hx hb dA_answer_97 (by decide) (fun c33 => ?_) (fun c33 => ?_)
  · replace hf := x_ip c33 hf
    refine lv_iconst (v := 0) hx hb dA_answer_104 (by decide) ?_
    exact wA_answer_105 C σ a1 a2 k3 t0 0 (fA_awaitsCall σ) res hf H locs ls hw (lv_sub hl [1, 2, 3, 4, 0] rfl)
  · replace hf := x_in c33 hf
    refine lv_iconst (v := 1) hx hb dA_answer_100 (by decide) ?_
    refine lv_goto (tgt := 105) hx hb dA_answer_101 (by decide) ?_
    exact wA_answer_105 C σ a1 a2 k3 t0 1 (fA_awaitsCall σ) res hf H locs ls hw (lv_sub hl [1, 2, 3, 4, 0] rfl)
set_option maxHeartbeats 4000000 in
set_option maxRecDepth 100000 in
theorem wA_answer_82 {p : Program} {l : Launch} {e : Env} {R : Room} {s : State} {m : MethodId} {args : Array Value} {below : List Frame} {meth : Method} {c : Code} {E : xE} {A : Nat → Prop} {τ : yS} (C : xC p s m args meth c R E A bA_answer 6 yA_answer (some .int) 4 0 0) (σ : xS) (a1 : Int32) (a2 : Int32) (k3 : Nat) (res : Int32 × xS) (hf : fA_answer_82 σ a1 a2 k3 = some res) (H : Heap) (locs : List Loc) (ls : Array Slot) (hw : xW E A s σ τ H locs) (hl : lv_has ls 6 [(0, .ref (E.2.2.1 0 0)), (1, .int a1), (2, .int a2), (3, .ref (E.2.2.1 18 k3))]) : W p l e R s m args below meth c H locs 0 0 (MQ below (xQ E A (some (.int res.1)) res.2 τ) args s 0 0 A) (F0 m 82 ls []) := by
  have hx := C.1
  have hb := C.2.1
  unfold fA_answer_82 at hf
  refine lv_iconst (v := 0) hx hb dA_answer_82 (by decide) ?_
  exact wA_answer_83 C σ a1 a2 k3 0 res hf H locs ls hw (lv_sub hl [0, 1, 2, 3] rfl)
set_option maxHeartbeats 4000000 in
set_option maxRecDepth 100000 in
theorem wA_answer_32 {p : Program} {l : Launch} {e : Env} {R : Room} {s : State} {m : MethodId} {args : Array Value} {below : List Frame} {meth : Method} {c : Code} {E : xE} {A : Nat → Prop} {τ : yS} (C : xC p s m args meth c R E A bA_answer 6 yA_answer (some .int) 4 0 0) (σ : xS) (a1 : Int32) (a2 : Int32) (t0 : Nat) (res : Int32 × xS) (hf : fA_answer_32 σ a1 a2 t0 = some res) (H : Heap) (locs : List Loc) (ls : Array Slot) (hw : xW E A s σ τ H locs) (hl : lv_has ls 6 [(0, .ref (E.2.2.1 0 0)), (1, .int a1), (2, .int a2)]) : W p l e R s m args below meth c H locs 0 0 (MQ below (xQ E A (some (.int res.1)) res.2 τ) args s 0 0 A) (F0 m 32 ls [.ref (E.2.2.1 18 t0)]) := by
  have hx := C.1
  have hb := C.2.1
  unfold fA_answer_32 at hf
  refine lv_astore_n (lv' := [(3, .ref (E.2.2.1 18 t0)), (0, .ref (E.2.2.1 0 0)), (1, .int a1), (2, .int a2)]) hx hb dA_answer_32 rfl hl (by decide) rfl (fun ls hl => ?_)
  refine lv_aload_n hx hb dA_answer_33 rfl (lv_at hl 0 rfl) ?_
  obtain ⟨g34, hf⟩ := x_g hf
  refine x_getN C hw 18 t0 2 (v := .int (σ.1 18 t0 2)) (at_18 g34) rfl rfl ⟨by decide, by decide⟩ wA_214 rfl dA_answer_34 ?_
  refine lv_iconst (v := 4) hx hb dA_answer_37 (by decide) ?_
  refine lv_icmp_lt (tgt := 44) hx hb dA_answer_38 (by decide) (fun c35 => ?_) (fun c35 => ?_)
  · replace hf := x_ip c35 hf
    refine lv_aload_n hx hb dA_answer_44 rfl (lv_at hl 1 rfl) ?_
    refine x_get C hw 0 0 12 (v := .int (σ.1 0 0 12)) at_0 rfl rfl ⟨by decide, by decide⟩ wA_77 rfl dA_answer_45 ?_
    refine lv_iconst (v := 4) hx hb dA_answer_48 (by decide) ?_
    refine lv_icmp_ne (tgt := 82) hx hb dA_answer_49 (by decide) (fun c36 => ?_) (fun c36 => ?_)
    · replace hf := x_in c36 hf
      exact wA_answer_82 C σ a1 a2 t0 res hf H locs ls hw (lv_sub hl [1, 2, 3, 0] rfl)
    · replace hf := x_ip c36 hf
      refine lv_aload_n hx hb dA_answer_52 rfl (lv_at hl 1 rfl) ?_
      refine lv_aload_n hx hb dA_answer_53 rfl (lv_at hl 1 rfl) ?_
      refine x_get C hw 0 0 11 (v := .ref (E.2.2.1 17 16)) at_0 rfl rfl ⟨by decide, by decide⟩ wA_73 rfl dA_answer_54 ?_
      refine x_getN C hw 17 16 0 (v := .int (σ.1 17 16 0)) (at_17 (by decide)) rfl rfl ⟨by decide, by decide⟩ wA_170 rfl dA_answer_57 ?_
      refine lv_aload_n hx hb dA_answer_60 rfl (lv_at hl 1 rfl) ?_
      refine x_get C hw 0 0 11 (v := .ref (E.2.2.1 17 16)) at_0 rfl rfl ⟨by decide, by decide⟩ wA_73 rfl dA_answer_61 ?_
      refine x_getN C hw 17 16 1 (v := .int (σ.1 17 16 1)) (at_17 (by decide)) rfl rfl ⟨by decide, by decide⟩ wA_173 rfl dA_answer_64 ?_
      obtain ⟨r38, h37, hf⟩ := x_p hf
      refine x_callV (As := [.int (σ.1 17 16 0), .int (σ.1 17 16 1)]) (rest := []) (st1 := [.ref (E.2.2.1 14 r38)]) C hw (cA_methodOf l E σ τ (σ.1 17 16 0) (σ.1 17 16 1) r38 h37) kA_160 (x_recv C hw 0 0 at_0 rfl rfl) (by decide) rfl rfl hl.1 (lv_room (Nat.le_of_ble_eq_true rfl)) dA_answer_67 ⟨by decide, by decide⟩ rfl (fun H locs hw => ?_)
      refine lv_iload_n hx hb dA_answer_70 rfl (lv_at hl 2 rfl) ?_
      refine lv_iload_n hx hb dA_answer_71 rfl (lv_at hl 3 rfl) ?_
      obtain ⟨r40, h39, hf⟩ := x_p hf
      obtain ⟨g41, hf⟩ := x_g hf
      refine x_callVN (As := [.int a1, .int a2]) (rest := []) (st1 := [.int r40]) C hw (cD_canDo l E σ τ r38 a1 a2 r40 h39) kA_215 (x_recv C hw 14 r38 (at_14 g41) rfl rfl) (by decide) rfl rfl hl.1 (lv_room (Nat.le_of_ble_eq_true rfl)) dA_answer_72 ⟨by decide, by decide⟩ rfl (fun H locs hw => ?_)
      refine lv_if_ne (tgt := 82) hx hb dA_answer_75 (by decide) (fun c42 => ?_) (fun c42 => ?_)
      · replace hf := x_in c42 hf
        exact wA_answer_82 C σ a1 a2 t0 res hf H locs ls hw (lv_sub hl [1, 2, 3, 0] rfl)
      · replace hf := x_ip c42 hf
        refine lv_iconst (v := 1) hx hb dA_answer_78 (by decide) ?_
        refine lv_goto (tgt := 83) hx hb dA_answer_79 (by decide) ?_
        exact wA_answer_83 C σ a1 a2 t0 1 res hf H locs ls hw (lv_sub hl [1, 2, 3, 0] rfl)
  · replace hf := x_in c35 hf
    refine lv_bipush (v := (-2)) hx hb dA_answer_41 (by decide) ?_
    obtain rfl := Option.some.inj hf
    exact x_iret C hw dA_answer_43
set_option maxHeartbeats 4000000 in
set_option maxRecDepth 100000 in
theorem cA_answer (l : Launch) (E : xE) (σ : xS) (τ : yS) (a1 : Int32) (a2 : Int32) (res : Int32 × xS) (hf : fA_answer σ a1 a2 = some res) : xM l E yA_answer bA_answer 6 (some .int) 4 0 0 [.ref (E.2.2.1 0 0), .int a1, .int a2] σ τ (some (.int res.1)) res.2 τ := by
  refine x_met (by decide) (Nat.le_of_ble_eq_true rfl) (fun p e R s m args below meth c A ls H locs C hw hl => ?_)
  have hl : lv_has ls 6 [(0, .ref (E.2.2.1 0 0)), (1, .int a1), (2, .int a2)] := hl
  have hx := C.1
  have hb := C.2.1
  unfold fA_answer at hf
  refine lv_iload_n hx hb dA_answer_0 rfl (lv_at hl 1 rfl) ?_
  refine lv_iload_n hx hb dA_answer_1 rfl (lv_at hl 2 rfl) ?_
  refine x_callS (As := [.int a1, .int a2]) (rest := []) (st1 := [.int (fA_isAnswer a1 a2)]) C hw (cA_isAnswer l E σ τ a1 a2) kA_204 (by decide) rfl rfl hl.1 (lv_room (Nat.le_of_ble_eq_true rfl)) dA_answer_2 ⟨by decide, by decide⟩ rfl (fun H locs hw => ?_)
  refine lv_if_ne (tgt := 10) hx hb dA_answer_5 (by decide) (fun c44 => ?_) (fun c44 => ?_)
  · replace hf := x_in c44 hf
    refine lv_aload_n hx hb dA_answer_10 rfl (lv_at hl 0 rfl) ?_
    refine x_get C hw 0 0 12 (v := .int (σ.1 0 0 12)) at_0 rfl rfl ⟨by decide, by decide⟩ wA_77 rfl dA_answer_11 ?_
    refine lv_iconst (v := 4) hx hb dA_answer_14 (by decide) ?_
    refine lv_icmp_ne (tgt := 28) hx hb dA_answer_15 (by decide) (fun c45 => ?_) (fun c45 => ?_)
    · replace hf := x_in c45 hf
      refine lv_aload_n hx hb dA_answer_28 rfl (lv_at hl 0 rfl) ?_
      refine x_get C hw 0 0 5 (v := .ref (E.2.2.1 18 16)) at_0 rfl rfl ⟨by decide, by decide⟩ wA_36 rfl dA_answer_29 ?_
      exact wA_answer_32 C σ a1 a2 16 res hf H locs ls hw (lv_sub hl [0, 1, 2] rfl)
    · replace hf := x_ip c45 hf
      refine lv_aload_n hx hb dA_answer_18 rfl (lv_at hl 0 rfl) ?_
      obtain ⟨r47, h46, hf⟩ := x_p hf
      refine x_callV (As := []) (rest := []) (st1 := [.ref (E.2.2.1 16 r47)]) C hw (cA_latestTelling l E σ τ r47 h46) kA_207 (x_recv C hw 0 0 at_0 rfl rfl) (by decide) rfl rfl hl.1 (lv_room (Nat.le_of_ble_eq_true rfl)) dA_answer_19 ⟨by decide, by decide⟩ rfl (fun H locs hw => ?_)
      obtain ⟨g48, hf⟩ := x_g hf
      refine x_getN C hw 16 r47 1 (v := .ref (E.2.2.1 18 r47)) (at_16 g48) rfl rfl ⟨by decide, by decide⟩ wA_211 rfl dA_answer_22 ?_
      refine lv_goto (tgt := 32) hx hb dA_answer_25 (by decide) ?_
      exact wA_answer_32 C σ a1 a2 r47 res hf H locs ls hw (lv_sub hl [0, 1, 2] rfl)
  · replace hf := x_ip c44 hf
    refine lv_iconst (v := (-1)) hx hb dA_answer_8 (by decide) ?_
    obtain rfl := Option.some.inj hf
    exact x_iret C hw dA_answer_9
-- StandIns told (I)I
set_option maxRecDepth 100000 in
theorem dA_told_0 : decode bA_told 0 = .ok (.aload_n 0, 1) := by decide +kernel
set_option maxRecDepth 100000 in
theorem dA_told_1 : decode bA_told 1 = .ok (.iload_n 1, 1) := by decide +kernel
set_option maxRecDepth 100000 in
theorem dA_told_2 : decode bA_told 2 = .ok (.invokevirtual 150, 3) := by decide +kernel
set_option maxRecDepth 100000 in
theorem dA_told_5 : decode bA_told 5 = .ok (.ifCond .ne 5, 3) := by decide +kernel
set_option maxRecDepth 100000 in
theorem dA_told_8 : decode bA_told 8 = .ok (.iconst (-1), 1) := by decide +kernel
set_option maxRecDepth 100000 in
theorem dA_told_9 : decode bA_told 9 = .ok (.ireturn, 1) := by decide +kernel
set_option maxRecDepth 100000 in
theorem dA_told_10 : decode bA_told 10 = .ok (.aload_n 0, 1) := by decide +kernel
set_option maxRecDepth 100000 in
theorem dA_told_11 : decode bA_told 11 = .ok (.aload_n 0, 1) := by decide +kernel
set_option maxRecDepth 100000 in
theorem dA_told_12 : decode bA_told 12 = .ok (.getfield 36, 3) := by decide +kernel
set_option maxRecDepth 100000 in
theorem dA_told_15 : decode bA_told 15 = .ok (.getfield 214, 3) := by decide +kernel
set_option maxRecDepth 100000 in
theorem dA_told_18 : decode bA_told 18 = .ok (.ifCond .ne 7, 3) := by decide +kernel
set_option maxRecDepth 100000 in
theorem dA_told_21 : decode bA_told 21 = .ok (.iconst 1, 1) := by decide +kernel
set_option maxRecDepth 100000 in
theorem dA_told_22 : decode bA_told 22 = .ok (.goto 4, 3) := by decide +kernel
set_option maxRecDepth 100000 in
theorem dA_told_25 : decode bA_told 25 = .ok (.iconst 0, 1) := by decide +kernel
set_option maxRecDepth 100000 in
theorem dA_told_26 : decode bA_told 26 = .ok (.invokevirtual 101, 3) := by decide +kernel
set_option maxRecDepth 100000 in
theorem dA_told_29 : decode bA_told 29 = .ok (.istore_n 2, 1) := by decide +kernel
set_option maxRecDepth 100000 in
theorem dA_told_30 : decode bA_told 30 = .ok (.iload_n 2, 1) := by decide +kernel
set_option maxRecDepth 100000 in
theorem dA_told_31 : decode bA_told 31 = .ok (.ifCond .eq 5, 3) := by decide +kernel
set_option maxRecDepth 100000 in
theorem dA_told_34 : decode bA_told 34 = .ok (.iload_n 2, 1) := by decide +kernel
set_option maxRecDepth 100000 in
theorem dA_told_35 : decode bA_told 35 = .ok (.ireturn, 1) := by decide +kernel
set_option maxRecDepth 100000 in
theorem dA_told_36 : decode bA_told 36 = .ok (.aload_n 0, 1) := by decide +kernel
set_option maxRecDepth 100000 in
theorem dA_told_37 : decode bA_told 37 = .ok (.iconst 2, 1) := by decide +kernel
set_option maxRecDepth 100000 in
theorem dA_told_38 : decode bA_told 38 = .ok (.putfield 77, 3) := by decide +kernel
set_option maxRecDepth 100000 in
theorem dA_told_41 : decode bA_told 41 = .ok (.aload_n 0, 1) := by decide +kernel
set_option maxRecDepth 100000 in
theorem dA_told_42 : decode bA_told 42 = .ok (.iload_n 1, 1) := by decide +kernel
set_option maxRecDepth 100000 in
theorem dA_told_43 : decode bA_told 43 = .ok (.putfield 80, 3) := by decide +kernel
set_option maxRecDepth 100000 in
theorem dA_told_46 : decode bA_told 46 = .ok (.aload_n 0, 1) := by decide +kernel
set_option maxRecDepth 100000 in
theorem dA_told_47 : decode bA_told 47 = .ok (.getfield 36, 3) := by decide +kernel
set_option maxRecDepth 100000 in
theorem dA_told_50 : decode bA_told 50 = .ok (.getfield 214, 3) := by decide +kernel
set_option maxRecDepth 100000 in
theorem dA_told_53 : decode bA_told 53 = .ok (.ireturn, 1) := by decide +kernel
def fA_told_26 (σ : xS) (a1 : Int32) (t0 : Int32) : Option (Int32 × xS) :=
  xb (fA_misuseOfPlainStep σ t0) fun r8 s9 =>
  if r8 = 0 then
  (xl (x_si s9 0 0 12 2) fun s11 =>
  xl (x_si s11 0 0 13 a1) fun s12 =>
  some (s12.1 18 16 2, s12))
  else
  (some (r8, s9))
def fA_told (σ : xS) (a1 : Int32) : Option (Int32 × xS) :=
  if (fA_isStandIn σ a1) = 0 then
  (some ((-1), σ))
  else
  (if (σ.1 18 16 2) = 0 then
  (fA_told_26 σ a1 1)
  else
  (fA_told_26 σ a1 0))
set_option maxHeartbeats 4000000 in
set_option maxRecDepth 100000 in
theorem wA_told_26 {p : Program} {l : Launch} {e : Env} {R : Room} {s : State} {m : MethodId} {args : Array Value} {below : List Frame} {meth : Method} {c : Code} {E : xE} {A : Nat → Prop} {τ : yS} (C : xC p s m args meth c R E A bA_told 3 yA_told (some .int) 5 0 0) (σ : xS) (a1 : Int32) (t0 : Int32) (res : Int32 × xS) (hf : fA_told_26 σ a1 t0 = some res) (H : Heap) (locs : List Loc) (ls : Array Slot) (hw : xW E A s σ τ H locs) (hl : lv_has ls 3 [(0, .ref (E.2.2.1 0 0)), (1, .int a1)]) : W p l e R s m args below meth c H locs 0 0 (MQ below (xQ E A (some (.int res.1)) res.2 τ) args s 0 0 A) (F0 m 26 ls [.int t0, .ref (E.2.2.1 0 0)]) := by
  have hx := C.1
  have hb := C.2.1
  unfold fA_told_26 at hf
  obtain ⟨r8, s9, h7, hf⟩ := x_b hf
  refine x_callV (As := [.int t0]) (rest := []) (st1 := [.int r8]) C hw (cA_misuseOfPlainStep l E σ τ t0 (r8, s9) h7) kA_101 (x_recv C hw 0 0 at_0 rfl rfl) (by decide) rfl rfl hl.1 (lv_room (Nat.le_of_ble_eq_true rfl)) dA_told_26 ⟨by decide, by decide⟩ rfl (fun H locs hw => ?_)
  refine lv_istore_n (lv' := [(2, .int r8), (0, .ref (E.2.2.1 0 0)), (1, .int a1)]) hx hb dA_told_29 rfl hl (by decide) rfl (fun ls hl => ?_)
  refine lv_iload_n hx hb dA_told_30 rfl (lv_at hl 0 rfl) ?_
  refine lv_if_eq (tgt := 36) hx hb dA_told_31 (by decide) (fun c10 => ?_) (fun c10 => ?_)
  · replace hf := x_ip c10 hf
    refine lv_aload_n hx hb dA_told_36 rfl (lv_at hl 1 rfl) ?_
    refine lv_iconst (v := 2) hx hb dA_told_37 (by decide) ?_
    refine x_puti C hw 0 0 12 at_0 rfl rfl rfl ⟨rfl, rfl⟩ ⟨by decide, by decide⟩ (Nat.le_of_ble_eq_true rfl) wA_77 dA_told_38 (fun H locs hw => ?_)
    obtain ⟨s11, es11, hf⟩ := x_l hf
    rw [← es11] at hw
    refine lv_aload_n hx hb dA_told_41 rfl (lv_at hl 1 rfl) ?_
    refine lv_iload_n hx hb dA_told_42 rfl (lv_at hl 2 rfl) ?_
    refine x_puti C hw 0 0 13 at_0 rfl rfl rfl ⟨rfl, rfl⟩ ⟨by decide, by decide⟩ (Nat.le_of_ble_eq_true rfl) wA_80 dA_told_43 (fun H locs hw => ?_)
    obtain ⟨s12, es12, hf⟩ := x_l hf
    rw [← es12] at hw
    refine lv_aload_n hx hb dA_told_46 rfl (lv_at hl 1 rfl) ?_
    refine x_get C hw 0 0 5 (v := .ref (E.2.2.1 18 16)) at_0 rfl rfl ⟨by decide, by decide⟩ wA_36 rfl dA_told_47 ?_
    refine x_getN C hw 18 16 2 (v := .int (s12.1 18 16 2)) (at_18 (by decide)) rfl rfl ⟨by decide, by decide⟩ wA_214 rfl dA_told_50 ?_
    obtain rfl := Option.some.inj hf
    exact x_iret C hw dA_told_53
  · replace hf := x_in c10 hf
    refine lv_iload_n hx hb dA_told_34 rfl (lv_at hl 0 rfl) ?_
    obtain rfl := Option.some.inj hf
    exact x_iret C hw dA_told_35
set_option maxHeartbeats 4000000 in
set_option maxRecDepth 100000 in
theorem cA_told (l : Launch) (E : xE) (σ : xS) (τ : yS) (a1 : Int32) (res : Int32 × xS) (hf : fA_told σ a1 = some res) : xM l E yA_told bA_told 3 (some .int) 5 0 0 [.ref (E.2.2.1 0 0), .int a1] σ τ (some (.int res.1)) res.2 τ := by
  refine x_met (by decide) (Nat.le_of_ble_eq_true rfl) (fun p e R s m args below meth c A ls H locs C hw hl => ?_)
  have hl : lv_has ls 3 [(0, .ref (E.2.2.1 0 0)), (1, .int a1)] := hl
  have hx := C.1
  have hb := C.2.1
  unfold fA_told at hf
  refine lv_aload_n hx hb dA_told_0 rfl (lv_at hl 0 rfl) ?_
  refine lv_iload_n hx hb dA_told_1 rfl (lv_at hl 1 rfl) ?_
  refine x_callV (As := [.int a1]) (rest := []) (st1 := [.int (fA_isStandIn σ a1)]) C hw (cA_isStandIn l E σ τ a1) kA_150 (x_recv C hw 0 0 at_0 rfl rfl) (by decide) rfl rfl hl.1 (lv_room (Nat.le_of_ble_eq_true rfl)) dA_told_2 ⟨by decide, by decide⟩ rfl (fun H locs hw => ?_)
  refine lv_if_ne (tgt := 10) hx hb dA_told_5 (by decide) (fun c14 => ?_) (fun c14 => ?_)
  · replace hf := x_in c14 hf
    refine lv_aload_n hx hb dA_told_10 rfl (lv_at hl 0 rfl) ?_
    refine lv_aload_n hx hb dA_told_11 rfl (lv_at hl 0 rfl) ?_
    refine x_get C hw 0 0 5 (v := .ref (E.2.2.1 18 16)) at_0 rfl rfl ⟨by decide, by decide⟩ wA_36 rfl dA_told_12 ?_
    refine x_getN C hw 18 16 2 (v := .int (σ.1 18 16 2)) (at_18 (by decide)) rfl rfl ⟨by decide, by decide⟩ wA_214 rfl dA_told_15 ?_
    refine lv_if_ne (tgt := 25) hx hb dA_told_18 (by decide) (fun c15 => ?_) (fun c15 => ?_)
    · replace hf := x_in c15 hf
      refine lv_iconst (v := 0) hx hb dA_told_25 (by decide) ?_
      exact wA_told_26 C σ a1 0 res hf H locs ls hw (lv_sub hl [0, 1] rfl)
    · replace hf := x_ip c15 hf
      refine lv_iconst (v := 1) hx hb dA_told_21 (by decide) ?_
      refine lv_goto (tgt := 26) hx hb dA_told_22 (by decide) ?_
      exact wA_told_26 C σ a1 1 res hf H locs ls hw (lv_sub hl [0, 1] rfl)
  · replace hf := x_ip c14 hf
    refine lv_iconst (v := (-1)) hx hb dA_told_8 (by decide) ?_
    obtain rfl := Option.some.inj hf
    exact x_iret C hw dA_told_9
-- StandIns check (III)I
set_option maxRecDepth 100000 in
theorem dA_check_0 : decode bA_check 0 = .ok (.iload_n 2, 1) := by decide +kernel
set_option maxRecDepth 100000 in
theorem dA_check_1 : decode bA_check 1 = .ok (.iconst 4, 1) := by decide +kernel
set_option maxRecDepth 100000 in
theorem dA_check_2 : decode bA_check 2 = .ok (.if_icmp .ne 7, 3) := by decide +kernel
set_option maxRecDepth 100000 in
theorem dA_check_5 : decode bA_check 5 = .ok (.iconst 1, 1) := by decide +kernel
set_option maxRecDepth 100000 in
theorem dA_check_6 : decode bA_check 6 = .ok (.goto 4, 3) := by decide +kernel
set_option maxRecDepth 100000 in
theorem dA_check_9 : decode bA_check 9 = .ok (.iconst 0, 1) := by decide +kernel
set_option maxRecDepth 100000 in
theorem dA_check_10 : decode bA_check 10 = .ok (.istore 4, 2) := by decide +kernel
set_option maxRecDepth 100000 in
theorem dA_check_12 : decode bA_check 12 = .ok (.aload_n 0, 1) := by decide +kernel
set_option maxRecDepth 100000 in
theorem dA_check_13 : decode bA_check 13 = .ok (.iload_n 1, 1) := by decide +kernel
set_option maxRecDepth 100000 in
theorem dA_check_14 : decode bA_check 14 = .ok (.invokevirtual 150, 3) := by decide +kernel
set_option maxRecDepth 100000 in
theorem dA_check_17 : decode bA_check 17 = .ok (.ifCond .eq 24, 3) := by decide +kernel
set_option maxRecDepth 100000 in
theorem dA_check_20 : decode bA_check 20 = .ok (.iload_n 2, 1) := by decide +kernel
set_option maxRecDepth 100000 in
theorem dA_check_21 : decode bA_check 21 = .ok (.ifCond .lt 20, 3) := by decide +kernel
set_option maxRecDepth 100000 in
theorem dA_check_24 : decode bA_check 24 = .ok (.iload_n 2, 1) := by decide +kernel
set_option maxRecDepth 100000 in
theorem dA_check_25 : decode bA_check 25 = .ok (.iconst 4, 1) := by decide +kernel
set_option maxRecDepth 100000 in
theorem dA_check_26 : decode bA_check 26 = .ok (.if_icmp .gt 15, 3) := by decide +kernel
set_option maxRecDepth 100000 in
theorem dA_check_29 : decode bA_check 29 = .ok (.iload_n 3, 1) := by decide +kernel
set_option maxRecDepth 100000 in
theorem dA_check_30 : decode bA_check 30 = .ok (.iload 4, 2) := by decide +kernel
set_option maxRecDepth 100000 in
theorem dA_check_32 : decode bA_check 32 = .ok (.if_icmp .lt 9, 3) := by decide +kernel
set_option maxRecDepth 100000 in
theorem dA_check_35 : decode bA_check 35 = .ok (.iload_n 3, 1) := by decide +kernel
set_option maxRecDepth 100000 in
theorem dA_check_36 : decode bA_check 36 = .ok (.bipush 40, 2) := by decide +kernel
set_option maxRecDepth 100000 in
theorem dA_check_38 : decode bA_check 38 = .ok (.if_icmp .le 5, 3) := by decide +kernel
set_option maxRecDepth 100000 in
theorem dA_check_41 : decode bA_check 41 = .ok (.iconst (-1), 1) := by decide +kernel
set_option maxRecDepth 100000 in
theorem dA_check_42 : decode bA_check 42 = .ok (.ireturn, 1) := by decide +kernel
set_option maxRecDepth 100000 in
theorem dA_check_43 : decode bA_check 43 = .ok (.aload_n 0, 1) := by decide +kernel
set_option maxRecDepth 100000 in
theorem dA_check_44 : decode bA_check 44 = .ok (.iconst 0, 1) := by decide +kernel
set_option maxRecDepth 100000 in
theorem dA_check_45 : decode bA_check 45 = .ok (.invokevirtual 101, 3) := by decide +kernel
set_option maxRecDepth 100000 in
theorem dA_check_48 : decode bA_check 48 = .ok (.istore 5, 2) := by decide +kernel
set_option maxRecDepth 100000 in
theorem dA_check_50 : decode bA_check 50 = .ok (.iload 5, 2) := by decide +kernel
set_option maxRecDepth 100000 in
theorem dA_check_52 : decode bA_check 52 = .ok (.ifCond .eq 6, 3) := by decide +kernel
set_option maxRecDepth 100000 in
theorem dA_check_55 : decode bA_check 55 = .ok (.iload 5, 2) := by decide +kernel
set_option maxRecDepth 100000 in
theorem dA_check_57 : decode bA_check 57 = .ok (.ireturn, 1) := by decide +kernel
set_option maxRecDepth 100000 in
theorem dA_check_58 : decode bA_check 58 = .ok (.aload_n 0, 1) := by decide +kernel
set_option maxRecDepth 100000 in
theorem dA_check_59 : decode bA_check 59 = .ok (.iconst 3, 1) := by decide +kernel
set_option maxRecDepth 100000 in
theorem dA_check_60 : decode bA_check 60 = .ok (.putfield 77, 3) := by decide +kernel
set_option maxRecDepth 100000 in
theorem dA_check_63 : decode bA_check 63 = .ok (.aload_n 0, 1) := by decide +kernel
set_option maxRecDepth 100000 in
theorem dA_check_64 : decode bA_check 64 = .ok (.iload_n 1, 1) := by decide +kernel
set_option maxRecDepth 100000 in
theorem dA_check_65 : decode bA_check 65 = .ok (.putfield 80, 3) := by decide +kernel
set_option maxRecDepth 100000 in
theorem dA_check_68 : decode bA_check 68 = .ok (.aload_n 0, 1) := by decide +kernel
set_option maxRecDepth 100000 in
theorem dA_check_69 : decode bA_check 69 = .ok (.iload_n 2, 1) := by decide +kernel
set_option maxRecDepth 100000 in
theorem dA_check_70 : decode bA_check 70 = .ok (.putfield 83, 3) := by decide +kernel
set_option maxRecDepth 100000 in
theorem dA_check_73 : decode bA_check 73 = .ok (.aload_n 0, 1) := by decide +kernel
set_option maxRecDepth 100000 in
theorem dA_check_74 : decode bA_check 74 = .ok (.iload_n 3, 1) := by decide +kernel
set_option maxRecDepth 100000 in
theorem dA_check_75 : decode bA_check 75 = .ok (.putfield 86, 3) := by decide +kernel
set_option maxRecDepth 100000 in
theorem dA_check_78 : decode bA_check 78 = .ok (.iconst 1, 1) := by decide +kernel
set_option maxRecDepth 100000 in
theorem dA_check_79 : decode bA_check 79 = .ok (.ireturn, 1) := by decide +kernel
def fA_check_10 (σ : xS) (a1 : Int32) (a2 : Int32) (a3 : Int32) (t0 : Int32) : Option (Int32 × xS) :=
  if (fA_isStandIn σ a1) = 0 then
  (some ((-1), σ))
  else
  (if a2 < 0 then
  (some ((-1), σ))
  else
  (if 4 < a2 then
  (some ((-1), σ))
  else
  (if a3 < t0 then
  (some ((-1), σ))
  else
  (if a3 ≤ 40 then
  (xb (fA_misuseOfPlainStep σ 0) fun r22 s23 =>
  if r22 = 0 then
  (xl (x_si s23 0 0 12 3) fun s25 =>
  xl (x_si s25 0 0 13 a1) fun s26 =>
  xl (x_si s26 0 0 14 a2) fun s27 =>
  xl (x_si s27 0 0 15 a3) fun s28 =>
  some (1, s28))
  else
  (some (r22, s23)))
  else
  (some ((-1), σ))))))
def fA_check (σ : xS) (a1 : Int32) (a2 : Int32) (a3 : Int32) : Option (Int32 × xS) :=
  if a2 = 4 then
  (fA_check_10 σ a1 a2 a3 1)
  else
  (fA_check_10 σ a1 a2 a3 0)
set_option maxHeartbeats 4000000 in
set_option maxRecDepth 100000 in
theorem wA_check_10 {p : Program} {l : Launch} {e : Env} {R : Room} {s : State} {m : MethodId} {args : Array Value} {below : List Frame} {meth : Method} {c : Code} {E : xE} {A : Nat → Prop} {τ : yS} (C : xC p s m args meth c R E A bA_check 6 yA_check (some .int) 5 0 0) (σ : xS) (a1 : Int32) (a2 : Int32) (a3 : Int32) (t0 : Int32) (res : Int32 × xS) (hf : fA_check_10 σ a1 a2 a3 t0 = some res) (H : Heap) (locs : List Loc) (ls : Array Slot) (hw : xW E A s σ τ H locs) (hl : lv_has ls 6 [(0, .ref (E.2.2.1 0 0)), (1, .int a1), (2, .int a2), (3, .int a3)]) : W p l e R s m args below meth c H locs 0 0 (MQ below (xQ E A (some (.int res.1)) res.2 τ) args s 0 0 A) (F0 m 10 ls [.int t0]) := by
  have hx := C.1
  have hb := C.2.1
  unfold fA_check_10 at hf
  refine lv_istore (lv' := [(4, .int t0), (0, .ref (E.2.2.1 0 0)), (1, .int a1), (2, .int a2), (3, .int a3)]) hx hb dA_check_10 hl (by decide) rfl (fun ls hl => ?_)
  refine lv_aload_n hx hb dA_check_12 rfl (lv_at hl 1 rfl) ?_
  refine lv_iload_n hx hb dA_check_13 rfl (lv_at hl 2 rfl) ?_
  refine x_callV (As := [.int a1]) (rest := []) (st1 := [.int (fA_isStandIn σ a1)]) C hw (cA_isStandIn l E σ τ a1) kA_150 (x_recv C hw 0 0 at_0 rfl rfl) (by decide) rfl rfl hl.1 (lv_room (Nat.le_of_ble_eq_true rfl)) dA_check_14 ⟨by decide, by decide⟩ rfl (fun H locs hw => ?_)
  refine lv_if_eq (tgt := 41) hx hb dA_check_17 (by decide) (fun c16 => ?_) (fun c16 => ?_)
  · replace hf := x_ip c16 hf
    refine lv_iconst (v := (-1)) hx hb dA_check_41 (by decide) ?_
    obtain rfl := Option.some.inj hf
    exact x_iret C hw dA_check_42
  · replace hf := x_in c16 hf
    refine lv_iload_n hx hb dA_check_20 rfl (lv_at hl 3 rfl) ?_
    refine lv_if_lt (tgt := 41) hx hb dA_check_21 (by decide) (fun c17 => ?_) (fun c17 => ?_)
    · replace hf := x_ip c17 hf
      refine lv_iconst (v := (-1)) hx hb dA_check_41 (by decide) ?_
      obtain rfl := Option.some.inj hf
      exact x_iret C hw dA_check_42
    · replace hf := x_in c17 hf
      refine lv_iload_n hx hb dA_check_24 rfl (lv_at hl 3 rfl) ?_
      refine lv_iconst (v := 4) hx hb dA_check_25 (by decide) ?_
      refine lv_icmp_gt (tgt := 41) hx hb dA_check_26 (by decide) (fun c18 => ?_) (fun c18 => ?_)
      · replace hf := x_ip c18 hf
        refine lv_iconst (v := (-1)) hx hb dA_check_41 (by decide) ?_
        obtain rfl := Option.some.inj hf
        exact x_iret C hw dA_check_42
      · replace hf := x_in c18 hf
        refine lv_iload_n hx hb dA_check_29 rfl (lv_at hl 4 rfl) ?_
        refine lv_iload hx hb dA_check_30 (lv_at hl 0 rfl) ?_
        refine lv_icmp_lt (tgt := 41) hx hb dA_check_32 (by decide) (fun c19 => ?_) (fun c19 => ?_)
        · replace hf := x_ip c19 hf
          refine lv_iconst (v := (-1)) hx hb dA_check_41 (by decide) ?_
          obtain rfl := Option.some.inj hf
          exact x_iret C hw dA_check_42
        · replace hf := x_in c19 hf
          refine lv_iload_n hx hb dA_check_35 rfl (lv_at hl 4 rfl) ?_
          refine lv_bipush (v := 40) hx hb dA_check_36 (by decide) ?_
          refine lv_icmp_le (tgt := 43) hx hb dA_check_38 (by decide) (fun c20 => ?_) (fun c20 => ?_)
          · replace hf := x_ip c20 hf
            refine lv_aload_n hx hb dA_check_43 rfl (lv_at hl 1 rfl) ?_
            refine lv_iconst (v := 0) hx hb dA_check_44 (by decide) ?_
            obtain ⟨r22, s23, h21, hf⟩ := x_b hf
            refine x_callV (As := [.int 0]) (rest := []) (st1 := [.int r22]) C hw (cA_misuseOfPlainStep l E σ τ 0 (r22, s23) h21) kA_101 (x_recv C hw 0 0 at_0 rfl rfl) (by decide) rfl rfl hl.1 (lv_room (Nat.le_of_ble_eq_true rfl)) dA_check_45 ⟨by decide, by decide⟩ rfl (fun H locs hw => ?_)
            refine lv_istore (lv' := [(5, .int r22), (4, .int t0), (0, .ref (E.2.2.1 0 0)), (1, .int a1), (2, .int a2), (3, .int a3)]) hx hb dA_check_48 hl (by decide) rfl (fun ls hl => ?_)
            refine lv_iload hx hb dA_check_50 (lv_at hl 0 rfl) ?_
            refine lv_if_eq (tgt := 58) hx hb dA_check_52 (by decide) (fun c24 => ?_) (fun c24 => ?_)
            · replace hf := x_ip c24 hf
              refine lv_aload_n hx hb dA_check_58 rfl (lv_at hl 2 rfl) ?_
              refine lv_iconst (v := 3) hx hb dA_check_59 (by decide) ?_
              refine x_puti C hw 0 0 12 at_0 rfl rfl rfl ⟨rfl, rfl⟩ ⟨by decide, by decide⟩ (Nat.le_of_ble_eq_true rfl) wA_77 dA_check_60 (fun H locs hw => ?_)
              obtain ⟨s25, es25, hf⟩ := x_l hf
              rw [← es25] at hw
              refine lv_aload_n hx hb dA_check_63 rfl (lv_at hl 2 rfl) ?_
              refine lv_iload_n hx hb dA_check_64 rfl (lv_at hl 3 rfl) ?_
              refine x_puti C hw 0 0 13 at_0 rfl rfl rfl ⟨rfl, rfl⟩ ⟨by decide, by decide⟩ (Nat.le_of_ble_eq_true rfl) wA_80 dA_check_65 (fun H locs hw => ?_)
              obtain ⟨s26, es26, hf⟩ := x_l hf
              rw [← es26] at hw
              refine lv_aload_n hx hb dA_check_68 rfl (lv_at hl 2 rfl) ?_
              refine lv_iload_n hx hb dA_check_69 rfl (lv_at hl 4 rfl) ?_
              refine x_puti C hw 0 0 14 at_0 rfl rfl rfl ⟨rfl, rfl⟩ ⟨by decide, by decide⟩ (Nat.le_of_ble_eq_true rfl) wA_83 dA_check_70 (fun H locs hw => ?_)
              obtain ⟨s27, es27, hf⟩ := x_l hf
              rw [← es27] at hw
              refine lv_aload_n hx hb dA_check_73 rfl (lv_at hl 2 rfl) ?_
              refine lv_iload_n hx hb dA_check_74 rfl (lv_at hl 5 rfl) ?_
              refine x_puti C hw 0 0 15 at_0 rfl rfl rfl ⟨rfl, rfl⟩ ⟨by decide, by decide⟩ (Nat.le_of_ble_eq_true rfl) wA_86 dA_check_75 (fun H locs hw => ?_)
              obtain ⟨s28, es28, hf⟩ := x_l hf
              rw [← es28] at hw
              refine lv_iconst (v := 1) hx hb dA_check_78 (by decide) ?_
              obtain rfl := Option.some.inj hf
              exact x_iret C hw dA_check_79
            · replace hf := x_in c24 hf
              refine lv_iload hx hb dA_check_55 (lv_at hl 0 rfl) ?_
              obtain rfl := Option.some.inj hf
              exact x_iret C hw dA_check_57
          · replace hf := x_in c20 hf
            refine lv_iconst (v := (-1)) hx hb dA_check_41 (by decide) ?_
            obtain rfl := Option.some.inj hf
            exact x_iret C hw dA_check_42
set_option maxHeartbeats 4000000 in
set_option maxRecDepth 100000 in
theorem cA_check (l : Launch) (E : xE) (σ : xS) (τ : yS) (a1 : Int32) (a2 : Int32) (a3 : Int32) (res : Int32 × xS) (hf : fA_check σ a1 a2 a3 = some res) : xM l E yA_check bA_check 6 (some .int) 5 0 0 [.ref (E.2.2.1 0 0), .int a1, .int a2, .int a3] σ τ (some (.int res.1)) res.2 τ := by
  refine x_met (by decide) (Nat.le_of_ble_eq_true rfl) (fun p e R s m args below meth c A ls H locs C hw hl => ?_)
  have hl : lv_has ls 6 [(0, .ref (E.2.2.1 0 0)), (1, .int a1), (2, .int a2), (3, .int a3)] := hl
  have hx := C.1
  have hb := C.2.1
  unfold fA_check at hf
  refine lv_iload_n hx hb dA_check_0 rfl (lv_at hl 2 rfl) ?_
  refine lv_iconst (v := 4) hx hb dA_check_1 (by decide) ?_
  refine lv_icmp_ne (tgt := 9) hx hb dA_check_2 (by decide) (fun c29 => ?_) (fun c29 => ?_)
  · replace hf := x_in c29 hf
    refine lv_iconst (v := 0) hx hb dA_check_9 (by decide) ?_
    exact wA_check_10 C σ a1 a2 a3 0 res hf H locs ls hw (lv_sub hl [0, 1, 2, 3] rfl)
  · replace hf := x_ip c29 hf
    refine lv_iconst (v := 1) hx hb dA_check_5 (by decide) ?_
    refine lv_goto (tgt := 10) hx hb dA_check_6 (by decide) ?_
    exact wA_check_10 C σ a1 a2 a3 1 res hf H locs ls hw (lv_sub hl [0, 1, 2, 3] rfl)
end
section
-- StandIns$Notebook firstUnseenOf (I)I
set_option maxRecDepth 100000 in
theorem dB_firstUnseenOf_0 : decode bB_firstUnseenOf 0 = .ok (.iconst 0, 1) := by decide +kernel
set_option maxRecDepth 100000 in
theorem dB_firstUnseenOf_1 : decode bB_firstUnseenOf 1 = .ok (.istore_n 2, 1) := by decide +kernel
set_option maxRecDepth 100000 in
theorem dB_firstUnseenOf_2 : decode bB_firstUnseenOf 2 = .ok (.iload_n 2, 1) := by decide +kernel
set_option maxRecDepth 100000 in
theorem dB_firstUnseenOf_3 : decode bB_firstUnseenOf 3 = .ok (.aload_n 0, 1) := by decide +kernel
set_option maxRecDepth 100000 in
theorem dB_firstUnseenOf_4 : decode bB_firstUnseenOf 4 = .ok (.getfield 17, 3) := by decide +kernel
set_option maxRecDepth 100000 in
theorem dB_firstUnseenOf_7 : decode bB_firstUnseenOf 7 = .ok (.if_icmp .ge 44, 3) := by decide +kernel
set_option maxRecDepth 100000 in
theorem dB_firstUnseenOf_10 : decode bB_firstUnseenOf 10 = .ok (.aload_n 0, 1) := by decide +kernel
set_option maxRecDepth 100000 in
theorem dB_firstUnseenOf_11 : decode bB_firstUnseenOf 11 = .ok (.getfield 11, 3) := by decide +kernel
set_option maxRecDepth 100000 in
theorem dB_firstUnseenOf_14 : decode bB_firstUnseenOf 14 = .ok (.iload_n 2, 1) := by decide +kernel
set_option maxRecDepth 100000 in
theorem dB_firstUnseenOf_15 : decode bB_firstUnseenOf 15 = .ok (.aaload, 1) := by decide +kernel
set_option maxRecDepth 100000 in
theorem dB_firstUnseenOf_16 : decode bB_firstUnseenOf 16 = .ok (.getfield 33, 3) := by decide +kernel
set_option maxRecDepth 100000 in
theorem dB_firstUnseenOf_19 : decode bB_firstUnseenOf 19 = .ok (.iload_n 1, 1) := by decide +kernel
set_option maxRecDepth 100000 in
theorem dB_firstUnseenOf_20 : decode bB_firstUnseenOf 20 = .ok (.if_icmp .ne 25, 3) := by decide +kernel
set_option maxRecDepth 100000 in
theorem dB_firstUnseenOf_23 : decode bB_firstUnseenOf 23 = .ok (.aload_n 0, 1) := by decide +kernel
set_option maxRecDepth 100000 in
theorem dB_firstUnseenOf_24 : decode bB_firstUnseenOf 24 = .ok (.getfield 11, 3) := by decide +kernel
set_option maxRecDepth 100000 in
theorem dB_firstUnseenOf_27 : decode bB_firstUnseenOf 27 = .ok (.iload_n 2, 1) := by decide +kernel
set_option maxRecDepth 100000 in
theorem dB_firstUnseenOf_28 : decode bB_firstUnseenOf 28 = .ok (.aaload, 1) := by decide +kernel
set_option maxRecDepth 100000 in
theorem dB_firstUnseenOf_29 : decode bB_firstUnseenOf 29 = .ok (.getfield 44, 3) := by decide +kernel
set_option maxRecDepth 100000 in
theorem dB_firstUnseenOf_32 : decode bB_firstUnseenOf 32 = .ok (.ifCond .ne 13, 3) := by decide +kernel
set_option maxRecDepth 100000 in
theorem dB_firstUnseenOf_35 : decode bB_firstUnseenOf 35 = .ok (.aload_n 0, 1) := by decide +kernel
set_option maxRecDepth 100000 in
theorem dB_firstUnseenOf_36 : decode bB_firstUnseenOf 36 = .ok (.getfield 11, 3) := by decide +kernel
set_option maxRecDepth 100000 in
theorem dB_firstUnseenOf_39 : decode bB_firstUnseenOf 39 = .ok (.iload_n 2, 1) := by decide +kernel
set_option maxRecDepth 100000 in
theorem dB_firstUnseenOf_40 : decode bB_firstUnseenOf 40 = .ok (.aaload, 1) := by decide +kernel
set_option maxRecDepth 100000 in
theorem dB_firstUnseenOf_41 : decode bB_firstUnseenOf 41 = .ok (.getfield 25, 3) := by decide +kernel
set_option maxRecDepth 100000 in
theorem dB_firstUnseenOf_44 : decode bB_firstUnseenOf 44 = .ok (.ireturn, 1) := by decide +kernel
set_option maxRecDepth 100000 in
theorem dB_firstUnseenOf_45 : decode bB_firstUnseenOf 45 = .ok (.iinc 2 1, 3) := by decide +kernel
set_option maxRecDepth 100000 in
theorem dB_firstUnseenOf_48 : decode bB_firstUnseenOf 48 = .ok (.goto (-46), 3) := by decide +kernel
set_option maxRecDepth 100000 in
theorem dB_firstUnseenOf_51 : decode bB_firstUnseenOf 51 = .ok (.bipush (-6), 2) := by decide +kernel
set_option maxRecDepth 100000 in
theorem dB_firstUnseenOf_53 : decode bB_firstUnseenOf 53 = .ok (.ireturn, 1) := by decide +kernel
def fB_firstUnseenOf_45 (N : Nat) (rec2 : Int32 → Int32 → Option (Int32)) (σ : xS) (a1 : Int32) (a2 : Int32) : Option (Int32) :=
  rec2 a1 (a2 + 1)
def fB_firstUnseenOf_2b (N : Nat) (rec2 : Int32 → Int32 → Option (Int32)) (σ : xS) (a1 : Int32) (a2 : Int32) : Option (Int32) :=
  if (σ.1 6 0 1) ≤ a2 then
  (some (-6))
  else
  (if ¬ (a2 < 0 ∨ 40 ≤ a2.toNatClampNeg) then
  if (σ.1 15 a2.toNatClampNeg 1) = a1 then
  (if (σ.1 15 a2.toNatClampNeg 5) = 0 then
  (some (σ.1 15 a2.toNatClampNeg 0))
  else
  (fB_firstUnseenOf_45 N rec2 σ a1 a2))
  else
  (fB_firstUnseenOf_45 N rec2 σ a1 a2)
  else none)
def fB_firstUnseenOf_2 (N : Nat) (σ : xS) : Nat → Int32 → Int32 → Option (Int32)
  | 0, _, _ => none
  | n + 1, a1, a2 => fB_firstUnseenOf_2b N (fB_firstUnseenOf_2 N σ n) σ a1 a2
def fB_firstUnseenOf (N : Nat) (σ : xS) (a1 : Int32) : Option (Int32) :=
  fB_firstUnseenOf_2 N σ N a1 0
set_option maxHeartbeats 4000000 in
set_option maxRecDepth 100000 in
theorem wB_firstUnseenOf_45 {p : Program} {l : Launch} {e : Env} {R : Room} {s : State} {m : MethodId} {args : Array Value} {below : List Frame} {meth : Method} {c : Code} {E : xE} {A : Nat → Prop} {τ : yS} (C : xC p s m args meth c R E A bB_firstUnseenOf 3 yB_firstUnseenOf (some .int) 0 0 0) (N : Nat) (σ : xS) (rec2 : Int32 → Int32 → Option (Int32)) (hrec2 : ∀ (a1 : Int32) (a2 : Int32) (res : Int32), rec2 a1 a2 = some res → ∀ (H : Heap) (locs : List Loc) (ls : Array Slot), xW E A s σ τ H locs → lv_has ls 3 [(0, .ref (E.2.2.1 6 0)), (1, .int a1), (2, .int a2)] → W p l e R s m args below meth c H locs 0 0 (MQ below (xQ E A (some (.int res)) σ τ) args s 0 0 A) (F0 m 2 ls [])) (a1 : Int32) (a2 : Int32) (res : Int32) (hf : fB_firstUnseenOf_45 N rec2 σ a1 a2 = some res) (H : Heap) (locs : List Loc) (ls : Array Slot) (hw : xW E A s σ τ H locs) (hl : lv_has ls 3 [(0, .ref (E.2.2.1 6 0)), (1, .int a1), (2, .int a2)]) : W p l e R s m args below meth c H locs 0 0 (MQ below (xQ E A (some (.int res)) σ τ) args s 0 0 A) (F0 m 45 ls []) := by
  have hx := C.1
  have hb := C.2.1
  unfold fB_firstUnseenOf_45 at hf
  refine lv_iinc (v := a2 + 1) (lv' := [(2, .int (a2 + 1)), (0, .ref (E.2.2.1 6 0)), (1, .int a1)]) hx hb dB_firstUnseenOf_45 hl (k := 2) rfl rfl (by decide) rfl (fun ls hl => ?_)
  refine lv_goto (tgt := 2) hx hb dB_firstUnseenOf_48 (by decide) ?_
  exact hrec2 a1 (a2 + 1) res hf H locs ls hw (lv_sub hl [1, 2, 0] rfl)
set_option maxHeartbeats 4000000 in
set_option maxRecDepth 100000 in
theorem wB_firstUnseenOf_2b {p : Program} {l : Launch} {e : Env} {R : Room} {s : State} {m : MethodId} {args : Array Value} {below : List Frame} {meth : Method} {c : Code} {E : xE} {A : Nat → Prop} {τ : yS} (C : xC p s m args meth c R E A bB_firstUnseenOf 3 yB_firstUnseenOf (some .int) 0 0 0) (N : Nat) (σ : xS) (rec2 : Int32 → Int32 → Option (Int32)) (hrec2 : ∀ (a1 : Int32) (a2 : Int32) (res : Int32), rec2 a1 a2 = some res → ∀ (H : Heap) (locs : List Loc) (ls : Array Slot), xW E A s σ τ H locs → lv_has ls 3 [(0, .ref (E.2.2.1 6 0)), (1, .int a1), (2, .int a2)] → W p l e R s m args below meth c H locs 0 0 (MQ below (xQ E A (some (.int res)) σ τ) args s 0 0 A) (F0 m 2 ls [])) (a1 : Int32) (a2 : Int32) (res : Int32) (hf : fB_firstUnseenOf_2b N rec2 σ a1 a2 = some res) (H : Heap) (locs : List Loc) (ls : Array Slot) (hw : xW E A s σ τ H locs) (hl : lv_has ls 3 [(0, .ref (E.2.2.1 6 0)), (1, .int a1), (2, .int a2)]) : W p l e R s m args below meth c H locs 0 0 (MQ below (xQ E A (some (.int res)) σ τ) args s 0 0 A) (F0 m 2 ls []) := by
  have hx := C.1
  have hb := C.2.1
  unfold fB_firstUnseenOf_2b at hf
  refine lv_iload_n hx hb dB_firstUnseenOf_2 rfl (lv_at hl 2 rfl) ?_
  refine lv_aload_n hx hb dB_firstUnseenOf_3 rfl (lv_at hl 0 rfl) ?_
  refine x_get C hw 6 0 1 (v := .int (σ.1 6 0 1)) at_6 rfl rfl ⟨by decide, by decide⟩ wB_17 rfl dB_firstUnseenOf_4 ?_
  refine lv_icmp_ge (tgt := 51) hx hb dB_firstUnseenOf_7 (by decide) (fun c6 => ?_) (fun c6 => ?_)
  · replace hf := x_ip c6 hf
    refine lv_bipush (v := (-6)) hx hb dB_firstUnseenOf_51 (by decide) ?_
    obtain rfl := Option.some.inj hf
    exact x_iret C hw dB_firstUnseenOf_53
  · replace hf := x_in c6 hf
    refine lv_aload_n hx hb dB_firstUnseenOf_10 rfl (lv_at hl 0 rfl) ?_
    refine x_get C hw 6 0 0 (v := .ref (E.2.2.1 7 0)) at_6 rfl rfl ⟨by decide, by decide⟩ wB_11 rfl dB_firstUnseenOf_11 ?_
    refine lv_iload_n hx hb dB_firstUnseenOf_14 rfl (lv_at hl 2 rfl) ?_
    obtain ⟨g7, hf⟩ := x_g hf
    refine x_ald7 C hw g7 dB_firstUnseenOf_15 ?_
    have g8 := x_lt g7
    refine x_getN C hw 15 a2.toNatClampNeg 1 (v := .int (σ.1 15 a2.toNatClampNeg 1)) (at_15 g8) rfl rfl ⟨by decide, by decide⟩ wB_33 rfl dB_firstUnseenOf_16 ?_
    refine lv_iload_n hx hb dB_firstUnseenOf_19 rfl (lv_at hl 1 rfl) ?_
    refine lv_icmp_ne (tgt := 45) hx hb dB_firstUnseenOf_20 (by decide) (fun c9 => ?_) (fun c9 => ?_)
    · replace hf := x_in c9 hf
      exact wB_firstUnseenOf_45 C N σ rec2 hrec2 a1 a2 res hf H locs ls hw (lv_sub hl [0, 1, 2] rfl)
    · replace hf := x_ip c9 hf
      refine lv_aload_n hx hb dB_firstUnseenOf_23 rfl (lv_at hl 0 rfl) ?_
      refine x_get C hw 6 0 0 (v := .ref (E.2.2.1 7 0)) at_6 rfl rfl ⟨by decide, by decide⟩ wB_11 rfl dB_firstUnseenOf_24 ?_
      refine lv_iload_n hx hb dB_firstUnseenOf_27 rfl (lv_at hl 2 rfl) ?_
      refine x_ald7 C hw g7 dB_firstUnseenOf_28 ?_
      refine x_getN C hw 15 a2.toNatClampNeg 5 (v := .int (σ.1 15 a2.toNatClampNeg 5)) (at_15 g8) rfl rfl ⟨by decide, by decide⟩ wB_44 rfl dB_firstUnseenOf_29 ?_
      refine lv_if_ne (tgt := 45) hx hb dB_firstUnseenOf_32 (by decide) (fun c10 => ?_) (fun c10 => ?_)
      · replace hf := x_in c10 hf
        exact wB_firstUnseenOf_45 C N σ rec2 hrec2 a1 a2 res hf H locs ls hw (lv_sub hl [0, 1, 2] rfl)
      · replace hf := x_ip c10 hf
        refine lv_aload_n hx hb dB_firstUnseenOf_35 rfl (lv_at hl 0 rfl) ?_
        refine x_get C hw 6 0 0 (v := .ref (E.2.2.1 7 0)) at_6 rfl rfl ⟨by decide, by decide⟩ wB_11 rfl dB_firstUnseenOf_36 ?_
        refine lv_iload_n hx hb dB_firstUnseenOf_39 rfl (lv_at hl 2 rfl) ?_
        refine x_ald7 C hw g7 dB_firstUnseenOf_40 ?_
        refine x_getN C hw 15 a2.toNatClampNeg 0 (v := .int (σ.1 15 a2.toNatClampNeg 0)) (at_15 g8) rfl rfl ⟨by decide, by decide⟩ wB_25 rfl dB_firstUnseenOf_41 ?_
        obtain rfl := Option.some.inj hf
        exact x_iret C hw dB_firstUnseenOf_44
set_option maxHeartbeats 4000000 in
set_option maxRecDepth 100000 in
theorem wB_firstUnseenOf_2 {p : Program} {l : Launch} {e : Env} {R : Room} {s : State} {m : MethodId} {args : Array Value} {below : List Frame} {meth : Method} {c : Code} {E : xE} {A : Nat → Prop} {τ : yS} (C : xC p s m args meth c R E A bB_firstUnseenOf 3 yB_firstUnseenOf (some .int) 0 0 0) (N : Nat) (σ : xS) (n : Nat) : ∀ (a1 : Int32) (a2 : Int32) (res : Int32), fB_firstUnseenOf_2 N σ n a1 a2 = some res → ∀ (H : Heap) (locs : List Loc) (ls : Array Slot), xW E A s σ τ H locs → lv_has ls 3 [(0, .ref (E.2.2.1 6 0)), (1, .int a1), (2, .int a2)] → W p l e R s m args below meth c H locs 0 0 (MQ below (xQ E A (some (.int res)) σ τ) args s 0 0 A) (F0 m 2 ls []) := by
  induction n with
  | zero => intro a1 a2 res hf; cases hf
  | succ n ih =>
    intro a1 a2 res hf H locs ls hw hl
    exact wB_firstUnseenOf_2b C N σ (fB_firstUnseenOf_2 N σ n) ih a1 a2 res hf H locs ls hw hl
set_option maxHeartbeats 4000000 in
set_option maxRecDepth 100000 in
theorem cB_firstUnseenOf (l : Launch) (E : xE) (N : Nat) (σ : xS) (τ : yS) (a1 : Int32) (res : Int32) (hf : fB_firstUnseenOf N σ a1 = some res) : xM l E yB_firstUnseenOf bB_firstUnseenOf 3 (some .int) 0 0 0 [.ref (E.2.2.1 6 0), .int a1] σ τ (some (.int res)) σ τ := by
  refine x_met (by decide) (Nat.le_of_ble_eq_true rfl) (fun p e R s m args below meth c A ls H locs C hw hl => ?_)
  have hl : lv_has ls 3 [(0, .ref (E.2.2.1 6 0)), (1, .int a1)] := hl
  have hx := C.1
  have hb := C.2.1
  unfold fB_firstUnseenOf at hf
  refine lv_iconst (v := 0) hx hb dB_firstUnseenOf_0 (by decide) ?_
  refine lv_istore_n (lv' := [(2, .int 0), (0, .ref (E.2.2.1 6 0)), (1, .int a1)]) hx hb dB_firstUnseenOf_1 rfl hl (by decide) rfl (fun ls hl => ?_)
  exact wB_firstUnseenOf_2 C N σ N a1 0 res hf H locs ls hw (lv_sub hl [1, 2, 0] rfl)
-- StandIns noMore (I)I
set_option maxRecDepth 100000 in
theorem dA_noMore_0 : decode bA_noMore 0 = .ok (.aload_n 0, 1) := by decide +kernel
set_option maxRecDepth 100000 in
theorem dA_noMore_1 : decode bA_noMore 1 = .ok (.iload_n 1, 1) := by decide +kernel
set_option maxRecDepth 100000 in
theorem dA_noMore_2 : decode bA_noMore 2 = .ok (.invokevirtual 150, 3) := by decide +kernel
set_option maxRecDepth 100000 in
theorem dA_noMore_5 : decode bA_noMore 5 = .ok (.ifCond .ne 5, 3) := by decide +kernel
set_option maxRecDepth 100000 in
theorem dA_noMore_8 : decode bA_noMore 8 = .ok (.iconst (-1), 1) := by decide +kernel
set_option maxRecDepth 100000 in
theorem dA_noMore_9 : decode bA_noMore 9 = .ok (.ireturn, 1) := by decide +kernel
set_option maxRecDepth 100000 in
theorem dA_noMore_10 : decode bA_noMore 10 = .ok (.aload_n 0, 1) := by decide +kernel
set_option maxRecDepth 100000 in
theorem dA_noMore_11 : decode bA_noMore 11 = .ok (.iconst 0, 1) := by decide +kernel
set_option maxRecDepth 100000 in
theorem dA_noMore_12 : decode bA_noMore 12 = .ok (.invokevirtual 101, 3) := by decide +kernel
set_option maxRecDepth 100000 in
theorem dA_noMore_15 : decode bA_noMore 15 = .ok (.istore_n 2, 1) := by decide +kernel
set_option maxRecDepth 100000 in
theorem dA_noMore_16 : decode bA_noMore 16 = .ok (.iload_n 2, 1) := by decide +kernel
set_option maxRecDepth 100000 in
theorem dA_noMore_17 : decode bA_noMore 17 = .ok (.ifCond .eq 5, 3) := by decide +kernel
set_option maxRecDepth 100000 in
theorem dA_noMore_20 : decode bA_noMore 20 = .ok (.iload_n 2, 1) := by decide +kernel
set_option maxRecDepth 100000 in
theorem dA_noMore_21 : decode bA_noMore 21 = .ok (.ireturn, 1) := by decide +kernel
set_option maxRecDepth 100000 in
theorem dA_noMore_22 : decode bA_noMore 22 = .ok (.aload_n 0, 1) := by decide +kernel
set_option maxRecDepth 100000 in
theorem dA_noMore_23 : decode bA_noMore 23 = .ok (.aload_n 0, 1) := by decide +kernel
set_option maxRecDepth 100000 in
theorem dA_noMore_24 : decode bA_noMore 24 = .ok (.getfield 43, 3) := by decide +kernel
set_option maxRecDepth 100000 in
theorem dA_noMore_27 : decode bA_noMore 27 = .ok (.iload_n 1, 1) := by decide +kernel
set_option maxRecDepth 100000 in
theorem dA_noMore_28 : decode bA_noMore 28 = .ok (.invokevirtual 222, 3) := by decide +kernel
set_option maxRecDepth 100000 in
theorem dA_noMore_31 : decode bA_noMore 31 = .ok (.invokevirtual 112, 3) := by decide +kernel
set_option maxRecDepth 100000 in
theorem dA_noMore_34 : decode bA_noMore 34 = .ok (.ireturn, 1) := by decide +kernel
def fA_noMore (N : Nat) (σ : xS) (a1 : Int32) : Option (Int32 × xS) :=
  if (fA_isStandIn σ a1) = 0 then
  (some ((-1), σ))
  else
  (xb (fA_misuseOfPlainStep σ 0) fun r4 s5 =>
  if r4 = 0 then
  (xp (fB_firstUnseenOf N s5 a1) fun r8 =>
  xl (fA_idleWith s5 r8) fun s10 =>
  some (s10.1, s10.2))
  else
  (some (r4, s5)))
set_option maxHeartbeats 4000000 in
set_option maxRecDepth 100000 in
theorem cA_noMore (l : Launch) (E : xE) (N : Nat) (σ : xS) (τ : yS) (a1 : Int32) (res : Int32 × xS) (hf : fA_noMore N σ a1 = some res) : xM l E yA_noMore bA_noMore 3 (some .int) 5 0 0 [.ref (E.2.2.1 0 0), .int a1] σ τ (some (.int res.1)) res.2 τ := by
  refine x_met (by decide) (Nat.le_of_ble_eq_true rfl) (fun p e R s m args below meth c A ls H locs C hw hl => ?_)
  have hl : lv_has ls 3 [(0, .ref (E.2.2.1 0 0)), (1, .int a1)] := hl
  have hx := C.1
  have hb := C.2.1
  unfold fA_noMore at hf
  refine lv_aload_n hx hb dA_noMore_0 rfl (lv_at hl 0 rfl) ?_
  refine lv_iload_n hx hb dA_noMore_1 rfl (lv_at hl 1 rfl) ?_
  refine x_callV (As := [.int a1]) (rest := []) (st1 := [.int (fA_isStandIn σ a1)]) C hw (cA_isStandIn l E σ τ a1) kA_150 (x_recv C hw 0 0 at_0 rfl rfl) (by decide) rfl rfl hl.1 (lv_room (Nat.le_of_ble_eq_true rfl)) dA_noMore_2 ⟨by decide, by decide⟩ rfl (fun H locs hw => ?_)
  refine lv_if_ne (tgt := 10) hx hb dA_noMore_5 (by decide) (fun c2 => ?_) (fun c2 => ?_)
  · replace hf := x_in c2 hf
    refine lv_aload_n hx hb dA_noMore_10 rfl (lv_at hl 0 rfl) ?_
    refine lv_iconst (v := 0) hx hb dA_noMore_11 (by decide) ?_
    obtain ⟨r4, s5, h3, hf⟩ := x_b hf
    refine x_callV (As := [.int 0]) (rest := []) (st1 := [.int r4]) C hw (cA_misuseOfPlainStep l E σ τ 0 (r4, s5) h3) kA_101 (x_recv C hw 0 0 at_0 rfl rfl) (by decide) rfl rfl hl.1 (lv_room (Nat.le_of_ble_eq_true rfl)) dA_noMore_12 ⟨by decide, by decide⟩ rfl (fun H locs hw => ?_)
    refine lv_istore_n (lv' := [(2, .int r4), (0, .ref (E.2.2.1 0 0)), (1, .int a1)]) hx hb dA_noMore_15 rfl hl (by decide) rfl (fun ls hl => ?_)
    refine lv_iload_n hx hb dA_noMore_16 rfl (lv_at hl 0 rfl) ?_
    refine lv_if_eq (tgt := 22) hx hb dA_noMore_17 (by decide) (fun c6 => ?_) (fun c6 => ?_)
    · replace hf := x_ip c6 hf
      refine lv_aload_n hx hb dA_noMore_22 rfl (lv_at hl 1 rfl) ?_
      refine lv_aload_n hx hb dA_noMore_23 rfl (lv_at hl 1 rfl) ?_
      refine x_get C hw 0 0 6 (v := .ref (E.2.2.1 6 0)) at_0 rfl rfl ⟨by decide, by decide⟩ wA_43 rfl dA_noMore_24 ?_
      refine lv_iload_n hx hb dA_noMore_27 rfl (lv_at hl 2 rfl) ?_
      obtain ⟨r8, h7, hf⟩ := x_p hf
      refine x_callVN (As := [.int a1]) (rest := [.ref (E.2.2.1 0 0)]) (st1 := [.int r8, .ref (E.2.2.1 0 0)]) C hw (cB_firstUnseenOf l E N s5 τ a1 r8 h7) kA_222 (x_recv C hw 6 0 at_6 rfl rfl) (by decide) rfl rfl hl.1 (lv_room (Nat.le_of_ble_eq_true rfl)) dA_noMore_28 ⟨by decide, by decide⟩ rfl (fun H locs hw => ?_)
      obtain ⟨s10, h9, hf⟩ := x_l hf
      refine x_callV (As := [.int r8]) (rest := []) (st1 := [.int s10.1]) C hw (cA_idleWith l E s5 τ r8 s10 h9.symm) kA_112 (x_recv C hw 0 0 at_0 rfl rfl) (by decide) rfl rfl hl.1 (lv_room (Nat.le_of_ble_eq_true rfl)) dA_noMore_31 ⟨by decide, by decide⟩ rfl (fun H locs hw => ?_)
      obtain rfl := Option.some.inj hf
      exact x_iret C hw dA_noMore_34
    · replace hf := x_in c6 hf
      refine lv_iload_n hx hb dA_noMore_20 rfl (lv_at hl 0 rfl) ?_
      obtain rfl := Option.some.inj hf
      exact x_iret C hw dA_noMore_21
  · replace hf := x_ip c2 hf
    refine lv_iconst (v := (-1)) hx hb dA_noMore_8 (by decide) ?_
    obtain rfl := Option.some.inj hf
    exact x_iret C hw dA_noMore_9
-- StandIns restart ()I
set_option maxRecDepth 100000 in
theorem dA_restart_0 : decode bA_restart 0 = .ok (.aload_n 0, 1) := by decide +kernel
set_option maxRecDepth 100000 in
theorem dA_restart_1 : decode bA_restart 1 = .ok (.iconst 0, 1) := by decide +kernel
set_option maxRecDepth 100000 in
theorem dA_restart_2 : decode bA_restart 2 = .ok (.invokevirtual 101, 3) := by decide +kernel
set_option maxRecDepth 100000 in
theorem dA_restart_5 : decode bA_restart 5 = .ok (.istore_n 1, 1) := by decide +kernel
set_option maxRecDepth 100000 in
theorem dA_restart_6 : decode bA_restart 6 = .ok (.iload_n 1, 1) := by decide +kernel
set_option maxRecDepth 100000 in
theorem dA_restart_7 : decode bA_restart 7 = .ok (.ifCond .eq 5, 3) := by decide +kernel
set_option maxRecDepth 100000 in
theorem dA_restart_10 : decode bA_restart 10 = .ok (.iload_n 1, 1) := by decide +kernel
set_option maxRecDepth 100000 in
theorem dA_restart_11 : decode bA_restart 11 = .ok (.ireturn, 1) := by decide +kernel
set_option maxRecDepth 100000 in
theorem dA_restart_12 : decode bA_restart 12 = .ok (.aload_n 0, 1) := by decide +kernel
set_option maxRecDepth 100000 in
theorem dA_restart_13 : decode bA_restart 13 = .ok (.getfield 89, 3) := by decide +kernel
set_option maxRecDepth 100000 in
theorem dA_restart_16 : decode bA_restart 16 = .ok (.istore_n 2, 1) := by decide +kernel
set_option maxRecDepth 100000 in
theorem dA_restart_17 : decode bA_restart 17 = .ok (.aload_n 0, 1) := by decide +kernel
set_option maxRecDepth 100000 in
theorem dA_restart_18 : decode bA_restart 18 = .ok (.iconst (-1), 1) := by decide +kernel
set_option maxRecDepth 100000 in
theorem dA_restart_19 : decode bA_restart 19 = .ok (.putfield 89, 3) := by decide +kernel
set_option maxRecDepth 100000 in
theorem dA_restart_22 : decode bA_restart 22 = .ok (.aload_n 0, 1) := by decide +kernel
set_option maxRecDepth 100000 in
theorem dA_restart_23 : decode bA_restart 23 = .ok (.iload_n 2, 1) := by decide +kernel
set_option maxRecDepth 100000 in
theorem dA_restart_24 : decode bA_restart 24 = .ok (.invokevirtual 112, 3) := by decide +kernel
set_option maxRecDepth 100000 in
theorem dA_restart_27 : decode bA_restart 27 = .ok (.ireturn, 1) := by decide +kernel
def fA_restart (σ : xS) : Option (Int32 × xS) :=
  xb (fA_misuseOfPlainStep σ 0) fun r2 s3 =>
  if r2 = 0 then
  (xl (x_si s3 0 0 16 (-1)) fun s5 =>
  xl (fA_idleWith s5 (s3.1 0 0 16)) fun s7 =>
  some (s7.1, s7.2))
  else
  (some (r2, s3))
set_option maxHeartbeats 4000000 in
set_option maxRecDepth 100000 in
theorem cA_restart (l : Launch) (E : xE) (σ : xS) (τ : yS) (res : Int32 × xS) (hf : fA_restart σ = some res) : xM l E yA_restart bA_restart 3 (some .int) 5 0 0 [.ref (E.2.2.1 0 0)] σ τ (some (.int res.1)) res.2 τ := by
  refine x_met (by decide) (Nat.le_of_ble_eq_true rfl) (fun p e R s m args below meth c A ls H locs C hw hl => ?_)
  have hl : lv_has ls 3 [(0, .ref (E.2.2.1 0 0))] := hl
  have hx := C.1
  have hb := C.2.1
  unfold fA_restart at hf
  refine lv_aload_n hx hb dA_restart_0 rfl (lv_at hl 0 rfl) ?_
  refine lv_iconst (v := 0) hx hb dA_restart_1 (by decide) ?_
  obtain ⟨r2, s3, h1, hf⟩ := x_b hf
  refine x_callV (As := [.int 0]) (rest := []) (st1 := [.int r2]) C hw (cA_misuseOfPlainStep l E σ τ 0 (r2, s3) h1) kA_101 (x_recv C hw 0 0 at_0 rfl rfl) (by decide) rfl rfl hl.1 (lv_room (Nat.le_of_ble_eq_true rfl)) dA_restart_2 ⟨by decide, by decide⟩ rfl (fun H locs hw => ?_)
  refine lv_istore_n (lv' := [(1, .int r2), (0, .ref (E.2.2.1 0 0))]) hx hb dA_restart_5 rfl hl (by decide) rfl (fun ls hl => ?_)
  refine lv_iload_n hx hb dA_restart_6 rfl (lv_at hl 0 rfl) ?_
  refine lv_if_eq (tgt := 12) hx hb dA_restart_7 (by decide) (fun c4 => ?_) (fun c4 => ?_)
  · replace hf := x_ip c4 hf
    refine lv_aload_n hx hb dA_restart_12 rfl (lv_at hl 1 rfl) ?_
    refine x_get C hw 0 0 16 (v := .int (s3.1 0 0 16)) at_0 rfl rfl ⟨by decide, by decide⟩ wA_89 rfl dA_restart_13 ?_
    refine lv_istore_n (lv' := [(2, .int (s3.1 0 0 16)), (1, .int r2), (0, .ref (E.2.2.1 0 0))]) hx hb dA_restart_16 rfl hl (by decide) rfl (fun ls hl => ?_)
    refine lv_aload_n hx hb dA_restart_17 rfl (lv_at hl 2 rfl) ?_
    refine lv_iconst (v := (-1)) hx hb dA_restart_18 (by decide) ?_
    refine x_puti C hw 0 0 16 at_0 rfl rfl rfl ⟨rfl, rfl⟩ ⟨by decide, by decide⟩ (Nat.le_of_ble_eq_true rfl) wA_89 dA_restart_19 (fun H locs hw => ?_)
    obtain ⟨s5, es5, hf⟩ := x_l hf
    rw [← es5] at hw
    refine lv_aload_n hx hb dA_restart_22 rfl (lv_at hl 2 rfl) ?_
    refine lv_iload_n hx hb dA_restart_23 rfl (lv_at hl 0 rfl) ?_
    obtain ⟨s7, h6, hf⟩ := x_l hf
    refine x_callV (As := [.int (s3.1 0 0 16)]) (rest := []) (st1 := [.int s7.1]) C hw (cA_idleWith l E s5 τ (s3.1 0 0 16) s7 h6.symm) kA_112 (x_recv C hw 0 0 at_0 rfl rfl) (by decide) rfl rfl hl.1 (lv_room (Nat.le_of_ble_eq_true rfl)) dA_restart_24 ⟨by decide, by decide⟩ rfl (fun H locs hw => ?_)
    obtain rfl := Option.some.inj hf
    exact x_iret C hw dA_restart_27
  · replace hf := x_in c4 hf
    refine lv_iload_n hx hb dA_restart_10 rfl (lv_at hl 0 rfl) ?_
    obtain rfl := Option.some.inj hf
    exact x_iret C hw dA_restart_11
-- StandIns noted (II)I
set_option maxRecDepth 100000 in
theorem dA_noted_0 : decode bA_noted 0 = .ok (.iload_n 1, 1) := by decide +kernel
set_option maxRecDepth 100000 in
theorem dA_noted_1 : decode bA_noted 1 = .ok (.aload_n 0, 1) := by decide +kernel
set_option maxRecDepth 100000 in
theorem dA_noted_2 : decode bA_noted 2 = .ok (.getfield 43, 3) := by decide +kernel
set_option maxRecDepth 100000 in
theorem dA_noted_5 : decode bA_noted 5 = .ok (.getfield 225, 3) := by decide +kernel
set_option maxRecDepth 100000 in
theorem dA_noted_8 : decode bA_noted 8 = .ok (.invokestatic 97, 3) := by decide +kernel
set_option maxRecDepth 100000 in
theorem dA_noted_11 : decode bA_noted 11 = .ok (.ifCond .ne 5, 3) := by decide +kernel
set_option maxRecDepth 100000 in
theorem dA_noted_14 : decode bA_noted 14 = .ok (.iconst (-1), 1) := by decide +kernel
set_option maxRecDepth 100000 in
theorem dA_noted_15 : decode bA_noted 15 = .ok (.ireturn, 1) := by decide +kernel
set_option maxRecDepth 100000 in
theorem dA_noted_16 : decode bA_noted 16 = .ok (.aload_n 0, 1) := by decide +kernel
set_option maxRecDepth 100000 in
theorem dA_noted_17 : decode bA_noted 17 = .ok (.getfield 43, 3) := by decide +kernel
set_option maxRecDepth 100000 in
theorem dA_noted_20 : decode bA_noted 20 = .ok (.getfield 226, 3) := by decide +kernel
set_option maxRecDepth 100000 in
theorem dA_noted_23 : decode bA_noted 23 = .ok (.iload_n 1, 1) := by decide +kernel
set_option maxRecDepth 100000 in
theorem dA_noted_24 : decode bA_noted 24 = .ok (.aaload, 1) := by decide +kernel
set_option maxRecDepth 100000 in
theorem dA_noted_25 : decode bA_noted 25 = .ok (.astore_n 3, 1) := by decide +kernel
set_option maxRecDepth 100000 in
theorem dA_noted_26 : decode bA_noted 26 = .ok (.iload_n 2, 1) := by decide +kernel
set_option maxRecDepth 100000 in
theorem dA_noted_27 : decode bA_noted 27 = .ok (.tableswitch 84 0 6 #[41, 46, 51, 56, 61, 66, 79], 41) := by decide +kernel
set_option maxRecDepth 100000 in
theorem dA_noted_68 : decode bA_noted 68 = .ok (.aload_n 3, 1) := by decide +kernel
set_option maxRecDepth 100000 in
theorem dA_noted_69 : decode bA_noted 69 = .ok (.getfield 230, 3) := by decide +kernel
set_option maxRecDepth 100000 in
theorem dA_noted_72 : decode bA_noted 72 = .ok (.ireturn, 1) := by decide +kernel
set_option maxRecDepth 100000 in
theorem dA_noted_73 : decode bA_noted 73 = .ok (.aload_n 3, 1) := by decide +kernel
set_option maxRecDepth 100000 in
theorem dA_noted_74 : decode bA_noted 74 = .ok (.getfield 235, 3) := by decide +kernel
set_option maxRecDepth 100000 in
theorem dA_noted_77 : decode bA_noted 77 = .ok (.ireturn, 1) := by decide +kernel
set_option maxRecDepth 100000 in
theorem dA_noted_78 : decode bA_noted 78 = .ok (.aload_n 3, 1) := by decide +kernel
set_option maxRecDepth 100000 in
theorem dA_noted_79 : decode bA_noted 79 = .ok (.getfield 236, 3) := by decide +kernel
set_option maxRecDepth 100000 in
theorem dA_noted_82 : decode bA_noted 82 = .ok (.ireturn, 1) := by decide +kernel
set_option maxRecDepth 100000 in
theorem dA_noted_83 : decode bA_noted 83 = .ok (.aload_n 3, 1) := by decide +kernel
set_option maxRecDepth 100000 in
theorem dA_noted_84 : decode bA_noted 84 = .ok (.getfield 237, 3) := by decide +kernel
set_option maxRecDepth 100000 in
theorem dA_noted_87 : decode bA_noted 87 = .ok (.ireturn, 1) := by decide +kernel
set_option maxRecDepth 100000 in
theorem dA_noted_88 : decode bA_noted 88 = .ok (.aload_n 3, 1) := by decide +kernel
set_option maxRecDepth 100000 in
theorem dA_noted_89 : decode bA_noted 89 = .ok (.getfield 240, 3) := by decide +kernel
set_option maxRecDepth 100000 in
theorem dA_noted_92 : decode bA_noted 92 = .ok (.ireturn, 1) := by decide +kernel
set_option maxRecDepth 100000 in
theorem dA_noted_93 : decode bA_noted 93 = .ok (.aload_n 3, 1) := by decide +kernel
set_option maxRecDepth 100000 in
theorem dA_noted_94 : decode bA_noted 94 = .ok (.getfield 243, 3) := by decide +kernel
set_option maxRecDepth 100000 in
theorem dA_noted_97 : decode bA_noted 97 = .ok (.ifCond .eq 7, 3) := by decide +kernel
set_option maxRecDepth 100000 in
theorem dA_noted_100 : decode bA_noted 100 = .ok (.iconst 1, 1) := by decide +kernel
set_option maxRecDepth 100000 in
theorem dA_noted_101 : decode bA_noted 101 = .ok (.goto 4, 3) := by decide +kernel
set_option maxRecDepth 100000 in
theorem dA_noted_104 : decode bA_noted 104 = .ok (.iconst 0, 1) := by decide +kernel
set_option maxRecDepth 100000 in
theorem dA_noted_105 : decode bA_noted 105 = .ok (.ireturn, 1) := by decide +kernel
set_option maxRecDepth 100000 in
theorem dA_noted_106 : decode bA_noted 106 = .ok (.aload_n 3, 1) := by decide +kernel
set_option maxRecDepth 100000 in
theorem dA_noted_107 : decode bA_noted 107 = .ok (.getfield 246, 3) := by decide +kernel
set_option maxRecDepth 100000 in
theorem dA_noted_110 : decode bA_noted 110 = .ok (.ireturn, 1) := by decide +kernel
set_option maxRecDepth 100000 in
theorem dA_noted_111 : decode bA_noted 111 = .ok (.iconst (-1), 1) := by decide +kernel
set_option maxRecDepth 100000 in
theorem dA_noted_112 : decode bA_noted 112 = .ok (.ireturn, 1) := by decide +kernel
def fA_noted (σ : xS) (a1 : Int32) (a2 : Int32) : Option (Int32) :=
  if (fA_isBelow a1 (σ.1 6 0 1)) = 0 then
  (some (-1))
  else
  (if ¬ (a1 < 0 ∨ 40 ≤ a1.toNatClampNeg) then
  if a2 = 0 then
  (some (σ.1 15 a1.toNatClampNeg 0))
  else
  (if a2 = 1 then
  (some (σ.1 15 a1.toNatClampNeg 1))
  else
  (if a2 = 2 then
  (some (σ.1 15 a1.toNatClampNeg 2))
  else
  (if a2 = 3 then
  (some (σ.1 15 a1.toNatClampNeg 3))
  else
  (if a2 = 4 then
  (some (σ.1 15 a1.toNatClampNeg 4))
  else
  (if a2 = 5 then
  (if (σ.1 15 a1.toNatClampNeg 5) = 0 then
  (some 0)
  else
  (some 1))
  else
  (if a2 = 6 then
  (some (σ.1 15 a1.toNatClampNeg 6))
  else
  (some (-1))))))))
  else none)
set_option maxHeartbeats 4000000 in
set_option maxRecDepth 100000 in
theorem cA_noted (l : Launch) (E : xE) (σ : xS) (τ : yS) (a1 : Int32) (a2 : Int32) (res : Int32) (hf : fA_noted σ a1 a2 = some res) : xM l E yA_noted bA_noted 4 (some .int) 1 0 0 [.ref (E.2.2.1 0 0), .int a1, .int a2] σ τ (some (.int res)) σ τ := by
  refine x_met (by decide) (Nat.le_of_ble_eq_true rfl) (fun p e R s m args below meth c A ls H locs C hw hl => ?_)
  have hl : lv_has ls 4 [(0, .ref (E.2.2.1 0 0)), (1, .int a1), (2, .int a2)] := hl
  have hx := C.1
  have hb := C.2.1
  unfold fA_noted at hf
  refine lv_iload_n hx hb dA_noted_0 rfl (lv_at hl 1 rfl) ?_
  refine lv_aload_n hx hb dA_noted_1 rfl (lv_at hl 0 rfl) ?_
  refine x_get C hw 0 0 6 (v := .ref (E.2.2.1 6 0)) at_0 rfl rfl ⟨by decide, by decide⟩ wA_43 rfl dA_noted_2 ?_
  refine x_getN C hw 6 0 1 (v := .int (σ.1 6 0 1)) at_6 rfl rfl ⟨by decide, by decide⟩ wA_225 rfl dA_noted_5 ?_
  refine x_callS (As := [.int a1, .int (σ.1 6 0 1)]) (rest := []) (st1 := [.int (fA_isBelow a1 (σ.1 6 0 1))]) C hw (cA_isBelow l E σ τ a1 (σ.1 6 0 1)) kA_97 (by decide) rfl rfl hl.1 (lv_room (Nat.le_of_ble_eq_true rfl)) dA_noted_8 ⟨by decide, by decide⟩ rfl (fun H locs hw => ?_)
  refine lv_if_ne (tgt := 16) hx hb dA_noted_11 (by decide) (fun c2 => ?_) (fun c2 => ?_)
  · replace hf := x_in c2 hf
    refine lv_aload_n hx hb dA_noted_16 rfl (lv_at hl 0 rfl) ?_
    refine x_get C hw 0 0 6 (v := .ref (E.2.2.1 6 0)) at_0 rfl rfl ⟨by decide, by decide⟩ wA_43 rfl dA_noted_17 ?_
    refine x_getN C hw 6 0 0 (v := .ref (E.2.2.1 7 0)) at_6 rfl rfl ⟨by decide, by decide⟩ wA_226 rfl dA_noted_20 ?_
    refine lv_iload_n hx hb dA_noted_23 rfl (lv_at hl 1 rfl) ?_
    obtain ⟨g3, hf⟩ := x_g hf
    refine x_ald7 C hw g3 dA_noted_24 ?_
    have g4 := x_lt g3
    refine lv_astore_n (lv' := [(3, .ref (E.2.2.1 15 a1.toNatClampNeg)), (0, .ref (E.2.2.1 0 0)), (1, .int a1), (2, .int a2)]) hx hb dA_noted_25 rfl hl (by decide) rfl (fun ls hl => ?_)
    refine lv_iload_n hx hb dA_noted_26 rfl (lv_at hl 3 rfl) ?_
    by_cases c5 : a2 = 0
    · replace hf := x_ip c5 hf
      refine lv_tableIn (tgt := 68) hx hb dA_noted_27 (by rw [c5]; decide) (by rw [c5]; decide) (by rw [c5]; rfl) (by decide) ?_
      refine lv_aload_n hx hb dA_noted_68 rfl (lv_at hl 0 rfl) ?_
      refine x_getN C hw 15 a1.toNatClampNeg 0 (v := .int (σ.1 15 a1.toNatClampNeg 0)) (at_15 g4) rfl rfl ⟨by decide, by decide⟩ wA_230 rfl dA_noted_69 ?_
      obtain rfl := Option.some.inj hf
      exact x_iret C hw dA_noted_72
    · replace hf := x_in c5 hf
      by_cases c6 : a2 = 1
      · replace hf := x_ip c6 hf
        refine lv_tableIn (tgt := 73) hx hb dA_noted_27 (by rw [c6]; decide) (by rw [c6]; decide) (by rw [c6]; rfl) (by decide) ?_
        refine lv_aload_n hx hb dA_noted_73 rfl (lv_at hl 0 rfl) ?_
        refine x_getN C hw 15 a1.toNatClampNeg 1 (v := .int (σ.1 15 a1.toNatClampNeg 1)) (at_15 g4) rfl rfl ⟨by decide, by decide⟩ wA_235 rfl dA_noted_74 ?_
        obtain rfl := Option.some.inj hf
        exact x_iret C hw dA_noted_77
      · replace hf := x_in c6 hf
        by_cases c7 : a2 = 2
        · replace hf := x_ip c7 hf
          refine lv_tableIn (tgt := 78) hx hb dA_noted_27 (by rw [c7]; decide) (by rw [c7]; decide) (by rw [c7]; rfl) (by decide) ?_
          refine lv_aload_n hx hb dA_noted_78 rfl (lv_at hl 0 rfl) ?_
          refine x_getN C hw 15 a1.toNatClampNeg 2 (v := .int (σ.1 15 a1.toNatClampNeg 2)) (at_15 g4) rfl rfl ⟨by decide, by decide⟩ wA_236 rfl dA_noted_79 ?_
          obtain rfl := Option.some.inj hf
          exact x_iret C hw dA_noted_82
        · replace hf := x_in c7 hf
          by_cases c8 : a2 = 3
          · replace hf := x_ip c8 hf
            refine lv_tableIn (tgt := 83) hx hb dA_noted_27 (by rw [c8]; decide) (by rw [c8]; decide) (by rw [c8]; rfl) (by decide) ?_
            refine lv_aload_n hx hb dA_noted_83 rfl (lv_at hl 0 rfl) ?_
            refine x_getN C hw 15 a1.toNatClampNeg 3 (v := .int (σ.1 15 a1.toNatClampNeg 3)) (at_15 g4) rfl rfl ⟨by decide, by decide⟩ wA_237 rfl dA_noted_84 ?_
            obtain rfl := Option.some.inj hf
            exact x_iret C hw dA_noted_87
          · replace hf := x_in c8 hf
            by_cases c9 : a2 = 4
            · replace hf := x_ip c9 hf
              refine lv_tableIn (tgt := 88) hx hb dA_noted_27 (by rw [c9]; decide) (by rw [c9]; decide) (by rw [c9]; rfl) (by decide) ?_
              refine lv_aload_n hx hb dA_noted_88 rfl (lv_at hl 0 rfl) ?_
              refine x_getN C hw 15 a1.toNatClampNeg 4 (v := .int (σ.1 15 a1.toNatClampNeg 4)) (at_15 g4) rfl rfl ⟨by decide, by decide⟩ wA_240 rfl dA_noted_89 ?_
              obtain rfl := Option.some.inj hf
              exact x_iret C hw dA_noted_92
            · replace hf := x_in c9 hf
              by_cases c10 : a2 = 5
              · replace hf := x_ip c10 hf
                refine lv_tableIn (tgt := 93) hx hb dA_noted_27 (by rw [c10]; decide) (by rw [c10]; decide) (by rw [c10]; rfl) (by decide) ?_
                refine lv_aload_n hx hb dA_noted_93 rfl (lv_at hl 0 rfl) ?_
                refine x_getN C hw 15 a1.toNatClampNeg 5 (v := .int (σ.1 15 a1.toNatClampNeg 5)) (at_15 g4) rfl rfl ⟨by decide, by decide⟩ wA_243 rfl dA_noted_94 ?_
                refine lv_if_eq (tgt := 104) hx hb dA_noted_97 (by decide) (fun c11 => ?_) (fun c11 => ?_)
                · replace hf := x_ip c11 hf
                  refine lv_iconst (v := 0) hx hb dA_noted_104 (by decide) ?_
                  obtain rfl := Option.some.inj hf
                  exact x_iret C hw dA_noted_105
                · replace hf := x_in c11 hf
                  refine lv_iconst (v := 1) hx hb dA_noted_100 (by decide) ?_
                  refine lv_goto (tgt := 105) hx hb dA_noted_101 (by decide) ?_
                  obtain rfl := Option.some.inj hf
                  exact x_iret C hw dA_noted_105
              · replace hf := x_in c10 hf
                by_cases c12 : a2 = 6
                · replace hf := x_ip c12 hf
                  refine lv_tableIn (tgt := 106) hx hb dA_noted_27 (by rw [c12]; decide) (by rw [c12]; decide) (by rw [c12]; rfl) (by decide) ?_
                  refine lv_aload_n hx hb dA_noted_106 rfl (lv_at hl 0 rfl) ?_
                  refine x_getN C hw 15 a1.toNatClampNeg 6 (v := .int (σ.1 15 a1.toNatClampNeg 6)) (at_15 g4) rfl rfl ⟨by decide, by decide⟩ wA_246 rfl dA_noted_107 ?_
                  obtain rfl := Option.some.inj hf
                  exact x_iret C hw dA_noted_110
                · replace hf := x_in c12 hf
                  refine lv_tableOut (tgt := 111) hx hb dA_noted_27 (by have nc5 := lv_neT c5 (a := 0) (by decide); have nc6 := lv_neT c6 (a := 1) (by decide); have nc7 := lv_neT c7 (a := 2) (by decide); have nc8 := lv_neT c8 (a := 3) (by decide); have nc9 := lv_neT c9 (a := 4) (by decide); have nc10 := lv_neT c10 (a := 5) (by decide); have nc12 := lv_neT c12 (a := 6) (by decide); omega) (by decide) ?_
                  refine lv_iconst (v := (-1)) hx hb dA_noted_111 (by decide) ?_
                  obtain rfl := Option.some.inj hf
                  exact x_iret C hw dA_noted_112
  · replace hf := x_ip c2 hf
    refine lv_iconst (v := (-1)) hx hb dA_noted_14 (by decide) ?_
    obtain rfl := Option.some.inj hf
    exact x_iret C hw dA_noted_15
-- StandIns telling (II)I
set_option maxRecDepth 100000 in
theorem dA_telling_0 : decode bA_telling 0 = .ok (.iload_n 1, 1) := by decide +kernel
set_option maxRecDepth 100000 in
theorem dA_telling_1 : decode bA_telling 1 = .ok (.aload_n 0, 1) := by decide +kernel
set_option maxRecDepth 100000 in
theorem dA_telling_2 : decode bA_telling 2 = .ok (.getfield 53, 3) := by decide +kernel
set_option maxRecDepth 100000 in
theorem dA_telling_5 : decode bA_telling 5 = .ok (.invokestatic 97, 3) := by decide +kernel
set_option maxRecDepth 100000 in
theorem dA_telling_8 : decode bA_telling 8 = .ok (.ifCond .ne 5, 3) := by decide +kernel
set_option maxRecDepth 100000 in
theorem dA_telling_11 : decode bA_telling 11 = .ok (.iconst (-1), 1) := by decide +kernel
set_option maxRecDepth 100000 in
theorem dA_telling_12 : decode bA_telling 12 = .ok (.ireturn, 1) := by decide +kernel
set_option maxRecDepth 100000 in
theorem dA_telling_13 : decode bA_telling 13 = .ok (.aload_n 0, 1) := by decide +kernel
set_option maxRecDepth 100000 in
theorem dA_telling_14 : decode bA_telling 14 = .ok (.getfield 49, 3) := by decide +kernel
set_option maxRecDepth 100000 in
theorem dA_telling_17 : decode bA_telling 17 = .ok (.iload_n 1, 1) := by decide +kernel
set_option maxRecDepth 100000 in
theorem dA_telling_18 : decode bA_telling 18 = .ok (.aaload, 1) := by decide +kernel
set_option maxRecDepth 100000 in
theorem dA_telling_19 : decode bA_telling 19 = .ok (.astore_n 3, 1) := by decide +kernel
set_option maxRecDepth 100000 in
theorem dA_telling_20 : decode bA_telling 20 = .ok (.iload_n 2, 1) := by decide +kernel
set_option maxRecDepth 100000 in
theorem dA_telling_21 : decode bA_telling 21 = .ok (.tableswitch 77 0 4 #[35, 43, 51, 59, 64], 35) := by decide +kernel
set_option maxRecDepth 100000 in
theorem dA_telling_56 : decode bA_telling 56 = .ok (.aload_n 3, 1) := by decide +kernel
set_option maxRecDepth 100000 in
theorem dA_telling_57 : decode bA_telling 57 = .ok (.getfield 249, 3) := by decide +kernel
set_option maxRecDepth 100000 in
theorem dA_telling_60 : decode bA_telling 60 = .ok (.getfield 170, 3) := by decide +kernel
set_option maxRecDepth 100000 in
theorem dA_telling_63 : decode bA_telling 63 = .ok (.ireturn, 1) := by decide +kernel
set_option maxRecDepth 100000 in
theorem dA_telling_64 : decode bA_telling 64 = .ok (.aload_n 3, 1) := by decide +kernel
set_option maxRecDepth 100000 in
theorem dA_telling_65 : decode bA_telling 65 = .ok (.getfield 249, 3) := by decide +kernel
set_option maxRecDepth 100000 in
theorem dA_telling_68 : decode bA_telling 68 = .ok (.getfield 173, 3) := by decide +kernel
set_option maxRecDepth 100000 in
theorem dA_telling_71 : decode bA_telling 71 = .ok (.ireturn, 1) := by decide +kernel
set_option maxRecDepth 100000 in
theorem dA_telling_72 : decode bA_telling 72 = .ok (.aload_n 3, 1) := by decide +kernel
set_option maxRecDepth 100000 in
theorem dA_telling_73 : decode bA_telling 73 = .ok (.getfield 211, 3) := by decide +kernel
set_option maxRecDepth 100000 in
theorem dA_telling_76 : decode bA_telling 76 = .ok (.getfield 214, 3) := by decide +kernel
set_option maxRecDepth 100000 in
theorem dA_telling_79 : decode bA_telling 79 = .ok (.ireturn, 1) := by decide +kernel
set_option maxRecDepth 100000 in
theorem dA_telling_80 : decode bA_telling 80 = .ok (.aload_n 3, 1) := by decide +kernel
set_option maxRecDepth 100000 in
theorem dA_telling_81 : decode bA_telling 81 = .ok (.getfield 252, 3) := by decide +kernel
set_option maxRecDepth 100000 in
theorem dA_telling_84 : decode bA_telling 84 = .ok (.ireturn, 1) := by decide +kernel
set_option maxRecDepth 100000 in
theorem dA_telling_85 : decode bA_telling 85 = .ok (.aload_n 3, 1) := by decide +kernel
set_option maxRecDepth 100000 in
theorem dA_telling_86 : decode bA_telling 86 = .ok (.getfield 255, 3) := by decide +kernel
set_option maxRecDepth 100000 in
theorem dA_telling_89 : decode bA_telling 89 = .ok (.ifCond .eq 7, 3) := by decide +kernel
set_option maxRecDepth 100000 in
theorem dA_telling_92 : decode bA_telling 92 = .ok (.iconst 0, 1) := by decide +kernel
set_option maxRecDepth 100000 in
theorem dA_telling_93 : decode bA_telling 93 = .ok (.goto 4, 3) := by decide +kernel
set_option maxRecDepth 100000 in
theorem dA_telling_96 : decode bA_telling 96 = .ok (.iconst 1, 1) := by decide +kernel
set_option maxRecDepth 100000 in
theorem dA_telling_97 : decode bA_telling 97 = .ok (.ireturn, 1) := by decide +kernel
set_option maxRecDepth 100000 in
theorem dA_telling_98 : decode bA_telling 98 = .ok (.iconst (-1), 1) := by decide +kernel
set_option maxRecDepth 100000 in
theorem dA_telling_99 : decode bA_telling 99 = .ok (.ireturn, 1) := by decide +kernel
def fA_telling (σ : xS) (a1 : Int32) (a2 : Int32) : Option (Int32) :=
  if (fA_isBelow a1 (σ.1 0 0 8)) = 0 then
  (some (-1))
  else
  (if ¬ (a1 < 0 ∨ 16 ≤ a1.toNatClampNeg) then
  if a2 = 0 then
  (if a1.toNatClampNeg < 17 then
  some (σ.1 17 a1.toNatClampNeg 0)
  else none)
  else
  (if a2 = 1 then
  (if a1.toNatClampNeg < 17 then
  some (σ.1 17 a1.toNatClampNeg 1)
  else none)
  else
  (if a2 = 2 then
  (if a1.toNatClampNeg < 17 then
  some (σ.1 18 a1.toNatClampNeg 2)
  else none)
  else
  (if a2 = 3 then
  (some (σ.1 16 a1.toNatClampNeg 3))
  else
  (if a2 = 4 then
  (if (σ.1 16 a1.toNatClampNeg 4) = 0 then
  (some 1)
  else
  (some 0))
  else
  (some (-1))))))
  else none)
set_option maxHeartbeats 4000000 in
set_option maxRecDepth 100000 in
theorem cA_telling (l : Launch) (E : xE) (σ : xS) (τ : yS) (a1 : Int32) (a2 : Int32) (res : Int32) (hf : fA_telling σ a1 a2 = some res) : xM l E yA_telling bA_telling 4 (some .int) 1 0 0 [.ref (E.2.2.1 0 0), .int a1, .int a2] σ τ (some (.int res)) σ τ := by
  refine x_met (by decide) (Nat.le_of_ble_eq_true rfl) (fun p e R s m args below meth c A ls H locs C hw hl => ?_)
  have hl : lv_has ls 4 [(0, .ref (E.2.2.1 0 0)), (1, .int a1), (2, .int a2)] := hl
  have hx := C.1
  have hb := C.2.1
  unfold fA_telling at hf
  refine lv_iload_n hx hb dA_telling_0 rfl (lv_at hl 1 rfl) ?_
  refine lv_aload_n hx hb dA_telling_1 rfl (lv_at hl 0 rfl) ?_
  refine x_get C hw 0 0 8 (v := .int (σ.1 0 0 8)) at_0 rfl rfl ⟨by decide, by decide⟩ wA_53 rfl dA_telling_2 ?_
  refine x_callS (As := [.int a1, .int (σ.1 0 0 8)]) (rest := []) (st1 := [.int (fA_isBelow a1 (σ.1 0 0 8))]) C hw (cA_isBelow l E σ τ a1 (σ.1 0 0 8)) kA_97 (by decide) rfl rfl hl.1 (lv_room (Nat.le_of_ble_eq_true rfl)) dA_telling_5 ⟨by decide, by decide⟩ rfl (fun H locs hw => ?_)
  refine lv_if_ne (tgt := 13) hx hb dA_telling_8 (by decide) (fun c2 => ?_) (fun c2 => ?_)
  · replace hf := x_in c2 hf
    refine lv_aload_n hx hb dA_telling_13 rfl (lv_at hl 0 rfl) ?_
    refine x_get C hw 0 0 7 (v := .ref (E.2.2.1 8 0)) at_0 rfl rfl ⟨by decide, by decide⟩ wA_49 rfl dA_telling_14 ?_
    refine lv_iload_n hx hb dA_telling_17 rfl (lv_at hl 1 rfl) ?_
    obtain ⟨g3, hf⟩ := x_g hf
    refine x_ald8 C hw g3 dA_telling_18 ?_
    have g4 := x_lt g3
    refine lv_astore_n (lv' := [(3, .ref (E.2.2.1 16 a1.toNatClampNeg)), (0, .ref (E.2.2.1 0 0)), (1, .int a1), (2, .int a2)]) hx hb dA_telling_19 rfl hl (by decide) rfl (fun ls hl => ?_)
    refine lv_iload_n hx hb dA_telling_20 rfl (lv_at hl 3 rfl) ?_
    by_cases c5 : a2 = 0
    · replace hf := x_ip c5 hf
      refine lv_tableIn (tgt := 56) hx hb dA_telling_21 (by rw [c5]; decide) (by rw [c5]; decide) (by rw [c5]; rfl) (by decide) ?_
      refine lv_aload_n hx hb dA_telling_56 rfl (lv_at hl 0 rfl) ?_
      refine x_getN C hw 16 a1.toNatClampNeg 0 (v := .ref (E.2.2.1 17 a1.toNatClampNeg)) (at_16 g4) rfl rfl ⟨by decide, by decide⟩ wA_249 rfl dA_telling_57 ?_
      obtain ⟨g6, hf⟩ := x_g hf
      refine x_getN C hw 17 a1.toNatClampNeg 0 (v := .int (σ.1 17 a1.toNatClampNeg 0)) (at_17 g6) rfl rfl ⟨by decide, by decide⟩ wA_170 rfl dA_telling_60 ?_
      obtain rfl := Option.some.inj hf
      exact x_iret C hw dA_telling_63
    · replace hf := x_in c5 hf
      by_cases c7 : a2 = 1
      · replace hf := x_ip c7 hf
        refine lv_tableIn (tgt := 64) hx hb dA_telling_21 (by rw [c7]; decide) (by rw [c7]; decide) (by rw [c7]; rfl) (by decide) ?_
        refine lv_aload_n hx hb dA_telling_64 rfl (lv_at hl 0 rfl) ?_
        refine x_getN C hw 16 a1.toNatClampNeg 0 (v := .ref (E.2.2.1 17 a1.toNatClampNeg)) (at_16 g4) rfl rfl ⟨by decide, by decide⟩ wA_249 rfl dA_telling_65 ?_
        obtain ⟨g8, hf⟩ := x_g hf
        refine x_getN C hw 17 a1.toNatClampNeg 1 (v := .int (σ.1 17 a1.toNatClampNeg 1)) (at_17 g8) rfl rfl ⟨by decide, by decide⟩ wA_173 rfl dA_telling_68 ?_
        obtain rfl := Option.some.inj hf
        exact x_iret C hw dA_telling_71
      · replace hf := x_in c7 hf
        by_cases c9 : a2 = 2
        · replace hf := x_ip c9 hf
          refine lv_tableIn (tgt := 72) hx hb dA_telling_21 (by rw [c9]; decide) (by rw [c9]; decide) (by rw [c9]; rfl) (by decide) ?_
          refine lv_aload_n hx hb dA_telling_72 rfl (lv_at hl 0 rfl) ?_
          refine x_getN C hw 16 a1.toNatClampNeg 1 (v := .ref (E.2.2.1 18 a1.toNatClampNeg)) (at_16 g4) rfl rfl ⟨by decide, by decide⟩ wA_211 rfl dA_telling_73 ?_
          obtain ⟨g10, hf⟩ := x_g hf
          refine x_getN C hw 18 a1.toNatClampNeg 2 (v := .int (σ.1 18 a1.toNatClampNeg 2)) (at_18 g10) rfl rfl ⟨by decide, by decide⟩ wA_214 rfl dA_telling_76 ?_
          obtain rfl := Option.some.inj hf
          exact x_iret C hw dA_telling_79
        · replace hf := x_in c9 hf
          by_cases c11 : a2 = 3
          · replace hf := x_ip c11 hf
            refine lv_tableIn (tgt := 80) hx hb dA_telling_21 (by rw [c11]; decide) (by rw [c11]; decide) (by rw [c11]; rfl) (by decide) ?_
            refine lv_aload_n hx hb dA_telling_80 rfl (lv_at hl 0 rfl) ?_
            refine x_getN C hw 16 a1.toNatClampNeg 3 (v := .int (σ.1 16 a1.toNatClampNeg 3)) (at_16 g4) rfl rfl ⟨by decide, by decide⟩ wA_252 rfl dA_telling_81 ?_
            obtain rfl := Option.some.inj hf
            exact x_iret C hw dA_telling_84
          · replace hf := x_in c11 hf
            by_cases c12 : a2 = 4
            · replace hf := x_ip c12 hf
              refine lv_tableIn (tgt := 85) hx hb dA_telling_21 (by rw [c12]; decide) (by rw [c12]; decide) (by rw [c12]; rfl) (by decide) ?_
              refine lv_aload_n hx hb dA_telling_85 rfl (lv_at hl 0 rfl) ?_
              refine x_getN C hw 16 a1.toNatClampNeg 4 (v := .int (σ.1 16 a1.toNatClampNeg 4)) (at_16 g4) rfl rfl ⟨by decide, by decide⟩ wA_255 rfl dA_telling_86 ?_
              refine lv_if_eq (tgt := 96) hx hb dA_telling_89 (by decide) (fun c13 => ?_) (fun c13 => ?_)
              · replace hf := x_ip c13 hf
                refine lv_iconst (v := 1) hx hb dA_telling_96 (by decide) ?_
                obtain rfl := Option.some.inj hf
                exact x_iret C hw dA_telling_97
              · replace hf := x_in c13 hf
                refine lv_iconst (v := 0) hx hb dA_telling_92 (by decide) ?_
                refine lv_goto (tgt := 97) hx hb dA_telling_93 (by decide) ?_
                obtain rfl := Option.some.inj hf
                exact x_iret C hw dA_telling_97
            · replace hf := x_in c12 hf
              refine lv_tableOut (tgt := 98) hx hb dA_telling_21 (by have nc5 := lv_neT c5 (a := 0) (by decide); have nc7 := lv_neT c7 (a := 1) (by decide); have nc9 := lv_neT c9 (a := 2) (by decide); have nc11 := lv_neT c11 (a := 3) (by decide); have nc12 := lv_neT c12 (a := 4) (by decide); omega) (by decide) ?_
              refine lv_iconst (v := (-1)) hx hb dA_telling_98 (by decide) ?_
              obtain rfl := Option.some.inj hf
              exact x_iret C hw dA_telling_99
  · replace hf := x_ip c2 hf
    refine lv_iconst (v := (-1)) hx hb dA_telling_11 (by decide) ?_
    obtain rfl := Option.some.inj hf
    exact x_iret C hw dA_telling_12
-- StandIns found (I)I
set_option maxRecDepth 100000 in
theorem dA_found_0 : decode bA_found 0 = .ok (.aload_n 0, 1) := by decide +kernel
set_option maxRecDepth 100000 in
theorem dA_found_1 : decode bA_found 1 = .ok (.getfield 59, 3) := by decide +kernel
set_option maxRecDepth 100000 in
theorem dA_found_4 : decode bA_found 4 = .ok (.getfield 258, 3) := by decide +kernel
set_option maxRecDepth 100000 in
theorem dA_found_7 : decode bA_found 7 = .ok (.ifCond .eq 7, 3) := by decide +kernel
set_option maxRecDepth 100000 in
theorem dA_found_10 : decode bA_found 10 = .ok (.iload_n 1, 1) := by decide +kernel
set_option maxRecDepth 100000 in
theorem dA_found_11 : decode bA_found 11 = .ok (.ifCond .ge 5, 3) := by decide +kernel
set_option maxRecDepth 100000 in
theorem dA_found_14 : decode bA_found 14 = .ok (.iconst (-1), 1) := by decide +kernel
set_option maxRecDepth 100000 in
theorem dA_found_15 : decode bA_found 15 = .ok (.ireturn, 1) := by decide +kernel
set_option maxRecDepth 100000 in
theorem dA_found_16 : decode bA_found 16 = .ok (.iload_n 1, 1) := by decide +kernel
set_option maxRecDepth 100000 in
theorem dA_found_17 : decode bA_found 17 = .ok (.ifCond .ne 19, 3) := by decide +kernel
set_option maxRecDepth 100000 in
theorem dA_found_20 : decode bA_found 20 = .ok (.aload_n 0, 1) := by decide +kernel
set_option maxRecDepth 100000 in
theorem dA_found_21 : decode bA_found 21 = .ok (.getfield 59, 3) := by decide +kernel
set_option maxRecDepth 100000 in
theorem dA_found_24 : decode bA_found 24 = .ok (.getfield 261, 3) := by decide +kernel
set_option maxRecDepth 100000 in
theorem dA_found_27 : decode bA_found 27 = .ok (.ifCond .eq 7, 3) := by decide +kernel
set_option maxRecDepth 100000 in
theorem dA_found_30 : decode bA_found 30 = .ok (.iconst 1, 1) := by decide +kernel
set_option maxRecDepth 100000 in
theorem dA_found_31 : decode bA_found 31 = .ok (.goto 4, 3) := by decide +kernel
set_option maxRecDepth 100000 in
theorem dA_found_34 : decode bA_found 34 = .ok (.iconst 0, 1) := by decide +kernel
set_option maxRecDepth 100000 in
theorem dA_found_35 : decode bA_found 35 = .ok (.ireturn, 1) := by decide +kernel
set_option maxRecDepth 100000 in
theorem dA_found_36 : decode bA_found 36 = .ok (.iload_n 1, 1) := by decide +kernel
set_option maxRecDepth 100000 in
theorem dA_found_37 : decode bA_found 37 = .ok (.iconst 1, 1) := by decide +kernel
set_option maxRecDepth 100000 in
theorem dA_found_38 : decode bA_found 38 = .ok (.if_icmp .ne 11, 3) := by decide +kernel
set_option maxRecDepth 100000 in
theorem dA_found_41 : decode bA_found 41 = .ok (.aload_n 0, 1) := by decide +kernel
set_option maxRecDepth 100000 in
theorem dA_found_42 : decode bA_found 42 = .ok (.getfield 59, 3) := by decide +kernel
set_option maxRecDepth 100000 in
theorem dA_found_45 : decode bA_found 45 = .ok (.getfield 264, 3) := by decide +kernel
set_option maxRecDepth 100000 in
theorem dA_found_48 : decode bA_found 48 = .ok (.ireturn, 1) := by decide +kernel
set_option maxRecDepth 100000 in
theorem dA_found_49 : decode bA_found 49 = .ok (.iload_n 1, 1) := by decide +kernel
set_option maxRecDepth 100000 in
theorem dA_found_50 : decode bA_found 50 = .ok (.iconst 2, 1) := by decide +kernel
set_option maxRecDepth 100000 in
theorem dA_found_51 : decode bA_found 51 = .ok (.isub, 1) := by decide +kernel
set_option maxRecDepth 100000 in
theorem dA_found_52 : decode bA_found 52 = .ok (.aload_n 0, 1) := by decide +kernel
set_option maxRecDepth 100000 in
theorem dA_found_53 : decode bA_found 53 = .ok (.getfield 59, 3) := by decide +kernel
set_option maxRecDepth 100000 in
theorem dA_found_56 : decode bA_found 56 = .ok (.getfield 264, 3) := by decide +kernel
set_option maxRecDepth 100000 in
theorem dA_found_59 : decode bA_found 59 = .ok (.invokestatic 97, 3) := by decide +kernel
set_option maxRecDepth 100000 in
theorem dA_found_62 : decode bA_found 62 = .ok (.ifCond .eq 17, 3) := by decide +kernel
set_option maxRecDepth 100000 in
theorem dA_found_65 : decode bA_found 65 = .ok (.aload_n 0, 1) := by decide +kernel
set_option maxRecDepth 100000 in
theorem dA_found_66 : decode bA_found 66 = .ok (.getfield 59, 3) := by decide +kernel
set_option maxRecDepth 100000 in
theorem dA_found_69 : decode bA_found 69 = .ok (.getfield 265, 3) := by decide +kernel
set_option maxRecDepth 100000 in
theorem dA_found_72 : decode bA_found 72 = .ok (.iload_n 1, 1) := by decide +kernel
set_option maxRecDepth 100000 in
theorem dA_found_73 : decode bA_found 73 = .ok (.iconst 2, 1) := by decide +kernel
set_option maxRecDepth 100000 in
theorem dA_found_74 : decode bA_found 74 = .ok (.isub, 1) := by decide +kernel
set_option maxRecDepth 100000 in
theorem dA_found_75 : decode bA_found 75 = .ok (.iaload, 1) := by decide +kernel
set_option maxRecDepth 100000 in
theorem dA_found_76 : decode bA_found 76 = .ok (.goto 4, 3) := by decide +kernel
set_option maxRecDepth 100000 in
theorem dA_found_79 : decode bA_found 79 = .ok (.iconst (-1), 1) := by decide +kernel
set_option maxRecDepth 100000 in
theorem dA_found_80 : decode bA_found 80 = .ok (.ireturn, 1) := by decide +kernel
def fA_found (σ : xS) (a1 : Int32) : Option (Int32) :=
  if (σ.1 9 0 3) = 0 then
  (some (-1))
  else
  (if 0 ≤ a1 then
  (if a1 = 0 then
  (if (σ.1 9 0 4) = 0 then
  (some 0)
  else
  (some 1))
  else
  (if a1 = 1 then
  (some (σ.1 9 0 2))
  else
  (if (fA_isBelow (a1 - 2) (σ.1 9 0 2)) = 0 then
  (some (-1))
  else
  (if ¬ ((a1 - 2) < 0 ∨ 40 ≤ (a1 - 2).toNatClampNeg) then
  some (σ.1 11 0 ((a1 - 2).toNatClampNeg))
  else none))))
  else
  (some (-1)))
set_option maxHeartbeats 4000000 in
set_option maxRecDepth 100000 in
theorem cA_found (l : Launch) (E : xE) (σ : xS) (τ : yS) (a1 : Int32) (res : Int32) (hf : fA_found σ a1 = some res) : xM l E yA_found bA_found 2 (some .int) 1 0 0 [.ref (E.2.2.1 0 0), .int a1] σ τ (some (.int res)) σ τ := by
  refine x_met (by decide) (Nat.le_of_ble_eq_true rfl) (fun p e R s m args below meth c A ls H locs C hw hl => ?_)
  have hl : lv_has ls 2 [(0, .ref (E.2.2.1 0 0)), (1, .int a1)] := hl
  have hx := C.1
  have hb := C.2.1
  unfold fA_found at hf
  refine lv_aload_n hx hb dA_found_0 rfl (lv_at hl 0 rfl) ?_
  refine x_get C hw 0 0 9 (v := .ref (E.2.2.1 9 0)) at_0 rfl rfl ⟨by decide, by decide⟩ wA_59 rfl dA_found_1 ?_
  refine x_getN C hw 9 0 3 (v := .int (σ.1 9 0 3)) at_9 rfl rfl ⟨by decide, by decide⟩ wA_258 rfl dA_found_4 ?_
  refine lv_if_eq (tgt := 14) hx hb dA_found_7 (by decide) (fun c1 => ?_) (fun c1 => ?_)
  · replace hf := x_ip c1 hf
    refine lv_iconst (v := (-1)) hx hb dA_found_14 (by decide) ?_
    obtain rfl := Option.some.inj hf
    exact x_iret C hw dA_found_15
  · replace hf := x_in c1 hf
    refine lv_iload_n hx hb dA_found_10 rfl (lv_at hl 1 rfl) ?_
    refine lv_if_ge (tgt := 16) hx hb dA_found_11 (by decide) (fun c2 => ?_) (fun c2 => ?_)
    · replace hf := x_ip c2 hf
      refine lv_iload_n hx hb dA_found_16 rfl (lv_at hl 1 rfl) ?_
      refine lv_if_ne (tgt := 36) hx hb dA_found_17 (by decide) (fun c3 => ?_) (fun c3 => ?_)
      · replace hf := x_in c3 hf
        refine lv_iload_n hx hb dA_found_36 rfl (lv_at hl 1 rfl) ?_
        refine lv_iconst (v := 1) hx hb dA_found_37 (by decide) ?_
        refine lv_icmp_ne (tgt := 49) hx hb dA_found_38 (by decide) (fun c4 => ?_) (fun c4 => ?_)
        · replace hf := x_in c4 hf
          refine lv_iload_n hx hb dA_found_49 rfl (lv_at hl 1 rfl) ?_
          refine lv_iconst (v := 2) hx hb dA_found_50 (by decide) ?_
          refine lv_isub hx hb dA_found_51 ?_
          refine lv_aload_n hx hb dA_found_52 rfl (lv_at hl 0 rfl) ?_
          refine x_get C hw 0 0 9 (v := .ref (E.2.2.1 9 0)) at_0 rfl rfl ⟨by decide, by decide⟩ wA_59 rfl dA_found_53 ?_
          refine x_getN C hw 9 0 2 (v := .int (σ.1 9 0 2)) at_9 rfl rfl ⟨by decide, by decide⟩ wA_264 rfl dA_found_56 ?_
          refine x_callS (As := [.int (a1 - 2), .int (σ.1 9 0 2)]) (rest := []) (st1 := [.int (fA_isBelow (a1 - 2) (σ.1 9 0 2))]) C hw (cA_isBelow l E σ τ (a1 - 2) (σ.1 9 0 2)) kA_97 (by decide) rfl rfl hl.1 (lv_room (Nat.le_of_ble_eq_true rfl)) dA_found_59 ⟨by decide, by decide⟩ rfl (fun H locs hw => ?_)
          refine lv_if_eq (tgt := 79) hx hb dA_found_62 (by decide) (fun c6 => ?_) (fun c6 => ?_)
          · replace hf := x_ip c6 hf
            refine lv_iconst (v := (-1)) hx hb dA_found_79 (by decide) ?_
            obtain rfl := Option.some.inj hf
            exact x_iret C hw dA_found_80
          · replace hf := x_in c6 hf
            refine lv_aload_n hx hb dA_found_65 rfl (lv_at hl 0 rfl) ?_
            refine x_get C hw 0 0 9 (v := .ref (E.2.2.1 9 0)) at_0 rfl rfl ⟨by decide, by decide⟩ wA_59 rfl dA_found_66 ?_
            refine x_getN C hw 9 0 1 (v := .ref (E.2.2.1 11 0)) at_9 rfl rfl ⟨by decide, by decide⟩ wA_265 rfl dA_found_69 ?_
            refine lv_iload_n hx hb dA_found_72 rfl (lv_at hl 1 rfl) ?_
            refine lv_iconst (v := 2) hx hb dA_found_73 (by decide) ?_
            refine lv_isub hx hb dA_found_74 ?_
            obtain ⟨g7, hf⟩ := x_g hf
            refine x_ild C hw 11 0 at_11 rfl g7 dA_found_75 ?_
            refine lv_goto (tgt := 80) hx hb dA_found_76 (by decide) ?_
            obtain rfl := Option.some.inj hf
            exact x_iret C hw dA_found_80
        · replace hf := x_ip c4 hf
          refine lv_aload_n hx hb dA_found_41 rfl (lv_at hl 0 rfl) ?_
          refine x_get C hw 0 0 9 (v := .ref (E.2.2.1 9 0)) at_0 rfl rfl ⟨by decide, by decide⟩ wA_59 rfl dA_found_42 ?_
          refine x_getN C hw 9 0 2 (v := .int (σ.1 9 0 2)) at_9 rfl rfl ⟨by decide, by decide⟩ wA_264 rfl dA_found_45 ?_
          obtain rfl := Option.some.inj hf
          exact x_iret C hw dA_found_48
      · replace hf := x_ip c3 hf
        refine lv_aload_n hx hb dA_found_20 rfl (lv_at hl 0 rfl) ?_
        refine x_get C hw 0 0 9 (v := .ref (E.2.2.1 9 0)) at_0 rfl rfl ⟨by decide, by decide⟩ wA_59 rfl dA_found_21 ?_
        refine x_getN C hw 9 0 4 (v := .int (σ.1 9 0 4)) at_9 rfl rfl ⟨by decide, by decide⟩ wA_261 rfl dA_found_24 ?_
        refine lv_if_eq (tgt := 34) hx hb dA_found_27 (by decide) (fun c8 => ?_) (fun c8 => ?_)
        · replace hf := x_ip c8 hf
          refine lv_iconst (v := 0) hx hb dA_found_34 (by decide) ?_
          obtain rfl := Option.some.inj hf
          exact x_iret C hw dA_found_35
        · replace hf := x_in c8 hf
          refine lv_iconst (v := 1) hx hb dA_found_30 (by decide) ?_
          refine lv_goto (tgt := 35) hx hb dA_found_31 (by decide) ?_
          obtain rfl := Option.some.inj hf
          exact x_iret C hw dA_found_35
    · replace hf := x_in c2 hf
      refine lv_iconst (v := (-1)) hx hb dA_found_14 (by decide) ?_
      obtain rfl := Option.some.inj hf
      exact x_iret C hw dA_found_15
-- StandIns$Catches beforeLatest (I)I
set_option maxRecDepth 100000 in
theorem dC_beforeLatest_0 : decode bC_beforeLatest 0 = .ok (.aload_n 0, 1) := by decide +kernel
set_option maxRecDepth 100000 in
theorem dC_beforeLatest_1 : decode bC_beforeLatest 1 = .ok (.getfield 15, 3) := by decide +kernel
set_option maxRecDepth 100000 in
theorem dC_beforeLatest_4 : decode bC_beforeLatest 4 = .ok (.iconst 1, 1) := by decide +kernel
set_option maxRecDepth 100000 in
theorem dC_beforeLatest_5 : decode bC_beforeLatest 5 = .ok (.isub, 1) := by decide +kernel
set_option maxRecDepth 100000 in
theorem dC_beforeLatest_6 : decode bC_beforeLatest 6 = .ok (.iload_n 1, 1) := by decide +kernel
set_option maxRecDepth 100000 in
theorem dC_beforeLatest_7 : decode bC_beforeLatest 7 = .ok (.isub, 1) := by decide +kernel
set_option maxRecDepth 100000 in
theorem dC_beforeLatest_8 : decode bC_beforeLatest 8 = .ok (.istore_n 2, 1) := by decide +kernel
set_option maxRecDepth 100000 in
theorem dC_beforeLatest_9 : decode bC_beforeLatest 9 = .ok (.aload_n 0, 1) := by decide +kernel
set_option maxRecDepth 100000 in
theorem dC_beforeLatest_10 : decode bC_beforeLatest 10 = .ok (.getfield 9, 3) := by decide +kernel
set_option maxRecDepth 100000 in
theorem dC_beforeLatest_13 : decode bC_beforeLatest 13 = .ok (.iload_n 2, 1) := by decide +kernel
set_option maxRecDepth 100000 in
theorem dC_beforeLatest_14 : decode bC_beforeLatest 14 = .ok (.ifCond .lt 7, 3) := by decide +kernel
set_option maxRecDepth 100000 in
theorem dC_beforeLatest_17 : decode bC_beforeLatest 17 = .ok (.iload_n 2, 1) := by decide +kernel
set_option maxRecDepth 100000 in
theorem dC_beforeLatest_18 : decode bC_beforeLatest 18 = .ok (.goto 7, 3) := by decide +kernel
set_option maxRecDepth 100000 in
theorem dC_beforeLatest_21 : decode bC_beforeLatest 21 = .ok (.iload_n 2, 1) := by decide +kernel
set_option maxRecDepth 100000 in
theorem dC_beforeLatest_22 : decode bC_beforeLatest 22 = .ok (.bipush 12, 2) := by decide +kernel
set_option maxRecDepth 100000 in
theorem dC_beforeLatest_24 : decode bC_beforeLatest 24 = .ok (.iadd, 1) := by decide +kernel
set_option maxRecDepth 100000 in
theorem dC_beforeLatest_25 : decode bC_beforeLatest 25 = .ok (.iaload, 1) := by decide +kernel
set_option maxRecDepth 100000 in
theorem dC_beforeLatest_26 : decode bC_beforeLatest 26 = .ok (.ireturn, 1) := by decide +kernel
def fC_beforeLatest (σ : xS) (a1 : Int32) : Option (Int32) :=
  if (((σ.1 12 0 1) - 1) - a1) < 0 then
  (if ¬ (((((σ.1 12 0 1) - 1) - a1) + 12) < 0 ∨ 12 ≤ ((((σ.1 12 0 1) - 1) - a1) + 12).toNatClampNeg) then
  some (σ.1 13 0 (((((σ.1 12 0 1) - 1) - a1) + 12).toNatClampNeg))
  else none)
  else
  (if ¬ ((((σ.1 12 0 1) - 1) - a1) < 0 ∨ 12 ≤ (((σ.1 12 0 1) - 1) - a1).toNatClampNeg) then
  some (σ.1 13 0 ((((σ.1 12 0 1) - 1) - a1).toNatClampNeg))
  else none)
set_option maxHeartbeats 4000000 in
set_option maxRecDepth 100000 in
theorem cC_beforeLatest (l : Launch) (E : xE) (σ : xS) (τ : yS) (a1 : Int32) (res : Int32) (hf : fC_beforeLatest σ a1 = some res) : xM l E yC_beforeLatest bC_beforeLatest 3 (some .int) 0 0 0 [.ref (E.2.2.1 12 0), .int a1] σ τ (some (.int res)) σ τ := by
  refine x_met (by decide) (Nat.le_of_ble_eq_true rfl) (fun p e R s m args below meth c A ls H locs C hw hl => ?_)
  have hl : lv_has ls 3 [(0, .ref (E.2.2.1 12 0)), (1, .int a1)] := hl
  have hx := C.1
  have hb := C.2.1
  unfold fC_beforeLatest at hf
  refine lv_aload_n hx hb dC_beforeLatest_0 rfl (lv_at hl 0 rfl) ?_
  refine x_get C hw 12 0 1 (v := .int (σ.1 12 0 1)) at_12 rfl rfl ⟨by decide, by decide⟩ wC_15 rfl dC_beforeLatest_1 ?_
  refine lv_iconst (v := 1) hx hb dC_beforeLatest_4 (by decide) ?_
  refine lv_isub hx hb dC_beforeLatest_5 ?_
  refine lv_iload_n hx hb dC_beforeLatest_6 rfl (lv_at hl 1 rfl) ?_
  refine lv_isub hx hb dC_beforeLatest_7 ?_
  refine lv_istore_n (lv' := [(2, .int (((σ.1 12 0 1) - 1) - a1)), (0, .ref (E.2.2.1 12 0)), (1, .int a1)]) hx hb dC_beforeLatest_8 rfl hl (by decide) rfl (fun ls hl => ?_)
  refine lv_aload_n hx hb dC_beforeLatest_9 rfl (lv_at hl 1 rfl) ?_
  refine x_get C hw 12 0 0 (v := .ref (E.2.2.1 13 0)) at_12 rfl rfl ⟨by decide, by decide⟩ wC_9 rfl dC_beforeLatest_10 ?_
  refine lv_iload_n hx hb dC_beforeLatest_13 rfl (lv_at hl 0 rfl) ?_
  refine lv_if_lt (tgt := 21) hx hb dC_beforeLatest_14 (by decide) (fun c1 => ?_) (fun c1 => ?_)
  · replace hf := x_ip c1 hf
    refine lv_iload_n hx hb dC_beforeLatest_21 rfl (lv_at hl 0 rfl) ?_
    refine lv_bipush (v := 12) hx hb dC_beforeLatest_22 (by decide) ?_
    refine lv_iadd hx hb dC_beforeLatest_24 ?_
    obtain ⟨g2, hf⟩ := x_g hf
    refine x_ild C hw 13 0 at_13 rfl g2 dC_beforeLatest_25 ?_
    obtain rfl := Option.some.inj hf
    exact x_iret C hw dC_beforeLatest_26
  · replace hf := x_in c1 hf
    refine lv_iload_n hx hb dC_beforeLatest_17 rfl (lv_at hl 0 rfl) ?_
    refine lv_goto (tgt := 25) hx hb dC_beforeLatest_18 (by decide) ?_
    obtain ⟨g3, hf⟩ := x_g hf
    refine x_ild C hw 13 0 at_13 rfl g3 dC_beforeLatest_25 ?_
    obtain rfl := Option.some.inj hf
    exact x_iret C hw dC_beforeLatest_26
-- StandIns caught (I)I
set_option maxRecDepth 100000 in
theorem dA_caught_0 : decode bA_caught 0 = .ok (.iload_n 1, 1) := by decide +kernel
set_option maxRecDepth 100000 in
theorem dA_caught_1 : decode bA_caught 1 = .ok (.aload_n 0, 1) := by decide +kernel
set_option maxRecDepth 100000 in
theorem dA_caught_2 : decode bA_caught 2 = .ok (.getfield 66, 3) := by decide +kernel
set_option maxRecDepth 100000 in
theorem dA_caught_5 : decode bA_caught 5 = .ok (.getfield 268, 3) := by decide +kernel
set_option maxRecDepth 100000 in
theorem dA_caught_8 : decode bA_caught 8 = .ok (.invokestatic 97, 3) := by decide +kernel
set_option maxRecDepth 100000 in
theorem dA_caught_11 : decode bA_caught 11 = .ok (.ifCond .eq 14, 3) := by decide +kernel
set_option maxRecDepth 100000 in
theorem dA_caught_14 : decode bA_caught 14 = .ok (.aload_n 0, 1) := by decide +kernel
set_option maxRecDepth 100000 in
theorem dA_caught_15 : decode bA_caught 15 = .ok (.getfield 66, 3) := by decide +kernel
set_option maxRecDepth 100000 in
theorem dA_caught_18 : decode bA_caught 18 = .ok (.iload_n 1, 1) := by decide +kernel
set_option maxRecDepth 100000 in
theorem dA_caught_19 : decode bA_caught 19 = .ok (.invokevirtual 271, 3) := by decide +kernel
set_option maxRecDepth 100000 in
theorem dA_caught_22 : decode bA_caught 22 = .ok (.goto 4, 3) := by decide +kernel
set_option maxRecDepth 100000 in
theorem dA_caught_25 : decode bA_caught 25 = .ok (.iconst (-1), 1) := by decide +kernel
set_option maxRecDepth 100000 in
theorem dA_caught_26 : decode bA_caught 26 = .ok (.ireturn, 1) := by decide +kernel
def fA_caught (σ : xS) (a1 : Int32) : Option (Int32) :=
  if (fA_isBelow a1 (σ.1 12 0 2)) = 0 then
  (some (-1))
  else
  (xp (fC_beforeLatest σ a1) fun r4 =>
  some r4)
set_option maxHeartbeats 4000000 in
set_option maxRecDepth 100000 in
theorem cA_caught (l : Launch) (E : xE) (σ : xS) (τ : yS) (a1 : Int32) (res : Int32) (hf : fA_caught σ a1 = some res) : xM l E yA_caught bA_caught 2 (some .int) 1 0 0 [.ref (E.2.2.1 0 0), .int a1] σ τ (some (.int res)) σ τ := by
  refine x_met (by decide) (Nat.le_of_ble_eq_true rfl) (fun p e R s m args below meth c A ls H locs C hw hl => ?_)
  have hl : lv_has ls 2 [(0, .ref (E.2.2.1 0 0)), (1, .int a1)] := hl
  have hx := C.1
  have hb := C.2.1
  unfold fA_caught at hf
  refine lv_iload_n hx hb dA_caught_0 rfl (lv_at hl 1 rfl) ?_
  refine lv_aload_n hx hb dA_caught_1 rfl (lv_at hl 0 rfl) ?_
  refine x_get C hw 0 0 10 (v := .ref (E.2.2.1 12 0)) at_0 rfl rfl ⟨by decide, by decide⟩ wA_66 rfl dA_caught_2 ?_
  refine x_getN C hw 12 0 2 (v := .int (σ.1 12 0 2)) at_12 rfl rfl ⟨by decide, by decide⟩ wA_268 rfl dA_caught_5 ?_
  refine x_callS (As := [.int a1, .int (σ.1 12 0 2)]) (rest := []) (st1 := [.int (fA_isBelow a1 (σ.1 12 0 2))]) C hw (cA_isBelow l E σ τ a1 (σ.1 12 0 2)) kA_97 (by decide) rfl rfl hl.1 (lv_room (Nat.le_of_ble_eq_true rfl)) dA_caught_8 ⟨by decide, by decide⟩ rfl (fun H locs hw => ?_)
  refine lv_if_eq (tgt := 25) hx hb dA_caught_11 (by decide) (fun c2 => ?_) (fun c2 => ?_)
  · replace hf := x_ip c2 hf
    refine lv_iconst (v := (-1)) hx hb dA_caught_25 (by decide) ?_
    obtain rfl := Option.some.inj hf
    exact x_iret C hw dA_caught_26
  · replace hf := x_in c2 hf
    refine lv_aload_n hx hb dA_caught_14 rfl (lv_at hl 0 rfl) ?_
    refine x_get C hw 0 0 10 (v := .ref (E.2.2.1 12 0)) at_0 rfl rfl ⟨by decide, by decide⟩ wA_66 rfl dA_caught_15 ?_
    refine lv_iload_n hx hb dA_caught_18 rfl (lv_at hl 1 rfl) ?_
    obtain ⟨r4, h3, hf⟩ := x_p hf
    refine x_callVN (As := [.int a1]) (rest := []) (st1 := [.int r4]) C hw (cC_beforeLatest l E σ τ a1 r4 h3) kA_271 (x_recv C hw 12 0 at_12 rfl rfl) (by decide) rfl rfl hl.1 (lv_room (Nat.le_of_ble_eq_true rfl)) dA_caught_19 ⟨by decide, by decide⟩ rfl (fun H locs hw => ?_)
    refine lv_goto (tgt := 26) hx hb dA_caught_22 (by decide) ?_
    obtain rfl := Option.some.inj hf
    exact x_iret C hw dA_caught_26
-- StandIns tellingsNeverUsed ()I
set_option maxRecDepth 100000 in
theorem dA_tellingsNeverUsed_0 : decode bA_tellingsNeverUsed 0 = .ok (.iconst 0, 1) := by decide +kernel
set_option maxRecDepth 100000 in
theorem dA_tellingsNeverUsed_1 : decode bA_tellingsNeverUsed 1 = .ok (.istore_n 1, 1) := by decide +kernel
set_option maxRecDepth 100000 in
theorem dA_tellingsNeverUsed_2 : decode bA_tellingsNeverUsed 2 = .ok (.iconst 0, 1) := by decide +kernel
set_option maxRecDepth 100000 in
theorem dA_tellingsNeverUsed_3 : decode bA_tellingsNeverUsed 3 = .ok (.istore_n 2, 1) := by decide +kernel
set_option maxRecDepth 100000 in
theorem dA_tellingsNeverUsed_4 : decode bA_tellingsNeverUsed 4 = .ok (.iload_n 2, 1) := by decide +kernel
set_option maxRecDepth 100000 in
theorem dA_tellingsNeverUsed_5 : decode bA_tellingsNeverUsed 5 = .ok (.aload_n 0, 1) := by decide +kernel
set_option maxRecDepth 100000 in
theorem dA_tellingsNeverUsed_6 : decode bA_tellingsNeverUsed 6 = .ok (.getfield 53, 3) := by decide +kernel
set_option maxRecDepth 100000 in
theorem dA_tellingsNeverUsed_9 : decode bA_tellingsNeverUsed 9 = .ok (.if_icmp .ge 39, 3) := by decide +kernel
set_option maxRecDepth 100000 in
theorem dA_tellingsNeverUsed_12 : decode bA_tellingsNeverUsed 12 = .ok (.aload_n 0, 1) := by decide +kernel
set_option maxRecDepth 100000 in
theorem dA_tellingsNeverUsed_13 : decode bA_tellingsNeverUsed 13 = .ok (.getfield 49, 3) := by decide +kernel
set_option maxRecDepth 100000 in
theorem dA_tellingsNeverUsed_16 : decode bA_tellingsNeverUsed 16 = .ok (.iload_n 2, 1) := by decide +kernel
set_option maxRecDepth 100000 in
theorem dA_tellingsNeverUsed_17 : decode bA_tellingsNeverUsed 17 = .ok (.aaload, 1) := by decide +kernel
set_option maxRecDepth 100000 in
theorem dA_tellingsNeverUsed_18 : decode bA_tellingsNeverUsed 18 = .ok (.getfield 211, 3) := by decide +kernel
set_option maxRecDepth 100000 in
theorem dA_tellingsNeverUsed_21 : decode bA_tellingsNeverUsed 21 = .ok (.getfield 214, 3) := by decide +kernel
set_option maxRecDepth 100000 in
theorem dA_tellingsNeverUsed_24 : decode bA_tellingsNeverUsed 24 = .ok (.ifCond .le 18, 3) := by decide +kernel
set_option maxRecDepth 100000 in
theorem dA_tellingsNeverUsed_27 : decode bA_tellingsNeverUsed 27 = .ok (.aload_n 0, 1) := by decide +kernel
set_option maxRecDepth 100000 in
theorem dA_tellingsNeverUsed_28 : decode bA_tellingsNeverUsed 28 = .ok (.getfield 49, 3) := by decide +kernel
set_option maxRecDepth 100000 in
theorem dA_tellingsNeverUsed_31 : decode bA_tellingsNeverUsed 31 = .ok (.iload_n 2, 1) := by decide +kernel
set_option maxRecDepth 100000 in
theorem dA_tellingsNeverUsed_32 : decode bA_tellingsNeverUsed 32 = .ok (.aaload, 1) := by decide +kernel
set_option maxRecDepth 100000 in
theorem dA_tellingsNeverUsed_33 : decode bA_tellingsNeverUsed 33 = .ok (.getfield 252, 3) := by decide +kernel
set_option maxRecDepth 100000 in
theorem dA_tellingsNeverUsed_36 : decode bA_tellingsNeverUsed 36 = .ok (.ifCond .ne 6, 3) := by decide +kernel
set_option maxRecDepth 100000 in
theorem dA_tellingsNeverUsed_39 : decode bA_tellingsNeverUsed 39 = .ok (.iinc 1 1, 3) := by decide +kernel
set_option maxRecDepth 100000 in
theorem dA_tellingsNeverUsed_42 : decode bA_tellingsNeverUsed 42 = .ok (.iinc 2 1, 3) := by decide +kernel
set_option maxRecDepth 100000 in
theorem dA_tellingsNeverUsed_45 : decode bA_tellingsNeverUsed 45 = .ok (.goto (-41), 3) := by decide +kernel
set_option maxRecDepth 100000 in
theorem dA_tellingsNeverUsed_48 : decode bA_tellingsNeverUsed 48 = .ok (.iload_n 1, 1) := by decide +kernel
set_option maxRecDepth 100000 in
theorem dA_tellingsNeverUsed_49 : decode bA_tellingsNeverUsed 49 = .ok (.ireturn, 1) := by decide +kernel
def fA_tellingsNeverUsed_42 (N : Nat) (rec4 : Int32 → Int32 → Option (Int32)) (σ : xS) (a1 : Int32) (a2 : Int32) : Option (Int32) :=
  rec4 a1 (a2 + 1)
def fA_tellingsNeverUsed_4b (N : Nat) (rec4 : Int32 → Int32 → Option (Int32)) (σ : xS) (a1 : Int32) (a2 : Int32) : Option (Int32) :=
  if (σ.1 0 0 8) ≤ a2 then
  (some a1)
  else
  (if ¬ (a2 < 0 ∨ 16 ≤ a2.toNatClampNeg) then
  if a2.toNatClampNeg < 17 then
  if (σ.1 18 a2.toNatClampNeg 2) ≤ 0 then
  (fA_tellingsNeverUsed_42 N rec4 σ a1 a2)
  else
  (if (σ.1 16 a2.toNatClampNeg 3) = 0 then
  (fA_tellingsNeverUsed_42 N rec4 σ (a1 + 1) a2)
  else
  (fA_tellingsNeverUsed_42 N rec4 σ a1 a2))
  else none
  else none)
def fA_tellingsNeverUsed_4 (N : Nat) (σ : xS) : Nat → Int32 → Int32 → Option (Int32)
  | 0, _, _ => none
  | n + 1, a1, a2 => fA_tellingsNeverUsed_4b N (fA_tellingsNeverUsed_4 N σ n) σ a1 a2
def fA_tellingsNeverUsed (N : Nat) (σ : xS) : Option (Int32) :=
  fA_tellingsNeverUsed_4 N σ N 0 0
set_option maxHeartbeats 4000000 in
set_option maxRecDepth 100000 in
theorem wA_tellingsNeverUsed_42 {p : Program} {l : Launch} {e : Env} {R : Room} {s : State} {m : MethodId} {args : Array Value} {below : List Frame} {meth : Method} {c : Code} {E : xE} {A : Nat → Prop} {τ : yS} (C : xC p s m args meth c R E A bA_tellingsNeverUsed 3 yA_tellingsNeverUsed (some .int) 0 0 0) (N : Nat) (σ : xS) (rec4 : Int32 → Int32 → Option (Int32)) (hrec4 : ∀ (a1 : Int32) (a2 : Int32) (res : Int32), rec4 a1 a2 = some res → ∀ (H : Heap) (locs : List Loc) (ls : Array Slot), xW E A s σ τ H locs → lv_has ls 3 [(0, .ref (E.2.2.1 0 0)), (1, .int a1), (2, .int a2)] → W p l e R s m args below meth c H locs 0 0 (MQ below (xQ E A (some (.int res)) σ τ) args s 0 0 A) (F0 m 4 ls [])) (a1 : Int32) (a2 : Int32) (res : Int32) (hf : fA_tellingsNeverUsed_42 N rec4 σ a1 a2 = some res) (H : Heap) (locs : List Loc) (ls : Array Slot) (hw : xW E A s σ τ H locs) (hl : lv_has ls 3 [(0, .ref (E.2.2.1 0 0)), (1, .int a1), (2, .int a2)]) : W p l e R s m args below meth c H locs 0 0 (MQ below (xQ E A (some (.int res)) σ τ) args s 0 0 A) (F0 m 42 ls []) := by
  have hx := C.1
  have hb := C.2.1
  unfold fA_tellingsNeverUsed_42 at hf
  refine lv_iinc (v := a2 + 1) (lv' := [(2, .int (a2 + 1)), (0, .ref (E.2.2.1 0 0)), (1, .int a1)]) hx hb dA_tellingsNeverUsed_42 hl (k := 2) rfl rfl (by decide) rfl (fun ls hl => ?_)
  refine lv_goto (tgt := 4) hx hb dA_tellingsNeverUsed_45 (by decide) ?_
  exact hrec4 a1 (a2 + 1) res hf H locs ls hw (lv_sub hl [1, 2, 0] rfl)
set_option maxHeartbeats 4000000 in
set_option maxRecDepth 100000 in
theorem wA_tellingsNeverUsed_4b {p : Program} {l : Launch} {e : Env} {R : Room} {s : State} {m : MethodId} {args : Array Value} {below : List Frame} {meth : Method} {c : Code} {E : xE} {A : Nat → Prop} {τ : yS} (C : xC p s m args meth c R E A bA_tellingsNeverUsed 3 yA_tellingsNeverUsed (some .int) 0 0 0) (N : Nat) (σ : xS) (rec4 : Int32 → Int32 → Option (Int32)) (hrec4 : ∀ (a1 : Int32) (a2 : Int32) (res : Int32), rec4 a1 a2 = some res → ∀ (H : Heap) (locs : List Loc) (ls : Array Slot), xW E A s σ τ H locs → lv_has ls 3 [(0, .ref (E.2.2.1 0 0)), (1, .int a1), (2, .int a2)] → W p l e R s m args below meth c H locs 0 0 (MQ below (xQ E A (some (.int res)) σ τ) args s 0 0 A) (F0 m 4 ls [])) (a1 : Int32) (a2 : Int32) (res : Int32) (hf : fA_tellingsNeverUsed_4b N rec4 σ a1 a2 = some res) (H : Heap) (locs : List Loc) (ls : Array Slot) (hw : xW E A s σ τ H locs) (hl : lv_has ls 3 [(0, .ref (E.2.2.1 0 0)), (1, .int a1), (2, .int a2)]) : W p l e R s m args below meth c H locs 0 0 (MQ below (xQ E A (some (.int res)) σ τ) args s 0 0 A) (F0 m 4 ls []) := by
  have hx := C.1
  have hb := C.2.1
  unfold fA_tellingsNeverUsed_4b at hf
  refine lv_iload_n hx hb dA_tellingsNeverUsed_4 rfl (lv_at hl 2 rfl) ?_
  refine lv_aload_n hx hb dA_tellingsNeverUsed_5 rfl (lv_at hl 0 rfl) ?_
  refine x_get C hw 0 0 8 (v := .int (σ.1 0 0 8)) at_0 rfl rfl ⟨by decide, by decide⟩ wA_53 rfl dA_tellingsNeverUsed_6 ?_
  refine lv_icmp_ge (tgt := 48) hx hb dA_tellingsNeverUsed_9 (by decide) (fun c7 => ?_) (fun c7 => ?_)
  · replace hf := x_ip c7 hf
    refine lv_iload_n hx hb dA_tellingsNeverUsed_48 rfl (lv_at hl 1 rfl) ?_
    obtain rfl := Option.some.inj hf
    exact x_iret C hw dA_tellingsNeverUsed_49
  · replace hf := x_in c7 hf
    refine lv_aload_n hx hb dA_tellingsNeverUsed_12 rfl (lv_at hl 0 rfl) ?_
    refine x_get C hw 0 0 7 (v := .ref (E.2.2.1 8 0)) at_0 rfl rfl ⟨by decide, by decide⟩ wA_49 rfl dA_tellingsNeverUsed_13 ?_
    refine lv_iload_n hx hb dA_tellingsNeverUsed_16 rfl (lv_at hl 2 rfl) ?_
    obtain ⟨g8, hf⟩ := x_g hf
    refine x_ald8 C hw g8 dA_tellingsNeverUsed_17 ?_
    have g9 := x_lt g8
    refine x_getN C hw 16 a2.toNatClampNeg 1 (v := .ref (E.2.2.1 18 a2.toNatClampNeg)) (at_16 g9) rfl rfl ⟨by decide, by decide⟩ wA_211 rfl dA_tellingsNeverUsed_18 ?_
    obtain ⟨g10, hf⟩ := x_g hf
    refine x_getN C hw 18 a2.toNatClampNeg 2 (v := .int (σ.1 18 a2.toNatClampNeg 2)) (at_18 g10) rfl rfl ⟨by decide, by decide⟩ wA_214 rfl dA_tellingsNeverUsed_21 ?_
    refine lv_if_le (tgt := 42) hx hb dA_tellingsNeverUsed_24 (by decide) (fun c11 => ?_) (fun c11 => ?_)
    · replace hf := x_ip c11 hf
      exact wA_tellingsNeverUsed_42 C N σ rec4 hrec4 a1 a2 res hf H locs ls hw (lv_sub hl [0, 1, 2] rfl)
    · replace hf := x_in c11 hf
      refine lv_aload_n hx hb dA_tellingsNeverUsed_27 rfl (lv_at hl 0 rfl) ?_
      refine x_get C hw 0 0 7 (v := .ref (E.2.2.1 8 0)) at_0 rfl rfl ⟨by decide, by decide⟩ wA_49 rfl dA_tellingsNeverUsed_28 ?_
      refine lv_iload_n hx hb dA_tellingsNeverUsed_31 rfl (lv_at hl 2 rfl) ?_
      refine x_ald8 C hw g8 dA_tellingsNeverUsed_32 ?_
      refine x_getN C hw 16 a2.toNatClampNeg 3 (v := .int (σ.1 16 a2.toNatClampNeg 3)) (at_16 g9) rfl rfl ⟨by decide, by decide⟩ wA_252 rfl dA_tellingsNeverUsed_33 ?_
      refine lv_if_ne (tgt := 42) hx hb dA_tellingsNeverUsed_36 (by decide) (fun c12 => ?_) (fun c12 => ?_)
      · replace hf := x_in c12 hf
        exact wA_tellingsNeverUsed_42 C N σ rec4 hrec4 a1 a2 res hf H locs ls hw (lv_sub hl [0, 1, 2] rfl)
      · replace hf := x_ip c12 hf
        refine lv_iinc (v := a1 + 1) (lv' := [(1, .int (a1 + 1)), (0, .ref (E.2.2.1 0 0)), (2, .int a2)]) hx hb dA_tellingsNeverUsed_39 hl (k := 1) rfl rfl (by decide) rfl (fun ls hl => ?_)
        exact wA_tellingsNeverUsed_42 C N σ rec4 hrec4 (a1 + 1) a2 res hf H locs ls hw (lv_sub hl [1, 0, 2] rfl)
set_option maxHeartbeats 4000000 in
set_option maxRecDepth 100000 in
theorem wA_tellingsNeverUsed_4 {p : Program} {l : Launch} {e : Env} {R : Room} {s : State} {m : MethodId} {args : Array Value} {below : List Frame} {meth : Method} {c : Code} {E : xE} {A : Nat → Prop} {τ : yS} (C : xC p s m args meth c R E A bA_tellingsNeverUsed 3 yA_tellingsNeverUsed (some .int) 0 0 0) (N : Nat) (σ : xS) (n : Nat) : ∀ (a1 : Int32) (a2 : Int32) (res : Int32), fA_tellingsNeverUsed_4 N σ n a1 a2 = some res → ∀ (H : Heap) (locs : List Loc) (ls : Array Slot), xW E A s σ τ H locs → lv_has ls 3 [(0, .ref (E.2.2.1 0 0)), (1, .int a1), (2, .int a2)] → W p l e R s m args below meth c H locs 0 0 (MQ below (xQ E A (some (.int res)) σ τ) args s 0 0 A) (F0 m 4 ls []) := by
  induction n with
  | zero => intro a1 a2 res hf; cases hf
  | succ n ih =>
    intro a1 a2 res hf H locs ls hw hl
    exact wA_tellingsNeverUsed_4b C N σ (fA_tellingsNeverUsed_4 N σ n) ih a1 a2 res hf H locs ls hw hl
set_option maxHeartbeats 4000000 in
set_option maxRecDepth 100000 in
theorem cA_tellingsNeverUsed (l : Launch) (E : xE) (N : Nat) (σ : xS) (τ : yS) (res : Int32) (hf : fA_tellingsNeverUsed N σ = some res) : xM l E yA_tellingsNeverUsed bA_tellingsNeverUsed 3 (some .int) 0 0 0 [.ref (E.2.2.1 0 0)] σ τ (some (.int res)) σ τ := by
  refine x_met (by decide) (Nat.le_of_ble_eq_true rfl) (fun p e R s m args below meth c A ls H locs C hw hl => ?_)
  have hl : lv_has ls 3 [(0, .ref (E.2.2.1 0 0))] := hl
  have hx := C.1
  have hb := C.2.1
  unfold fA_tellingsNeverUsed at hf
  refine lv_iconst (v := 0) hx hb dA_tellingsNeverUsed_0 (by decide) ?_
  refine lv_istore_n (lv' := [(1, .int 0), (0, .ref (E.2.2.1 0 0))]) hx hb dA_tellingsNeverUsed_1 rfl hl (by decide) rfl (fun ls hl => ?_)
  refine lv_iconst (v := 0) hx hb dA_tellingsNeverUsed_2 (by decide) ?_
  refine lv_istore_n (lv' := [(2, .int 0), (1, .int 0), (0, .ref (E.2.2.1 0 0))]) hx hb dA_tellingsNeverUsed_3 rfl hl (by decide) rfl (fun ls hl => ?_)
  exact wA_tellingsNeverUsed_4 C N σ N 0 0 res hf H locs ls hw (lv_sub hl [2, 1, 0] rfl)
-- StandIns count (I)I
set_option maxRecDepth 100000 in
theorem dA_count_0 : decode bA_count 0 = .ok (.iload_n 1, 1) := by decide +kernel
set_option maxRecDepth 100000 in
theorem dA_count_1 : decode bA_count 1 = .ok (.tableswitch 117 0 9 #[55, 60, 68, 73, 78, 86, 91, 99, 107, 112], 55) := by decide +kernel
set_option maxRecDepth 100000 in
theorem dA_count_56 : decode bA_count 56 = .ok (.aload_n 0, 1) := by decide +kernel
set_option maxRecDepth 100000 in
theorem dA_count_57 : decode bA_count 57 = .ok (.getfield 22, 3) := by decide +kernel
set_option maxRecDepth 100000 in
theorem dA_count_60 : decode bA_count 60 = .ok (.ireturn, 1) := by decide +kernel
set_option maxRecDepth 100000 in
theorem dA_count_61 : decode bA_count 61 = .ok (.aload_n 0, 1) := by decide +kernel
set_option maxRecDepth 100000 in
theorem dA_count_62 : decode bA_count 62 = .ok (.getfield 43, 3) := by decide +kernel
set_option maxRecDepth 100000 in
theorem dA_count_65 : decode bA_count 65 = .ok (.getfield 225, 3) := by decide +kernel
set_option maxRecDepth 100000 in
theorem dA_count_68 : decode bA_count 68 = .ok (.ireturn, 1) := by decide +kernel
set_option maxRecDepth 100000 in
theorem dA_count_69 : decode bA_count 69 = .ok (.aload_n 0, 1) := by decide +kernel
set_option maxRecDepth 100000 in
theorem dA_count_70 : decode bA_count 70 = .ok (.getfield 53, 3) := by decide +kernel
set_option maxRecDepth 100000 in
theorem dA_count_73 : decode bA_count 73 = .ok (.ireturn, 1) := by decide +kernel
set_option maxRecDepth 100000 in
theorem dA_count_74 : decode bA_count 74 = .ok (.aload_n 0, 1) := by decide +kernel
set_option maxRecDepth 100000 in
theorem dA_count_75 : decode bA_count 75 = .ok (.invokevirtual 274, 3) := by decide +kernel
set_option maxRecDepth 100000 in
theorem dA_count_78 : decode bA_count 78 = .ok (.ireturn, 1) := by decide +kernel
set_option maxRecDepth 100000 in
theorem dA_count_79 : decode bA_count 79 = .ok (.aload_n 0, 1) := by decide +kernel
set_option maxRecDepth 100000 in
theorem dA_count_80 : decode bA_count 80 = .ok (.getfield 29, 3) := by decide +kernel
set_option maxRecDepth 100000 in
theorem dA_count_83 : decode bA_count 83 = .ok (.getfield 121, 3) := by decide +kernel
set_option maxRecDepth 100000 in
theorem dA_count_86 : decode bA_count 86 = .ok (.ireturn, 1) := by decide +kernel
set_option maxRecDepth 100000 in
theorem dA_count_87 : decode bA_count 87 = .ok (.aload_n 0, 1) := by decide +kernel
set_option maxRecDepth 100000 in
theorem dA_count_88 : decode bA_count 88 = .ok (.getfield 77, 3) := by decide +kernel
set_option maxRecDepth 100000 in
theorem dA_count_91 : decode bA_count 91 = .ok (.ireturn, 1) := by decide +kernel
set_option maxRecDepth 100000 in
theorem dA_count_92 : decode bA_count 92 = .ok (.aload_n 0, 1) := by decide +kernel
set_option maxRecDepth 100000 in
theorem dA_count_93 : decode bA_count 93 = .ok (.getfield 36, 3) := by decide +kernel
set_option maxRecDepth 100000 in
theorem dA_count_96 : decode bA_count 96 = .ok (.getfield 214, 3) := by decide +kernel
set_option maxRecDepth 100000 in
theorem dA_count_99 : decode bA_count 99 = .ok (.ireturn, 1) := by decide +kernel
set_option maxRecDepth 100000 in
theorem dA_count_100 : decode bA_count 100 = .ok (.aload_n 0, 1) := by decide +kernel
set_option maxRecDepth 100000 in
theorem dA_count_101 : decode bA_count 101 = .ok (.getfield 66, 3) := by decide +kernel
set_option maxRecDepth 100000 in
theorem dA_count_104 : decode bA_count 104 = .ok (.getfield 278, 3) := by decide +kernel
set_option maxRecDepth 100000 in
theorem dA_count_107 : decode bA_count 107 = .ok (.ireturn, 1) := by decide +kernel
set_option maxRecDepth 100000 in
theorem dA_count_108 : decode bA_count 108 = .ok (.aload_n 0, 1) := by decide +kernel
set_option maxRecDepth 100000 in
theorem dA_count_109 : decode bA_count 109 = .ok (.getfield 89, 3) := by decide +kernel
set_option maxRecDepth 100000 in
theorem dA_count_112 : decode bA_count 112 = .ok (.ireturn, 1) := by decide +kernel
set_option maxRecDepth 100000 in
theorem dA_count_113 : decode bA_count 113 = .ok (.aload_n 0, 1) := by decide +kernel
set_option maxRecDepth 100000 in
theorem dA_count_114 : decode bA_count 114 = .ok (.getfield 92, 3) := by decide +kernel
set_option maxRecDepth 100000 in
theorem dA_count_117 : decode bA_count 117 = .ok (.ireturn, 1) := by decide +kernel
set_option maxRecDepth 100000 in
theorem dA_count_118 : decode bA_count 118 = .ok (.iconst (-1), 1) := by decide +kernel
set_option maxRecDepth 100000 in
theorem dA_count_119 : decode bA_count 119 = .ok (.ireturn, 1) := by decide +kernel
def fA_count (N : Nat) (σ : xS) (a1 : Int32) : Option (Int32) :=
  if a1 = 0 then
  (some (σ.1 0 0 3))
  else
  (if a1 = 1 then
  (some (σ.1 6 0 1))
  else
  (if a1 = 2 then
  (some (σ.1 0 0 8))
  else
  (if a1 = 3 then
  (xp (fA_tellingsNeverUsed N σ) fun r6 =>
  some r6)
  else
  (if a1 = 4 then
  (some (σ.1 4 0 1))
  else
  (if a1 = 5 then
  (some (σ.1 0 0 12))
  else
  (if a1 = 6 then
  (some (σ.1 18 16 2))
  else
  (if a1 = 7 then
  (some (σ.1 12 0 3))
  else
  (if a1 = 8 then
  (some (σ.1 0 0 16))
  else
  (if a1 = 9 then
  (some (σ.1 0 0 17))
  else
  (some (-1)))))))))))
set_option maxHeartbeats 4000000 in
set_option maxRecDepth 100000 in
theorem cA_count (l : Launch) (E : xE) (N : Nat) (σ : xS) (τ : yS) (a1 : Int32) (res : Int32) (hf : fA_count N σ a1 = some res) : xM l E yA_count bA_count 2 (some .int) 1 0 0 [.ref (E.2.2.1 0 0), .int a1] σ τ (some (.int res)) σ τ := by
  refine x_met (by decide) (Nat.le_of_ble_eq_true rfl) (fun p e R s m args below meth c A ls H locs C hw hl => ?_)
  have hl : lv_has ls 2 [(0, .ref (E.2.2.1 0 0)), (1, .int a1)] := hl
  have hx := C.1
  have hb := C.2.1
  unfold fA_count at hf
  refine lv_iload_n hx hb dA_count_0 rfl (lv_at hl 1 rfl) ?_
  by_cases c1 : a1 = 0
  · replace hf := x_ip c1 hf
    refine lv_tableIn (tgt := 56) hx hb dA_count_1 (by rw [c1]; decide) (by rw [c1]; decide) (by rw [c1]; rfl) (by decide) ?_
    refine lv_aload_n hx hb dA_count_56 rfl (lv_at hl 0 rfl) ?_
    refine x_get C hw 0 0 3 (v := .int (σ.1 0 0 3)) at_0 rfl rfl ⟨by decide, by decide⟩ wA_22 rfl dA_count_57 ?_
    obtain rfl := Option.some.inj hf
    exact x_iret C hw dA_count_60
  · replace hf := x_in c1 hf
    by_cases c2 : a1 = 1
    · replace hf := x_ip c2 hf
      refine lv_tableIn (tgt := 61) hx hb dA_count_1 (by rw [c2]; decide) (by rw [c2]; decide) (by rw [c2]; rfl) (by decide) ?_
      refine lv_aload_n hx hb dA_count_61 rfl (lv_at hl 0 rfl) ?_
      refine x_get C hw 0 0 6 (v := .ref (E.2.2.1 6 0)) at_0 rfl rfl ⟨by decide, by decide⟩ wA_43 rfl dA_count_62 ?_
      refine x_getN C hw 6 0 1 (v := .int (σ.1 6 0 1)) at_6 rfl rfl ⟨by decide, by decide⟩ wA_225 rfl dA_count_65 ?_
      obtain rfl := Option.some.inj hf
      exact x_iret C hw dA_count_68
    · replace hf := x_in c2 hf
      by_cases c3 : a1 = 2
      · replace hf := x_ip c3 hf
        refine lv_tableIn (tgt := 69) hx hb dA_count_1 (by rw [c3]; decide) (by rw [c3]; decide) (by rw [c3]; rfl) (by decide) ?_
        refine lv_aload_n hx hb dA_count_69 rfl (lv_at hl 0 rfl) ?_
        refine x_get C hw 0 0 8 (v := .int (σ.1 0 0 8)) at_0 rfl rfl ⟨by decide, by decide⟩ wA_53 rfl dA_count_70 ?_
        obtain rfl := Option.some.inj hf
        exact x_iret C hw dA_count_73
      · replace hf := x_in c3 hf
        by_cases c4 : a1 = 3
        · replace hf := x_ip c4 hf
          refine lv_tableIn (tgt := 74) hx hb dA_count_1 (by rw [c4]; decide) (by rw [c4]; decide) (by rw [c4]; rfl) (by decide) ?_
          refine lv_aload_n hx hb dA_count_74 rfl (lv_at hl 0 rfl) ?_
          obtain ⟨r6, h5, hf⟩ := x_p hf
          refine x_callV (As := []) (rest := []) (st1 := [.int r6]) C hw (cA_tellingsNeverUsed l E N σ τ r6 h5) kA_274 (x_recv C hw 0 0 at_0 rfl rfl) (by decide) rfl rfl hl.1 (lv_room (Nat.le_of_ble_eq_true rfl)) dA_count_75 ⟨by decide, by decide⟩ rfl (fun H locs hw => ?_)
          obtain rfl := Option.some.inj hf
          exact x_iret C hw dA_count_78
        · replace hf := x_in c4 hf
          by_cases c7 : a1 = 4
          · replace hf := x_ip c7 hf
            refine lv_tableIn (tgt := 79) hx hb dA_count_1 (by rw [c7]; decide) (by rw [c7]; decide) (by rw [c7]; rfl) (by decide) ?_
            refine lv_aload_n hx hb dA_count_79 rfl (lv_at hl 0 rfl) ?_
            refine x_get C hw 0 0 4 (v := .ref (E.2.2.1 4 0)) at_0 rfl rfl ⟨by decide, by decide⟩ wA_29 rfl dA_count_80 ?_
            refine x_getN C hw 4 0 1 (v := .int (σ.1 4 0 1)) at_4 rfl rfl ⟨by decide, by decide⟩ wA_121 rfl dA_count_83 ?_
            obtain rfl := Option.some.inj hf
            exact x_iret C hw dA_count_86
          · replace hf := x_in c7 hf
            by_cases c8 : a1 = 5
            · replace hf := x_ip c8 hf
              refine lv_tableIn (tgt := 87) hx hb dA_count_1 (by rw [c8]; decide) (by rw [c8]; decide) (by rw [c8]; rfl) (by decide) ?_
              refine lv_aload_n hx hb dA_count_87 rfl (lv_at hl 0 rfl) ?_
              refine x_get C hw 0 0 12 (v := .int (σ.1 0 0 12)) at_0 rfl rfl ⟨by decide, by decide⟩ wA_77 rfl dA_count_88 ?_
              obtain rfl := Option.some.inj hf
              exact x_iret C hw dA_count_91
            · replace hf := x_in c8 hf
              by_cases c9 : a1 = 6
              · replace hf := x_ip c9 hf
                refine lv_tableIn (tgt := 92) hx hb dA_count_1 (by rw [c9]; decide) (by rw [c9]; decide) (by rw [c9]; rfl) (by decide) ?_
                refine lv_aload_n hx hb dA_count_92 rfl (lv_at hl 0 rfl) ?_
                refine x_get C hw 0 0 5 (v := .ref (E.2.2.1 18 16)) at_0 rfl rfl ⟨by decide, by decide⟩ wA_36 rfl dA_count_93 ?_
                refine x_getN C hw 18 16 2 (v := .int (σ.1 18 16 2)) (at_18 (by decide)) rfl rfl ⟨by decide, by decide⟩ wA_214 rfl dA_count_96 ?_
                obtain rfl := Option.some.inj hf
                exact x_iret C hw dA_count_99
              · replace hf := x_in c9 hf
                by_cases c10 : a1 = 7
                · replace hf := x_ip c10 hf
                  refine lv_tableIn (tgt := 100) hx hb dA_count_1 (by rw [c10]; decide) (by rw [c10]; decide) (by rw [c10]; rfl) (by decide) ?_
                  refine lv_aload_n hx hb dA_count_100 rfl (lv_at hl 0 rfl) ?_
                  refine x_get C hw 0 0 10 (v := .ref (E.2.2.1 12 0)) at_0 rfl rfl ⟨by decide, by decide⟩ wA_66 rfl dA_count_101 ?_
                  refine x_getN C hw 12 0 3 (v := .int (σ.1 12 0 3)) at_12 rfl rfl ⟨by decide, by decide⟩ wA_278 rfl dA_count_104 ?_
                  obtain rfl := Option.some.inj hf
                  exact x_iret C hw dA_count_107
                · replace hf := x_in c10 hf
                  by_cases c11 : a1 = 8
                  · replace hf := x_ip c11 hf
                    refine lv_tableIn (tgt := 108) hx hb dA_count_1 (by rw [c11]; decide) (by rw [c11]; decide) (by rw [c11]; rfl) (by decide) ?_
                    refine lv_aload_n hx hb dA_count_108 rfl (lv_at hl 0 rfl) ?_
                    refine x_get C hw 0 0 16 (v := .int (σ.1 0 0 16)) at_0 rfl rfl ⟨by decide, by decide⟩ wA_89 rfl dA_count_109 ?_
                    obtain rfl := Option.some.inj hf
                    exact x_iret C hw dA_count_112
                  · replace hf := x_in c11 hf
                    by_cases c12 : a1 = 9
                    · replace hf := x_ip c12 hf
                      refine lv_tableIn (tgt := 113) hx hb dA_count_1 (by rw [c12]; decide) (by rw [c12]; decide) (by rw [c12]; rfl) (by decide) ?_
                      refine lv_aload_n hx hb dA_count_113 rfl (lv_at hl 0 rfl) ?_
                      refine x_get C hw 0 0 17 (v := .int (σ.1 0 0 17)) at_0 rfl rfl ⟨by decide, by decide⟩ wA_92 rfl dA_count_114 ?_
                      obtain rfl := Option.some.inj hf
                      exact x_iret C hw dA_count_117
                    · replace hf := x_in c12 hf
                      refine lv_tableOut (tgt := 118) hx hb dA_count_1 (by have nc1 := lv_neT c1 (a := 0) (by decide); have nc2 := lv_neT c2 (a := 1) (by decide); have nc3 := lv_neT c3 (a := 2) (by decide); have nc4 := lv_neT c4 (a := 3) (by decide); have nc7 := lv_neT c7 (a := 4) (by decide); have nc8 := lv_neT c8 (a := 5) (by decide); have nc9 := lv_neT c9 (a := 6) (by decide); have nc10 := lv_neT c10 (a := 7) (by decide); have nc11 := lv_neT c11 (a := 8) (by decide); have nc12 := lv_neT c12 (a := 9) (by decide); omega) (by decide) ?_
                      refine lv_iconst (v := (-1)) hx hb dA_count_118 (by decide) ?_
                      obtain rfl := Option.some.inj hf
                      exact x_iret C hw dA_count_119
end
section
-- StandInsModel in (III)Z
set_option maxRecDepth 100000 in
theorem dM_in_0 : decode bM_in 0 = .ok (.iload_n 0, 1) := by decide +kernel
set_option maxRecDepth 100000 in
theorem dM_in_1 : decode bM_in 1 = .ok (.iload_n 1, 1) := by decide +kernel
set_option maxRecDepth 100000 in
theorem dM_in_2 : decode bM_in 2 = .ok (.if_icmp .lt 12, 3) := by decide +kernel
set_option maxRecDepth 100000 in
theorem dM_in_5 : decode bM_in 5 = .ok (.iload_n 0, 1) := by decide +kernel
set_option maxRecDepth 100000 in
theorem dM_in_6 : decode bM_in 6 = .ok (.iload_n 2, 1) := by decide +kernel
set_option maxRecDepth 100000 in
theorem dM_in_7 : decode bM_in 7 = .ok (.if_icmp .gt 7, 3) := by decide +kernel
set_option maxRecDepth 100000 in
theorem dM_in_10 : decode bM_in 10 = .ok (.iconst 1, 1) := by decide +kernel
set_option maxRecDepth 100000 in
theorem dM_in_11 : decode bM_in 11 = .ok (.goto 4, 3) := by decide +kernel
set_option maxRecDepth 100000 in
theorem dM_in_14 : decode bM_in 14 = .ok (.iconst 0, 1) := by decide +kernel
set_option maxRecDepth 100000 in
theorem dM_in_15 : decode bM_in 15 = .ok (.ireturn, 1) := by decide +kernel
def fM_in (a0 : Int32) (a1 : Int32) (a2 : Int32) : Int32 :=
  if a0 < a1 then
  (0)
  else
  (if a2 < a0 then
  (0)
  else
  (1))
set_option maxHeartbeats 4000000 in
set_option maxRecDepth 100000 in
theorem cM_in (l : Launch) (E : xE) (τ : yS) (σ : xS) (a0 : Int32) (a1 : Int32) (a2 : Int32) : xM l E yM_in bM_in 3 (some .boolean) 0 0 0 [.int a0, .int a1, .int a2] σ τ (some (.int (fM_in a0 a1 a2))) σ τ := by
  refine x_met (by decide) (Nat.le_of_ble_eq_true rfl) (fun p e R s m args below meth c A ls H locs C hw hl => ?_)
  have hl : lv_has ls 3 [(0, .int a0), (1, .int a1), (2, .int a2)] := hl
  have hx := C.1
  have hb := C.2.1
  obtain ⟨res, hf⟩ : ∃ z, fM_in a0 a1 a2 = z := ⟨_, rfl⟩
  rw [hf]
  unfold fM_in at hf
  refine lv_iload_n hx hb dM_in_0 rfl (lv_at hl 0 rfl) ?_
  refine lv_iload_n hx hb dM_in_1 rfl (lv_at hl 1 rfl) ?_
  refine lv_icmp_lt (tgt := 14) hx hb dM_in_2 (by decide) (fun c1 => ?_) (fun c1 => ?_)
  · replace hf := x_ip c1 hf
    refine lv_iconst (v := 0) hx hb dM_in_14 (by decide) ?_
    obtain rfl := hf
    exact x_zret C hw rfl dM_in_15
  · replace hf := x_in c1 hf
    refine lv_iload_n hx hb dM_in_5 rfl (lv_at hl 0 rfl) ?_
    refine lv_iload_n hx hb dM_in_6 rfl (lv_at hl 2 rfl) ?_
    refine lv_icmp_gt (tgt := 14) hx hb dM_in_7 (by decide) (fun c2 => ?_) (fun c2 => ?_)
    · replace hf := x_ip c2 hf
      refine lv_iconst (v := 0) hx hb dM_in_14 (by decide) ?_
      obtain rfl := hf
      exact x_zret C hw rfl dM_in_15
    · replace hf := x_in c2 hf
      refine lv_iconst (v := 1) hx hb dM_in_10 (by decide) ?_
      refine lv_goto (tgt := 15) hx hb dM_in_11 (by decide) ?_
      obtain rfl := hf
      exact x_zret C hw rfl dM_in_15
theorem zM_in (a0 : Int32) (a1 : Int32) (a2 : Int32) : narrow .boolean (.int (fM_in a0 a1 a2)) = .int (fM_in a0 a1 a2) := by
  unfold fM_in
  (repeat' split) <;> first | rfl | rfl
-- StandInsModel shape (II)I
set_option maxRecDepth 100000 in
theorem dM_shape_0 : decode bM_shape 0 = .ok (.iconst 4, 1) := by decide +kernel
set_option maxRecDepth 100000 in
theorem dM_shape_1 : decode bM_shape 1 = .ok (.aload_n 0, 1) := by decide +kernel
set_option maxRecDepth 100000 in
theorem dM_shape_2 : decode bM_shape 2 = .ok (.getfield 17, 3) := by decide +kernel
set_option maxRecDepth 100000 in
theorem dM_shape_5 : decode bM_shape 5 = .ok (.iload_n 1, 1) := by decide +kernel
set_option maxRecDepth 100000 in
theorem dM_shape_6 : decode bM_shape 6 = .ok (.iaload, 1) := by decide +kernel
set_option maxRecDepth 100000 in
theorem dM_shape_7 : decode bM_shape 7 = .ok (.imul, 1) := by decide +kernel
set_option maxRecDepth 100000 in
theorem dM_shape_8 : decode bM_shape 8 = .ok (.iload_n 2, 1) := by decide +kernel
set_option maxRecDepth 100000 in
theorem dM_shape_9 : decode bM_shape 9 = .ok (.iadd, 1) := by decide +kernel
set_option maxRecDepth 100000 in
theorem dM_shape_10 : decode bM_shape 10 = .ok (.ireturn, 1) := by decide +kernel
def fM_shape (τ : yS) (a1 : Int32) (a2 : Int32) : Option (Int32) :=
  if ¬ (a1 < 0 ∨ 6 ≤ a1.toNatClampNeg) then
  some ((4 * (τ 33 0 a1.toNatClampNeg)) + a2)
  else none
set_option maxHeartbeats 4000000 in
set_option maxRecDepth 100000 in
theorem cM_shape (l : Launch) (E : xE) (τ : yS) (σ : xS) (a1 : Int32) (a2 : Int32) (res : Int32) (hf : fM_shape τ a1 a2 = some res) : xM l E yM_shape bM_shape 3 (some .int) 0 0 0 [.ref (E.2.2.1 30 0), .int a1, .int a2] σ τ (some (.int res)) σ τ := by
  refine x_met (by decide) (Nat.le_of_ble_eq_true rfl) (fun p e R s m args below meth c A ls H locs C hw hl => ?_)
  have hl : lv_has ls 3 [(0, .ref (E.2.2.1 30 0)), (1, .int a1), (2, .int a2)] := hl
  have hx := C.1
  have hb := C.2.1
  unfold fM_shape at hf
  refine lv_iconst (v := 4) hx hb dM_shape_0 (by decide) ?_
  refine lv_aload_n hx hb dM_shape_1 rfl (lv_at hl 0 rfl) ?_
  refine y_get C hw 30 0 2 (v := .ref (E.2.2.1 33 0)) at_30 rfl rfl ⟨by decide, by decide⟩ wM_17 rfl dM_shape_2 ?_
  refine lv_iload_n hx hb dM_shape_5 rfl (lv_at hl 1 rfl) ?_
  obtain ⟨g1, hf⟩ := x_g hf
  refine y_ild C hw 33 0 at_33 rfl g1 dM_shape_6 ?_
  refine lv_imul hx hb dM_shape_7 ?_
  refine lv_iload_n hx hb dM_shape_8 rfl (lv_at hl 2 rfl) ?_
  refine lv_iadd hx hb dM_shape_9 ?_
  obtain rfl := Option.some.inj hf
  exact x_iret C hw dM_shape_10
-- StandInsModel misuse (ZIZZ)I
set_option maxRecDepth 100000 in
theorem dM_misuse_0 : decode bM_misuse 0 = .ok (.iload_n 1, 1) := by decide +kernel
set_option maxRecDepth 100000 in
theorem dM_misuse_1 : decode bM_misuse 1 = .ok (.ifCond .ne 15, 3) := by decide +kernel
set_option maxRecDepth 100000 in
theorem dM_misuse_4 : decode bM_misuse 4 = .ok (.iload_n 2, 1) := by decide +kernel
set_option maxRecDepth 100000 in
theorem dM_misuse_5 : decode bM_misuse 5 = .ok (.ifCond .lt 15, 3) := by decide +kernel
set_option maxRecDepth 100000 in
theorem dM_misuse_8 : decode bM_misuse 8 = .ok (.iload_n 2, 1) := by decide +kernel
set_option maxRecDepth 100000 in
theorem dM_misuse_9 : decode bM_misuse 9 = .ok (.aload_n 0, 1) := by decide +kernel
set_option maxRecDepth 100000 in
theorem dM_misuse_10 : decode bM_misuse 10 = .ok (.getfield 87, 3) := by decide +kernel
set_option maxRecDepth 100000 in
theorem dM_misuse_13 : decode bM_misuse 13 = .ok (.if_icmp .ne 7, 3) := by decide +kernel
set_option maxRecDepth 100000 in
theorem dM_misuse_16 : decode bM_misuse 16 = .ok (.iconst 1, 1) := by decide +kernel
set_option maxRecDepth 100000 in
theorem dM_misuse_17 : decode bM_misuse 17 = .ok (.goto 4, 3) := by decide +kernel
set_option maxRecDepth 100000 in
theorem dM_misuse_20 : decode bM_misuse 20 = .ok (.iconst 0, 1) := by decide +kernel
set_option maxRecDepth 100000 in
theorem dM_misuse_21 : decode bM_misuse 21 = .ok (.istore 5, 2) := by decide +kernel
set_option maxRecDepth 100000 in
theorem dM_misuse_23 : decode bM_misuse 23 = .ok (.iconst 0, 1) := by decide +kernel
set_option maxRecDepth 100000 in
theorem dM_misuse_24 : decode bM_misuse 24 = .ok (.istore 6, 2) := by decide +kernel
set_option maxRecDepth 100000 in
theorem dM_misuse_26 : decode bM_misuse 26 = .ok (.aload_n 0, 1) := by decide +kernel
set_option maxRecDepth 100000 in
theorem dM_misuse_27 : decode bM_misuse 27 = .ok (.getfield 90, 3) := by decide +kernel
set_option maxRecDepth 100000 in
theorem dM_misuse_30 : decode bM_misuse 30 = .ok (.iconst 2, 1) := by decide +kernel
set_option maxRecDepth 100000 in
theorem dM_misuse_31 : decode bM_misuse 31 = .ok (.if_icmp .eq 11, 3) := by decide +kernel
set_option maxRecDepth 100000 in
theorem dM_misuse_34 : decode bM_misuse 34 = .ok (.aload_n 0, 1) := by decide +kernel
set_option maxRecDepth 100000 in
theorem dM_misuse_35 : decode bM_misuse 35 = .ok (.getfield 90, 3) := by decide +kernel
set_option maxRecDepth 100000 in
theorem dM_misuse_38 : decode bM_misuse 38 = .ok (.iconst 3, 1) := by decide +kernel
set_option maxRecDepth 100000 in
theorem dM_misuse_39 : decode bM_misuse 39 = .ok (.if_icmp .ne 8, 3) := by decide +kernel
set_option maxRecDepth 100000 in
theorem dM_misuse_42 : decode bM_misuse 42 = .ok (.iload 5, 2) := by decide +kernel
set_option maxRecDepth 100000 in
theorem dM_misuse_44 : decode bM_misuse 44 = .ok (.ifCond .eq 29, 3) := by decide +kernel
set_option maxRecDepth 100000 in
theorem dM_misuse_47 : decode bM_misuse 47 = .ok (.aload_n 0, 1) := by decide +kernel
set_option maxRecDepth 100000 in
theorem dM_misuse_48 : decode bM_misuse 48 = .ok (.getfield 90, 3) := by decide +kernel
set_option maxRecDepth 100000 in
theorem dM_misuse_51 : decode bM_misuse 51 = .ok (.iconst 4, 1) := by decide +kernel
set_option maxRecDepth 100000 in
theorem dM_misuse_52 : decode bM_misuse 52 = .ok (.if_icmp .ne 28, 3) := by decide +kernel
set_option maxRecDepth 100000 in
theorem dM_misuse_55 : decode bM_misuse 55 = .ok (.aload_n 0, 1) := by decide +kernel
set_option maxRecDepth 100000 in
theorem dM_misuse_56 : decode bM_misuse 56 = .ok (.getfield 59, 3) := by decide +kernel
set_option maxRecDepth 100000 in
theorem dM_misuse_59 : decode bM_misuse 59 = .ok (.aload_n 0, 1) := by decide +kernel
set_option maxRecDepth 100000 in
theorem dM_misuse_60 : decode bM_misuse 60 = .ok (.getfield 93, 3) := by decide +kernel
set_option maxRecDepth 100000 in
theorem dM_misuse_63 : decode bM_misuse 63 = .ok (.iconst 1, 1) := by decide +kernel
set_option maxRecDepth 100000 in
theorem dM_misuse_64 : decode bM_misuse 64 = .ok (.isub, 1) := by decide +kernel
set_option maxRecDepth 100000 in
theorem dM_misuse_65 : decode bM_misuse 65 = .ok (.iaload, 1) := by decide +kernel
set_option maxRecDepth 100000 in
theorem dM_misuse_66 : decode bM_misuse 66 = .ok (.ifCond .ne 14, 3) := by decide +kernel
set_option maxRecDepth 100000 in
theorem dM_misuse_69 : decode bM_misuse 69 = .ok (.iload_n 3, 1) := by decide +kernel
set_option maxRecDepth 100000 in
theorem dM_misuse_70 : decode bM_misuse 70 = .ok (.ifCond .ne 10, 3) := by decide +kernel
set_option maxRecDepth 100000 in
theorem dM_misuse_73 : decode bM_misuse 73 = .ok (.bipush (-3), 2) := by decide +kernel
set_option maxRecDepth 100000 in
theorem dM_misuse_75 : decode bM_misuse 75 = .ok (.istore 6, 2) := by decide +kernel
set_option maxRecDepth 100000 in
theorem dM_misuse_77 : decode bM_misuse 77 = .ok (.goto 34, 3) := by decide +kernel
set_option maxRecDepth 100000 in
theorem dM_misuse_80 : decode bM_misuse 80 = .ok (.aload_n 0, 1) := by decide +kernel
set_option maxRecDepth 100000 in
theorem dM_misuse_81 : decode bM_misuse 81 = .ok (.getfield 96, 3) := by decide +kernel
set_option maxRecDepth 100000 in
theorem dM_misuse_84 : decode bM_misuse 84 = .ok (.ifCond .le 18, 3) := by decide +kernel
set_option maxRecDepth 100000 in
theorem dM_misuse_87 : decode bM_misuse 87 = .ok (.iload_n 1, 1) := by decide +kernel
set_option maxRecDepth 100000 in
theorem dM_misuse_88 : decode bM_misuse 88 = .ok (.ifCond .ne 14, 3) := by decide +kernel
set_option maxRecDepth 100000 in
theorem dM_misuse_91 : decode bM_misuse 91 = .ok (.iload_n 2, 1) := by decide +kernel
set_option maxRecDepth 100000 in
theorem dM_misuse_92 : decode bM_misuse 92 = .ok (.ifCond .ge 10, 3) := by decide +kernel
set_option maxRecDepth 100000 in
theorem dM_misuse_95 : decode bM_misuse 95 = .ok (.bipush (-4), 2) := by decide +kernel
set_option maxRecDepth 100000 in
theorem dM_misuse_97 : decode bM_misuse 97 = .ok (.istore 6, 2) := by decide +kernel
set_option maxRecDepth 100000 in
theorem dM_misuse_99 : decode bM_misuse 99 = .ok (.goto 12, 3) := by decide +kernel
set_option maxRecDepth 100000 in
theorem dM_misuse_102 : decode bM_misuse 102 = .ok (.iload 4, 2) := by decide +kernel
set_option maxRecDepth 100000 in
theorem dM_misuse_104 : decode bM_misuse 104 = .ok (.ifCond .eq 7, 3) := by decide +kernel
set_option maxRecDepth 100000 in
theorem dM_misuse_107 : decode bM_misuse 107 = .ok (.bipush (-5), 2) := by decide +kernel
set_option maxRecDepth 100000 in
theorem dM_misuse_109 : decode bM_misuse 109 = .ok (.istore 6, 2) := by decide +kernel
set_option maxRecDepth 100000 in
theorem dM_misuse_111 : decode bM_misuse 111 = .ok (.iload 6, 2) := by decide +kernel
set_option maxRecDepth 100000 in
theorem dM_misuse_113 : decode bM_misuse 113 = .ok (.ifCond .ne 5, 3) := by decide +kernel
set_option maxRecDepth 100000 in
theorem dM_misuse_116 : decode bM_misuse 116 = .ok (.iconst 0, 1) := by decide +kernel
set_option maxRecDepth 100000 in
theorem dM_misuse_117 : decode bM_misuse 117 = .ok (.ireturn, 1) := by decide +kernel
set_option maxRecDepth 100000 in
theorem dM_misuse_118 : decode bM_misuse 118 = .ok (.aload_n 0, 1) := by decide +kernel
set_option maxRecDepth 100000 in
theorem dM_misuse_119 : decode bM_misuse 119 = .ok (.getfield 90, 3) := by decide +kernel
set_option maxRecDepth 100000 in
theorem dM_misuse_122 : decode bM_misuse 122 = .ok (.iconst 4, 1) := by decide +kernel
set_option maxRecDepth 100000 in
theorem dM_misuse_123 : decode bM_misuse 123 = .ok (.if_icmp .ne 29, 3) := by decide +kernel
set_option maxRecDepth 100000 in
theorem dM_misuse_126 : decode bM_misuse 126 = .ok (.aload_n 0, 1) := by decide +kernel
set_option maxRecDepth 100000 in
theorem dM_misuse_127 : decode bM_misuse 127 = .ok (.getfield 59, 3) := by decide +kernel
set_option maxRecDepth 100000 in
theorem dM_misuse_130 : decode bM_misuse 130 = .ok (.aload_n 0, 1) := by decide +kernel
set_option maxRecDepth 100000 in
theorem dM_misuse_131 : decode bM_misuse 131 = .ok (.getfield 93, 3) := by decide +kernel
set_option maxRecDepth 100000 in
theorem dM_misuse_134 : decode bM_misuse 134 = .ok (.iconst 1, 1) := by decide +kernel
set_option maxRecDepth 100000 in
theorem dM_misuse_135 : decode bM_misuse 135 = .ok (.isub, 1) := by decide +kernel
set_option maxRecDepth 100000 in
theorem dM_misuse_136 : decode bM_misuse 136 = .ok (.iaload, 1) := by decide +kernel
set_option maxRecDepth 100000 in
theorem dM_misuse_137 : decode bM_misuse 137 = .ok (.ifCond .ne 15, 3) := by decide +kernel
set_option maxRecDepth 100000 in
theorem dM_misuse_140 : decode bM_misuse 140 = .ok (.aload_n 0, 1) := by decide +kernel
set_option maxRecDepth 100000 in
theorem dM_misuse_141 : decode bM_misuse 141 = .ok (.getfield 71, 3) := by decide +kernel
set_option maxRecDepth 100000 in
theorem dM_misuse_144 : decode bM_misuse 144 = .ok (.aload_n 0, 1) := by decide +kernel
set_option maxRecDepth 100000 in
theorem dM_misuse_145 : decode bM_misuse 145 = .ok (.getfield 93, 3) := by decide +kernel
set_option maxRecDepth 100000 in
theorem dM_misuse_148 : decode bM_misuse 148 = .ok (.iconst 1, 1) := by decide +kernel
set_option maxRecDepth 100000 in
theorem dM_misuse_149 : decode bM_misuse 149 = .ok (.isub, 1) := by decide +kernel
set_option maxRecDepth 100000 in
theorem dM_misuse_150 : decode bM_misuse 150 = .ok (.iconst 1, 1) := by decide +kernel
set_option maxRecDepth 100000 in
theorem dM_misuse_151 : decode bM_misuse 151 = .ok (.bastore, 1) := by decide +kernel
set_option maxRecDepth 100000 in
theorem dM_misuse_152 : decode bM_misuse 152 = .ok (.aload_n 0, 1) := by decide +kernel
set_option maxRecDepth 100000 in
theorem dM_misuse_153 : decode bM_misuse 153 = .ok (.iconst 0, 1) := by decide +kernel
set_option maxRecDepth 100000 in
theorem dM_misuse_154 : decode bM_misuse 154 = .ok (.putfield 96, 3) := by decide +kernel
set_option maxRecDepth 100000 in
theorem dM_misuse_157 : decode bM_misuse 157 = .ok (.aload_n 0, 1) := by decide +kernel
set_option maxRecDepth 100000 in
theorem dM_misuse_158 : decode bM_misuse 158 = .ok (.iconst 0, 1) := by decide +kernel
set_option maxRecDepth 100000 in
theorem dM_misuse_159 : decode bM_misuse 159 = .ok (.putfield 90, 3) := by decide +kernel
set_option maxRecDepth 100000 in
theorem dM_misuse_162 : decode bM_misuse 162 = .ok (.aload_n 0, 1) := by decide +kernel
set_option maxRecDepth 100000 in
theorem dM_misuse_163 : decode bM_misuse 163 = .ok (.getfield 59, 3) := by decide +kernel
set_option maxRecDepth 100000 in
theorem dM_misuse_166 : decode bM_misuse 166 = .ok (.bipush 16, 2) := by decide +kernel
set_option maxRecDepth 100000 in
theorem dM_misuse_168 : decode bM_misuse 168 = .ok (.iconst 0, 1) := by decide +kernel
set_option maxRecDepth 100000 in
theorem dM_misuse_169 : decode bM_misuse 169 = .ok (.iastore, 1) := by decide +kernel
set_option maxRecDepth 100000 in
theorem dM_misuse_170 : decode bM_misuse 170 = .ok (.aload_n 0, 1) := by decide +kernel
set_option maxRecDepth 100000 in
theorem dM_misuse_171 : decode bM_misuse 171 = .ok (.dup, 1) := by decide +kernel
set_option maxRecDepth 100000 in
theorem dM_misuse_172 : decode bM_misuse 172 = .ok (.getfield 99, 3) := by decide +kernel
set_option maxRecDepth 100000 in
theorem dM_misuse_175 : decode bM_misuse 175 = .ok (.iconst 1, 1) := by decide +kernel
set_option maxRecDepth 100000 in
theorem dM_misuse_176 : decode bM_misuse 176 = .ok (.iadd, 1) := by decide +kernel
set_option maxRecDepth 100000 in
theorem dM_misuse_177 : decode bM_misuse 177 = .ok (.putfield 99, 3) := by decide +kernel
set_option maxRecDepth 100000 in
theorem dM_misuse_180 : decode bM_misuse 180 = .ok (.iload 6, 2) := by decide +kernel
set_option maxRecDepth 100000 in
theorem dM_misuse_182 : decode bM_misuse 182 = .ok (.ireturn, 1) := by decide +kernel
def fM_misuse_152 (τ : yS) (a6 : Int32) : Option (Int32 × yS) :=
  xl (y_si τ 30 0 8 0) fun s23 =>
  xl (y_si s23 30 0 9 0) fun s24 =>
  if ¬ (16 < 0 ∨ 17 ≤ 16.toNatClampNeg) then
  xl (y_si s24 47 0 16.toNatClampNeg 0) fun s26 =>
  xl (y_si s26 30 0 30 ((s26 30 0 30) + 1)) fun s27 =>
  some (a6, s27)
  else none
def fM_misuse_111 (τ : yS) (a6 : Int32) : Option (Int32 × yS) :=
  if a6 = 0 then
  (some (0, τ))
  else
  (if (τ 30 0 9) = 4 then
  (if ¬ (((τ 30 0 29) - 1) < 0 ∨ 17 ≤ ((τ 30 0 29) - 1).toNatClampNeg) then
  if (τ 47 0 (((τ 30 0 29) - 1).toNatClampNeg)) = 0 then
  (if ¬ (((τ 30 0 29) - 1) < 0 ∨ 16 ≤ ((τ 30 0 29) - 1).toNatClampNeg) then
  xl (y_si τ 51 0 (((τ 30 0 29) - 1).toNatClampNeg) 1) fun s33 =>
  fM_misuse_152 s33 a6
  else none)
  else
  (fM_misuse_152 τ a6)
  else none)
  else
  (fM_misuse_152 τ a6))
def fM_misuse_73 (τ : yS) : Option (Int32 × yS) :=
  fM_misuse_111 τ (-3)
def fM_misuse_102 (τ : yS) (a4 : Int32) (a6 : Int32) : Option (Int32 × yS) :=
  if a4 = 0 then
  (fM_misuse_111 τ a6)
  else
  (fM_misuse_111 τ (-5))
def fM_misuse_80 (τ : yS) (a1 : Int32) (a2 : Int32) (a4 : Int32) (a6 : Int32) : Option (Int32 × yS) :=
  if (τ 30 0 8) ≤ 0 then
  (fM_misuse_102 τ a4 a6)
  else
  (if a1 = 0 then
  (if 0 ≤ a2 then
  (fM_misuse_102 τ a4 a6)
  else
  (fM_misuse_111 τ (-4)))
  else
  (fM_misuse_102 τ a4 a6))
def fM_misuse_47 (τ : yS) (a1 : Int32) (a2 : Int32) (a3 : Int32) (a4 : Int32) (a6 : Int32) : Option (Int32 × yS) :=
  if (τ 30 0 9) = 4 then
  (if ¬ (((τ 30 0 29) - 1) < 0 ∨ 17 ≤ ((τ 30 0 29) - 1).toNatClampNeg) then
  if (τ 47 0 (((τ 30 0 29) - 1).toNatClampNeg)) = 0 then
  (if a3 = 0 then
  (fM_misuse_73 τ)
  else
  (fM_misuse_80 τ a1 a2 a4 a6))
  else
  (fM_misuse_80 τ a1 a2 a4 a6)
  else none)
  else
  (fM_misuse_80 τ a1 a2 a4 a6)
def fM_misuse_42 (τ : yS) (a1 : Int32) (a2 : Int32) (a3 : Int32) (a4 : Int32) (a5 : Int32) (a6 : Int32) : Option (Int32 × yS) :=
  if a5 = 0 then
  (fM_misuse_73 τ)
  else
  (fM_misuse_47 τ a1 a2 a3 a4 a6)
def fM_misuse_21 (τ : yS) (a1 : Int32) (a2 : Int32) (a3 : Int32) (a4 : Int32) (t0 : Int32) : Option (Int32 × yS) :=
  if (τ 30 0 9) = 2 then
  (fM_misuse_42 τ a1 a2 a3 a4 t0 0)
  else
  (if (τ 30 0 9) = 3 then
  (fM_misuse_42 τ a1 a2 a3 a4 t0 0)
  else
  (fM_misuse_47 τ a1 a2 a3 a4 0))
def fM_misuse_16 (τ : yS) (a1 : Int32) (a2 : Int32) (a3 : Int32) (a4 : Int32) : Option (Int32 × yS) :=
  fM_misuse_21 τ a1 a2 a3 a4 1
def fM_misuse_20 (τ : yS) (a1 : Int32) (a2 : Int32) (a3 : Int32) (a4 : Int32) : Option (Int32 × yS) :=
  fM_misuse_21 τ a1 a2 a3 a4 0
def fM_misuse (τ : yS) (a1 : Int32) (a2 : Int32) (a3 : Int32) (a4 : Int32) : Option (Int32 × yS) :=
  if a1 = 0 then
  (if a2 < 0 then
  (fM_misuse_20 τ a1 a2 a3 a4)
  else
  (if a2 = (τ 30 0 10) then
  (fM_misuse_16 τ a1 a2 a3 a4)
  else
  (fM_misuse_20 τ a1 a2 a3 a4)))
  else
  (fM_misuse_16 τ a1 a2 a3 a4)
set_option maxHeartbeats 4000000 in
set_option maxRecDepth 100000 in
theorem wM_misuse_152 {p : Program} {l : Launch} {e : Env} {R : Room} {s : State} {m : MethodId} {args : Array Value} {below : List Frame} {meth : Method} {c : Code} {E : xE} {A : Nat → Prop} {σ : xS} (C : xC p s m args meth c R E A bM_misuse 7 yM_misuse (some .int) 0 0 0) (τ : yS) (a6 : Int32) (res : Int32 × yS) (hf : fM_misuse_152 τ a6 = some res) (H : Heap) (locs : List Loc) (ls : Array Slot) (hw : xW E A s σ τ H locs) (hl : lv_has ls 7 [(0, .ref (E.2.2.1 30 0)), (6, .int a6)]) : W p l e R s m args below meth c H locs 0 0 (MQ below (xQ E A (some (.int res.1)) σ res.2) args s 0 0 A) (F0 m 152 ls []) := by
  have hx := C.1
  have hb := C.2.1
  unfold fM_misuse_152 at hf
  refine lv_aload_n hx hb dM_misuse_152 rfl (lv_at hl 0 rfl) ?_
  refine lv_iconst (v := 0) hx hb dM_misuse_153 (by decide) ?_
  refine y_puti C hw 30 0 8 at_30 rfl rfl rfl ⟨rfl, rfl⟩ ⟨by decide, by decide⟩ (Nat.le_of_ble_eq_true rfl) wM_96 dM_misuse_154 (fun H locs hw => ?_)
  obtain ⟨s23, es23, hf⟩ := x_l hf
  rw [← es23] at hw
  refine lv_aload_n hx hb dM_misuse_157 rfl (lv_at hl 0 rfl) ?_
  refine lv_iconst (v := 0) hx hb dM_misuse_158 (by decide) ?_
  refine y_puti C hw 30 0 9 at_30 rfl rfl rfl ⟨rfl, rfl⟩ ⟨by decide, by decide⟩ (Nat.le_of_ble_eq_true rfl) wM_90 dM_misuse_159 (fun H locs hw => ?_)
  obtain ⟨s24, es24, hf⟩ := x_l hf
  rw [← es24] at hw
  refine lv_aload_n hx hb dM_misuse_162 rfl (lv_at hl 0 rfl) ?_
  refine y_get C hw 30 0 24 (v := .ref (E.2.2.1 47 0)) at_30 rfl rfl ⟨by decide, by decide⟩ wM_59 rfl dM_misuse_163 ?_
  refine lv_bipush (v := 16) hx hb dM_misuse_166 (by decide) ?_
  refine lv_iconst (v := 0) hx hb dM_misuse_168 (by decide) ?_
  obtain ⟨g25, hf⟩ := x_g hf
  refine y_ist C hw 47 0 at_47 rfl rfl g25 dM_misuse_169 (fun H locs hw => ?_)
  obtain ⟨s26, es26, hf⟩ := x_l hf
  rw [← es26] at hw
  refine lv_aload_n hx hb dM_misuse_170 rfl (lv_at hl 0 rfl) ?_
  refine lv_dup hx hb dM_misuse_171 rfl ?_
  refine y_get C hw 30 0 30 (v := .int (s26 30 0 30)) at_30 rfl rfl ⟨by decide, by decide⟩ wM_99 rfl dM_misuse_172 ?_
  refine lv_iconst (v := 1) hx hb dM_misuse_175 (by decide) ?_
  refine lv_iadd hx hb dM_misuse_176 ?_
  refine y_puti C hw 30 0 30 at_30 rfl rfl rfl ⟨rfl, rfl⟩ ⟨by decide, by decide⟩ (Nat.le_of_ble_eq_true rfl) wM_99 dM_misuse_177 (fun H locs hw => ?_)
  obtain ⟨s27, es27, hf⟩ := x_l hf
  rw [← es27] at hw
  refine lv_iload hx hb dM_misuse_180 (lv_at hl 1 rfl) ?_
  obtain rfl := Option.some.inj hf
  exact x_iret C hw dM_misuse_182
set_option maxHeartbeats 4000000 in
set_option maxRecDepth 100000 in
theorem wM_misuse_111 {p : Program} {l : Launch} {e : Env} {R : Room} {s : State} {m : MethodId} {args : Array Value} {below : List Frame} {meth : Method} {c : Code} {E : xE} {A : Nat → Prop} {σ : xS} (C : xC p s m args meth c R E A bM_misuse 7 yM_misuse (some .int) 0 0 0) (τ : yS) (a6 : Int32) (res : Int32 × yS) (hf : fM_misuse_111 τ a6 = some res) (H : Heap) (locs : List Loc) (ls : Array Slot) (hw : xW E A s σ τ H locs) (hl : lv_has ls 7 [(0, .ref (E.2.2.1 30 0)), (6, .int a6)]) : W p l e R s m args below meth c H locs 0 0 (MQ below (xQ E A (some (.int res.1)) σ res.2) args s 0 0 A) (F0 m 111 ls []) := by
  have hx := C.1
  have hb := C.2.1
  unfold fM_misuse_111 at hf
  refine lv_iload hx hb dM_misuse_111 (lv_at hl 1 rfl) ?_
  refine lv_if_ne (tgt := 118) hx hb dM_misuse_113 (by decide) (fun c28 => ?_) (fun c28 => ?_)
  · replace hf := x_in c28 hf
    refine lv_aload_n hx hb dM_misuse_118 rfl (lv_at hl 0 rfl) ?_
    refine y_get C hw 30 0 9 (v := .int (τ 30 0 9)) at_30 rfl rfl ⟨by decide, by decide⟩ wM_90 rfl dM_misuse_119 ?_
    refine lv_iconst (v := 4) hx hb dM_misuse_122 (by decide) ?_
    refine lv_icmp_ne (tgt := 152) hx hb dM_misuse_123 (by decide) (fun c29 => ?_) (fun c29 => ?_)
    · replace hf := x_in c29 hf
      exact wM_misuse_152 C τ a6 res hf H locs ls hw (lv_sub hl [0, 1] rfl)
    · replace hf := x_ip c29 hf
      refine lv_aload_n hx hb dM_misuse_126 rfl (lv_at hl 0 rfl) ?_
      refine y_get C hw 30 0 24 (v := .ref (E.2.2.1 47 0)) at_30 rfl rfl ⟨by decide, by decide⟩ wM_59 rfl dM_misuse_127 ?_
      refine lv_aload_n hx hb dM_misuse_130 rfl (lv_at hl 0 rfl) ?_
      refine y_get C hw 30 0 29 (v := .int (τ 30 0 29)) at_30 rfl rfl ⟨by decide, by decide⟩ wM_93 rfl dM_misuse_131 ?_
      refine lv_iconst (v := 1) hx hb dM_misuse_134 (by decide) ?_
      refine lv_isub hx hb dM_misuse_135 ?_
      obtain ⟨g30, hf⟩ := x_g hf
      refine y_ild C hw 47 0 at_47 rfl g30 dM_misuse_136 ?_
      refine lv_if_ne (tgt := 152) hx hb dM_misuse_137 (by decide) (fun c31 => ?_) (fun c31 => ?_)
      · replace hf := x_in c31 hf
        exact wM_misuse_152 C τ a6 res hf H locs ls hw (lv_sub hl [0, 1] rfl)
      · replace hf := x_ip c31 hf
        refine lv_aload_n hx hb dM_misuse_140 rfl (lv_at hl 0 rfl) ?_
        refine y_get C hw 30 0 28 (v := .ref (E.2.2.1 51 0)) at_30 rfl rfl ⟨by decide, by decide⟩ wM_71 rfl dM_misuse_141 ?_
        refine lv_aload_n hx hb dM_misuse_144 rfl (lv_at hl 0 rfl) ?_
        refine y_get C hw 30 0 29 (v := .int (τ 30 0 29)) at_30 rfl rfl ⟨by decide, by decide⟩ wM_93 rfl dM_misuse_145 ?_
        refine lv_iconst (v := 1) hx hb dM_misuse_148 (by decide) ?_
        refine lv_isub hx hb dM_misuse_149 ?_
        refine lv_iconst (v := 1) hx hb dM_misuse_150 (by decide) ?_
        obtain ⟨g32, hf⟩ := x_g hf
        refine y_zst C hw 51 0 at_51 (by decide) rfl rfl g32 dM_misuse_151 (fun H locs hw => ?_)
        obtain ⟨s33, es33, hf⟩ := x_l hf
        rw [← es33] at hw
        exact wM_misuse_152 C s33 a6 res hf H locs ls hw (lv_sub hl [0, 1] rfl)
  · replace hf := x_ip c28 hf
    refine lv_iconst (v := 0) hx hb dM_misuse_116 (by decide) ?_
    obtain rfl := Option.some.inj hf
    exact x_iret C hw dM_misuse_117
set_option maxHeartbeats 4000000 in
set_option maxRecDepth 100000 in
theorem wM_misuse_73 {p : Program} {l : Launch} {e : Env} {R : Room} {s : State} {m : MethodId} {args : Array Value} {below : List Frame} {meth : Method} {c : Code} {E : xE} {A : Nat → Prop} {σ : xS} (C : xC p s m args meth c R E A bM_misuse 7 yM_misuse (some .int) 0 0 0) (τ : yS) (res : Int32 × yS) (hf : fM_misuse_73 τ = some res) (H : Heap) (locs : List Loc) (ls : Array Slot) (hw : xW E A s σ τ H locs) (hl : lv_has ls 7 [(0, .ref (E.2.2.1 30 0))]) : W p l e R s m args below meth c H locs 0 0 (MQ below (xQ E A (some (.int res.1)) σ res.2) args s 0 0 A) (F0 m 73 ls []) := by
  have hx := C.1
  have hb := C.2.1
  unfold fM_misuse_73 at hf
  refine lv_bipush (v := (-3)) hx hb dM_misuse_73 (by decide) ?_
  refine lv_istore (lv' := [(6, .int (-3)), (0, .ref (E.2.2.1 30 0))]) hx hb dM_misuse_75 hl (by decide) rfl (fun ls hl => ?_)
  refine lv_goto (tgt := 111) hx hb dM_misuse_77 (by decide) ?_
  exact wM_misuse_111 C τ (-3) res hf H locs ls hw (lv_sub hl [1, 0] rfl)
set_option maxHeartbeats 4000000 in
set_option maxRecDepth 100000 in
theorem wM_misuse_102 {p : Program} {l : Launch} {e : Env} {R : Room} {s : State} {m : MethodId} {args : Array Value} {below : List Frame} {meth : Method} {c : Code} {E : xE} {A : Nat → Prop} {σ : xS} (C : xC p s m args meth c R E A bM_misuse 7 yM_misuse (some .int) 0 0 0) (τ : yS) (a4 : Int32) (a6 : Int32) (res : Int32 × yS) (hf : fM_misuse_102 τ a4 a6 = some res) (H : Heap) (locs : List Loc) (ls : Array Slot) (hw : xW E A s σ τ H locs) (hl : lv_has ls 7 [(0, .ref (E.2.2.1 30 0)), (4, .int a4), (6, .int a6)]) : W p l e R s m args below meth c H locs 0 0 (MQ below (xQ E A (some (.int res.1)) σ res.2) args s 0 0 A) (F0 m 102 ls []) := by
  have hx := C.1
  have hb := C.2.1
  unfold fM_misuse_102 at hf
  refine lv_iload hx hb dM_misuse_102 (lv_at hl 1 rfl) ?_
  refine lv_if_eq (tgt := 111) hx hb dM_misuse_104 (by decide) (fun c34 => ?_) (fun c34 => ?_)
  · replace hf := x_ip c34 hf
    exact wM_misuse_111 C τ a6 res hf H locs ls hw (lv_sub hl [0, 2] rfl)
  · replace hf := x_in c34 hf
    refine lv_bipush (v := (-5)) hx hb dM_misuse_107 (by decide) ?_
    refine lv_istore (lv' := [(6, .int (-5)), (0, .ref (E.2.2.1 30 0)), (4, .int a4)]) hx hb dM_misuse_109 hl (by decide) rfl (fun ls hl => ?_)
    exact wM_misuse_111 C τ (-5) res hf H locs ls hw (lv_sub hl [1, 0] rfl)
set_option maxHeartbeats 4000000 in
set_option maxRecDepth 100000 in
theorem wM_misuse_80 {p : Program} {l : Launch} {e : Env} {R : Room} {s : State} {m : MethodId} {args : Array Value} {below : List Frame} {meth : Method} {c : Code} {E : xE} {A : Nat → Prop} {σ : xS} (C : xC p s m args meth c R E A bM_misuse 7 yM_misuse (some .int) 0 0 0) (τ : yS) (a1 : Int32) (a2 : Int32) (a4 : Int32) (a6 : Int32) (res : Int32 × yS) (hf : fM_misuse_80 τ a1 a2 a4 a6 = some res) (H : Heap) (locs : List Loc) (ls : Array Slot) (hw : xW E A s σ τ H locs) (hl : lv_has ls 7 [(0, .ref (E.2.2.1 30 0)), (1, .int a1), (2, .int a2), (4, .int a4), (6, .int a6)]) : W p l e R s m args below meth c H locs 0 0 (MQ below (xQ E A (some (.int res.1)) σ res.2) args s 0 0 A) (F0 m 80 ls []) := by
  have hx := C.1
  have hb := C.2.1
  unfold fM_misuse_80 at hf
  refine lv_aload_n hx hb dM_misuse_80 rfl (lv_at hl 0 rfl) ?_
  refine y_get C hw 30 0 8 (v := .int (τ 30 0 8)) at_30 rfl rfl ⟨by decide, by decide⟩ wM_96 rfl dM_misuse_81 ?_
  refine lv_if_le (tgt := 102) hx hb dM_misuse_84 (by decide) (fun c35 => ?_) (fun c35 => ?_)
  · replace hf := x_ip c35 hf
    exact wM_misuse_102 C τ a4 a6 res hf H locs ls hw (lv_sub hl [0, 3, 4] rfl)
  · replace hf := x_in c35 hf
    refine lv_iload_n hx hb dM_misuse_87 rfl (lv_at hl 1 rfl) ?_
    refine lv_if_ne (tgt := 102) hx hb dM_misuse_88 (by decide) (fun c36 => ?_) (fun c36 => ?_)
    · replace hf := x_in c36 hf
      exact wM_misuse_102 C τ a4 a6 res hf H locs ls hw (lv_sub hl [0, 3, 4] rfl)
    · replace hf := x_ip c36 hf
      refine lv_iload_n hx hb dM_misuse_91 rfl (lv_at hl 2 rfl) ?_
      refine lv_if_ge (tgt := 102) hx hb dM_misuse_92 (by decide) (fun c37 => ?_) (fun c37 => ?_)
      · replace hf := x_ip c37 hf
        exact wM_misuse_102 C τ a4 a6 res hf H locs ls hw (lv_sub hl [0, 3, 4] rfl)
      · replace hf := x_in c37 hf
        refine lv_bipush (v := (-4)) hx hb dM_misuse_95 (by decide) ?_
        refine lv_istore (lv' := [(6, .int (-4)), (0, .ref (E.2.2.1 30 0)), (1, .int a1), (2, .int a2), (4, .int a4)]) hx hb dM_misuse_97 hl (by decide) rfl (fun ls hl => ?_)
        refine lv_goto (tgt := 111) hx hb dM_misuse_99 (by decide) ?_
        exact wM_misuse_111 C τ (-4) res hf H locs ls hw (lv_sub hl [1, 0] rfl)
set_option maxHeartbeats 4000000 in
set_option maxRecDepth 100000 in
theorem wM_misuse_47 {p : Program} {l : Launch} {e : Env} {R : Room} {s : State} {m : MethodId} {args : Array Value} {below : List Frame} {meth : Method} {c : Code} {E : xE} {A : Nat → Prop} {σ : xS} (C : xC p s m args meth c R E A bM_misuse 7 yM_misuse (some .int) 0 0 0) (τ : yS) (a1 : Int32) (a2 : Int32) (a3 : Int32) (a4 : Int32) (a6 : Int32) (res : Int32 × yS) (hf : fM_misuse_47 τ a1 a2 a3 a4 a6 = some res) (H : Heap) (locs : List Loc) (ls : Array Slot) (hw : xW E A s σ τ H locs) (hl : lv_has ls 7 [(0, .ref (E.2.2.1 30 0)), (1, .int a1), (2, .int a2), (3, .int a3), (4, .int a4), (6, .int a6)]) : W p l e R s m args below meth c H locs 0 0 (MQ below (xQ E A (some (.int res.1)) σ res.2) args s 0 0 A) (F0 m 47 ls []) := by
  have hx := C.1
  have hb := C.2.1
  unfold fM_misuse_47 at hf
  refine lv_aload_n hx hb dM_misuse_47 rfl (lv_at hl 0 rfl) ?_
  refine y_get C hw 30 0 9 (v := .int (τ 30 0 9)) at_30 rfl rfl ⟨by decide, by decide⟩ wM_90 rfl dM_misuse_48 ?_
  refine lv_iconst (v := 4) hx hb dM_misuse_51 (by decide) ?_
  refine lv_icmp_ne (tgt := 80) hx hb dM_misuse_52 (by decide) (fun c38 => ?_) (fun c38 => ?_)
  · replace hf := x_in c38 hf
    exact wM_misuse_80 C τ a1 a2 a4 a6 res hf H locs ls hw (lv_sub hl [0, 1, 2, 4, 5] rfl)
  · replace hf := x_ip c38 hf
    refine lv_aload_n hx hb dM_misuse_55 rfl (lv_at hl 0 rfl) ?_
    refine y_get C hw 30 0 24 (v := .ref (E.2.2.1 47 0)) at_30 rfl rfl ⟨by decide, by decide⟩ wM_59 rfl dM_misuse_56 ?_
    refine lv_aload_n hx hb dM_misuse_59 rfl (lv_at hl 0 rfl) ?_
    refine y_get C hw 30 0 29 (v := .int (τ 30 0 29)) at_30 rfl rfl ⟨by decide, by decide⟩ wM_93 rfl dM_misuse_60 ?_
    refine lv_iconst (v := 1) hx hb dM_misuse_63 (by decide) ?_
    refine lv_isub hx hb dM_misuse_64 ?_
    obtain ⟨g39, hf⟩ := x_g hf
    refine y_ild C hw 47 0 at_47 rfl g39 dM_misuse_65 ?_
    refine lv_if_ne (tgt := 80) hx hb dM_misuse_66 (by decide) (fun c40 => ?_) (fun c40 => ?_)
    · replace hf := x_in c40 hf
      exact wM_misuse_80 C τ a1 a2 a4 a6 res hf H locs ls hw (lv_sub hl [0, 1, 2, 4, 5] rfl)
    · replace hf := x_ip c40 hf
      refine lv_iload_n hx hb dM_misuse_69 rfl (lv_at hl 3 rfl) ?_
      refine lv_if_ne (tgt := 80) hx hb dM_misuse_70 (by decide) (fun c41 => ?_) (fun c41 => ?_)
      · replace hf := x_in c41 hf
        exact wM_misuse_80 C τ a1 a2 a4 a6 res hf H locs ls hw (lv_sub hl [0, 1, 2, 4, 5] rfl)
      · replace hf := x_ip c41 hf
        exact wM_misuse_73 C τ res hf H locs ls hw (lv_sub hl [0] rfl)
set_option maxHeartbeats 4000000 in
set_option maxRecDepth 100000 in
theorem wM_misuse_42 {p : Program} {l : Launch} {e : Env} {R : Room} {s : State} {m : MethodId} {args : Array Value} {below : List Frame} {meth : Method} {c : Code} {E : xE} {A : Nat → Prop} {σ : xS} (C : xC p s m args meth c R E A bM_misuse 7 yM_misuse (some .int) 0 0 0) (τ : yS) (a1 : Int32) (a2 : Int32) (a3 : Int32) (a4 : Int32) (a5 : Int32) (a6 : Int32) (res : Int32 × yS) (hf : fM_misuse_42 τ a1 a2 a3 a4 a5 a6 = some res) (H : Heap) (locs : List Loc) (ls : Array Slot) (hw : xW E A s σ τ H locs) (hl : lv_has ls 7 [(0, .ref (E.2.2.1 30 0)), (1, .int a1), (2, .int a2), (3, .int a3), (4, .int a4), (5, .int a5), (6, .int a6)]) : W p l e R s m args below meth c H locs 0 0 (MQ below (xQ E A (some (.int res.1)) σ res.2) args s 0 0 A) (F0 m 42 ls []) := by
  have hx := C.1
  have hb := C.2.1
  unfold fM_misuse_42 at hf
  refine lv_iload hx hb dM_misuse_42 (lv_at hl 5 rfl) ?_
  refine lv_if_eq (tgt := 73) hx hb dM_misuse_44 (by decide) (fun c42 => ?_) (fun c42 => ?_)
  · replace hf := x_ip c42 hf
    exact wM_misuse_73 C τ res hf H locs ls hw (lv_sub hl [0] rfl)
  · replace hf := x_in c42 hf
    exact wM_misuse_47 C τ a1 a2 a3 a4 a6 res hf H locs ls hw (lv_sub hl [0, 1, 2, 3, 4, 6] rfl)
set_option maxHeartbeats 4000000 in
set_option maxRecDepth 100000 in
theorem wM_misuse_21 {p : Program} {l : Launch} {e : Env} {R : Room} {s : State} {m : MethodId} {args : Array Value} {below : List Frame} {meth : Method} {c : Code} {E : xE} {A : Nat → Prop} {σ : xS} (C : xC p s m args meth c R E A bM_misuse 7 yM_misuse (some .int) 0 0 0) (τ : yS) (a1 : Int32) (a2 : Int32) (a3 : Int32) (a4 : Int32) (t0 : Int32) (res : Int32 × yS) (hf : fM_misuse_21 τ a1 a2 a3 a4 t0 = some res) (H : Heap) (locs : List Loc) (ls : Array Slot) (hw : xW E A s σ τ H locs) (hl : lv_has ls 7 [(0, .ref (E.2.2.1 30 0)), (1, .int a1), (2, .int a2), (3, .int a3), (4, .int a4)]) : W p l e R s m args below meth c H locs 0 0 (MQ below (xQ E A (some (.int res.1)) σ res.2) args s 0 0 A) (F0 m 21 ls [.int t0]) := by
  have hx := C.1
  have hb := C.2.1
  unfold fM_misuse_21 at hf
  refine lv_istore (lv' := [(5, .int t0), (0, .ref (E.2.2.1 30 0)), (1, .int a1), (2, .int a2), (3, .int a3), (4, .int a4)]) hx hb dM_misuse_21 hl (by decide) rfl (fun ls hl => ?_)
  refine lv_iconst (v := 0) hx hb dM_misuse_23 (by decide) ?_
  refine lv_istore (lv' := [(6, .int 0), (5, .int t0), (0, .ref (E.2.2.1 30 0)), (1, .int a1), (2, .int a2), (3, .int a3), (4, .int a4)]) hx hb dM_misuse_24 hl (by decide) rfl (fun ls hl => ?_)
  refine lv_aload_n hx hb dM_misuse_26 rfl (lv_at hl 2 rfl) ?_
  refine y_get C hw 30 0 9 (v := .int (τ 30 0 9)) at_30 rfl rfl ⟨by decide, by decide⟩ wM_90 rfl dM_misuse_27 ?_
  refine lv_iconst (v := 2) hx hb dM_misuse_30 (by decide) ?_
  refine lv_icmp_eq (tgt := 42) hx hb dM_misuse_31 (by decide) (fun c43 => ?_) (fun c43 => ?_)
  · replace hf := x_ip c43 hf
    exact wM_misuse_42 C τ a1 a2 a3 a4 t0 0 res hf H locs ls hw (lv_sub hl [2, 3, 4, 5, 6, 1, 0] rfl)
  · replace hf := x_in c43 hf
    refine lv_aload_n hx hb dM_misuse_34 rfl (lv_at hl 2 rfl) ?_
    refine y_get C hw 30 0 9 (v := .int (τ 30 0 9)) at_30 rfl rfl ⟨by decide, by decide⟩ wM_90 rfl dM_misuse_35 ?_
    refine lv_iconst (v := 3) hx hb dM_misuse_38 (by decide) ?_
    refine lv_icmp_ne (tgt := 47) hx hb dM_misuse_39 (by decide) (fun c44 => ?_) (fun c44 => ?_)
    · replace hf := x_in c44 hf
      exact wM_misuse_47 C τ a1 a2 a3 a4 0 res hf H locs ls hw (lv_sub hl [2, 3, 4, 5, 6, 0] rfl)
    · replace hf := x_ip c44 hf
      exact wM_misuse_42 C τ a1 a2 a3 a4 t0 0 res hf H locs ls hw (lv_sub hl [2, 3, 4, 5, 6, 1, 0] rfl)
set_option maxHeartbeats 4000000 in
set_option maxRecDepth 100000 in
theorem wM_misuse_16 {p : Program} {l : Launch} {e : Env} {R : Room} {s : State} {m : MethodId} {args : Array Value} {below : List Frame} {meth : Method} {c : Code} {E : xE} {A : Nat → Prop} {σ : xS} (C : xC p s m args meth c R E A bM_misuse 7 yM_misuse (some .int) 0 0 0) (τ : yS) (a1 : Int32) (a2 : Int32) (a3 : Int32) (a4 : Int32) (res : Int32 × yS) (hf : fM_misuse_16 τ a1 a2 a3 a4 = some res) (H : Heap) (locs : List Loc) (ls : Array Slot) (hw : xW E A s σ τ H locs) (hl : lv_has ls 7 [(0, .ref (E.2.2.1 30 0)), (1, .int a1), (2, .int a2), (3, .int a3), (4, .int a4)]) : W p l e R s m args below meth c H locs 0 0 (MQ below (xQ E A (some (.int res.1)) σ res.2) args s 0 0 A) (F0 m 16 ls []) := by
  have hx := C.1
  have hb := C.2.1
  unfold fM_misuse_16 at hf
  refine lv_iconst (v := 1) hx hb dM_misuse_16 (by decide) ?_
  refine lv_goto (tgt := 21) hx hb dM_misuse_17 (by decide) ?_
  exact wM_misuse_21 C τ a1 a2 a3 a4 1 res hf H locs ls hw (lv_sub hl [0, 1, 2, 3, 4] rfl)
set_option maxHeartbeats 4000000 in
set_option maxRecDepth 100000 in
theorem wM_misuse_20 {p : Program} {l : Launch} {e : Env} {R : Room} {s : State} {m : MethodId} {args : Array Value} {below : List Frame} {meth : Method} {c : Code} {E : xE} {A : Nat → Prop} {σ : xS} (C : xC p s m args meth c R E A bM_misuse 7 yM_misuse (some .int) 0 0 0) (τ : yS) (a1 : Int32) (a2 : Int32) (a3 : Int32) (a4 : Int32) (res : Int32 × yS) (hf : fM_misuse_20 τ a1 a2 a3 a4 = some res) (H : Heap) (locs : List Loc) (ls : Array Slot) (hw : xW E A s σ τ H locs) (hl : lv_has ls 7 [(0, .ref (E.2.2.1 30 0)), (1, .int a1), (2, .int a2), (3, .int a3), (4, .int a4)]) : W p l e R s m args below meth c H locs 0 0 (MQ below (xQ E A (some (.int res.1)) σ res.2) args s 0 0 A) (F0 m 20 ls []) := by
  have hx := C.1
  have hb := C.2.1
  unfold fM_misuse_20 at hf
  refine lv_iconst (v := 0) hx hb dM_misuse_20 (by decide) ?_
  exact wM_misuse_21 C τ a1 a2 a3 a4 0 res hf H locs ls hw (lv_sub hl [0, 1, 2, 3, 4] rfl)
set_option maxHeartbeats 4000000 in
set_option maxRecDepth 100000 in
theorem cM_misuse (l : Launch) (E : xE) (τ : yS) (σ : xS) (a1 : Int32) (a2 : Int32) (a3 : Int32) (a4 : Int32) (res : Int32 × yS) (hf : fM_misuse τ a1 a2 a3 a4 = some res) : xM l E yM_misuse bM_misuse 7 (some .int) 0 0 0 [.ref (E.2.2.1 30 0), .int a1, .int a2, .int a3, .int a4] σ τ (some (.int res.1)) σ res.2 := by
  refine x_met (by decide) (Nat.le_of_ble_eq_true rfl) (fun p e R s m args below meth c A ls H locs C hw hl => ?_)
  have hl : lv_has ls 7 [(0, .ref (E.2.2.1 30 0)), (1, .int a1), (2, .int a2), (3, .int a3), (4, .int a4)] := hl
  have hx := C.1
  have hb := C.2.1
  unfold fM_misuse at hf
  refine lv_iload_n hx hb dM_misuse_0 rfl (lv_at hl 1 rfl) ?_
  refine lv_if_ne (tgt := 16) hx hb dM_misuse_1 (by decide) (fun c45 => ?_) (fun c45 => ?_)
  · replace hf := x_in c45 hf
    exact wM_misuse_16 C τ a1 a2 a3 a4 res hf H locs ls hw (lv_sub hl [0, 1, 2, 3, 4] rfl)
  · replace hf := x_ip c45 hf
    refine lv_iload_n hx hb dM_misuse_4 rfl (lv_at hl 2 rfl) ?_
    refine lv_if_lt (tgt := 20) hx hb dM_misuse_5 (by decide) (fun c46 => ?_) (fun c46 => ?_)
    · replace hf := x_ip c46 hf
      exact wM_misuse_20 C τ a1 a2 a3 a4 res hf H locs ls hw (lv_sub hl [0, 1, 2, 3, 4] rfl)
    · replace hf := x_in c46 hf
      refine lv_iload_n hx hb dM_misuse_8 rfl (lv_at hl 2 rfl) ?_
      refine lv_aload_n hx hb dM_misuse_9 rfl (lv_at hl 0 rfl) ?_
      refine y_get C hw 30 0 10 (v := .int (τ 30 0 10)) at_30 rfl rfl ⟨by decide, by decide⟩ wM_87 rfl dM_misuse_10 ?_
      refine lv_icmp_ne (tgt := 20) hx hb dM_misuse_13 (by decide) (fun c47 => ?_) (fun c47 => ?_)
      · replace hf := x_in c47 hf
        exact wM_misuse_20 C τ a1 a2 a3 a4 res hf H locs ls hw (lv_sub hl [0, 1, 2, 3, 4] rfl)
      · replace hf := x_ip c47 hf
        exact wM_misuse_16 C τ a1 a2 a3 a4 res hf H locs ls hw (lv_sub hl [0, 1, 2, 3, 4] rfl)
-- StandInsModel other (Z)I
set_option maxRecDepth 100000 in
theorem dM_other_0 : decode bM_other 0 = .ok (.aload_n 0, 1) := by decide +kernel
set_option maxRecDepth 100000 in
theorem dM_other_1 : decode bM_other 1 = .ok (.iconst 0, 1) := by decide +kernel
set_option maxRecDepth 100000 in
theorem dM_other_2 : decode bM_other 2 = .ok (.iconst (-1), 1) := by decide +kernel
set_option maxRecDepth 100000 in
theorem dM_other_3 : decode bM_other 3 = .ok (.iconst 0, 1) := by decide +kernel
set_option maxRecDepth 100000 in
theorem dM_other_4 : decode bM_other 4 = .ok (.iload_n 1, 1) := by decide +kernel
set_option maxRecDepth 100000 in
theorem dM_other_5 : decode bM_other 5 = .ok (.invokevirtual 102, 3) := by decide +kernel
set_option maxRecDepth 100000 in
theorem dM_other_8 : decode bM_other 8 = .ok (.istore_n 2, 1) := by decide +kernel
set_option maxRecDepth 100000 in
theorem dM_other_9 : decode bM_other 9 = .ok (.aload_n 0, 1) := by decide +kernel
set_option maxRecDepth 100000 in
theorem dM_other_10 : decode bM_other 10 = .ok (.iconst 0, 1) := by decide +kernel
set_option maxRecDepth 100000 in
theorem dM_other_11 : decode bM_other 11 = .ok (.putfield 90, 3) := by decide +kernel
set_option maxRecDepth 100000 in
theorem dM_other_14 : decode bM_other 14 = .ok (.iload_n 2, 1) := by decide +kernel
set_option maxRecDepth 100000 in
theorem dM_other_15 : decode bM_other 15 = .ok (.ireturn, 1) := by decide +kernel
def fM_other (τ : yS) (a1 : Int32) : Option (Int32 × yS) :=
  xb (fM_misuse τ 0 (-1) 0 a1) fun r2 s3 =>
  xl (y_si s3 30 0 9 0) fun s4 =>
  some (r2, s4)
set_option maxHeartbeats 4000000 in
set_option maxRecDepth 100000 in
theorem cM_other (l : Launch) (E : xE) (τ : yS) (σ : xS) (a1 : Int32) (res : Int32 × yS) (hf : fM_other τ a1 = some res) : xM l E yM_other bM_other 3 (some .int) 1 0 0 [.ref (E.2.2.1 30 0), .int a1] σ τ (some (.int res.1)) σ res.2 := by
  refine x_met (by decide) (Nat.le_of_ble_eq_true rfl) (fun p e R s m args below meth c A ls H locs C hw hl => ?_)
  have hl : lv_has ls 3 [(0, .ref (E.2.2.1 30 0)), (1, .int a1)] := hl
  have hx := C.1
  have hb := C.2.1
  unfold fM_other at hf
  refine lv_aload_n hx hb dM_other_0 rfl (lv_at hl 0 rfl) ?_
  refine lv_iconst (v := 0) hx hb dM_other_1 (by decide) ?_
  refine lv_iconst (v := (-1)) hx hb dM_other_2 (by decide) ?_
  refine lv_iconst (v := 0) hx hb dM_other_3 (by decide) ?_
  refine lv_iload_n hx hb dM_other_4 rfl (lv_at hl 1 rfl) ?_
  obtain ⟨r2, s3, h1, hf⟩ := x_b hf
  refine x_callV (As := [.int 0, .int (-1), .int 0, .int a1]) (rest := []) (st1 := [.int r2]) C hw (cM_misuse l E τ σ 0 (-1) 0 a1 (r2, s3) h1) kM_102 (x_recvY C hw 30 0 at_30 rfl rfl) (by decide) rfl rfl hl.1 (lv_room (Nat.le_of_ble_eq_true rfl)) dM_other_5 ⟨by decide, by decide⟩ rfl (fun H locs hw => ?_)
  refine lv_istore_n (lv' := [(2, .int r2), (0, .ref (E.2.2.1 30 0)), (1, .int a1)]) hx hb dM_other_8 rfl hl (by decide) rfl (fun ls hl => ?_)
  refine lv_aload_n hx hb dM_other_9 rfl (lv_at hl 1 rfl) ?_
  refine lv_iconst (v := 0) hx hb dM_other_10 (by decide) ?_
  refine y_puti C hw 30 0 9 at_30 rfl rfl rfl ⟨rfl, rfl⟩ ⟨by decide, by decide⟩ (Nat.le_of_ble_eq_true rfl) wM_90 dM_other_11 (fun H locs hw => ?_)
  obtain ⟨s4, es4, hf⟩ := x_l hf
  rw [← es4] at hw
  refine lv_iload_n hx hb dM_other_14 rfl (lv_at hl 0 rfl) ?_
  obtain rfl := Option.some.inj hf
  exact x_iret C hw dM_other_15
-- StandInsModel willNotDo (III)Z
set_option maxRecDepth 100000 in
theorem dM_willNotDo_0 : decode bM_willNotDo 0 = .ok (.aload_n 0, 1) := by decide +kernel
set_option maxRecDepth 100000 in
theorem dM_willNotDo_1 : decode bM_willNotDo 1 = .ok (.getfield 65, 3) := by decide +kernel
set_option maxRecDepth 100000 in
theorem dM_willNotDo_4 : decode bM_willNotDo 4 = .ok (.iconst 4, 1) := by decide +kernel
set_option maxRecDepth 100000 in
theorem dM_willNotDo_5 : decode bM_willNotDo 5 = .ok (.iload_n 1, 1) := by decide +kernel
set_option maxRecDepth 100000 in
theorem dM_willNotDo_6 : decode bM_willNotDo 6 = .ok (.imul, 1) := by decide +kernel
set_option maxRecDepth 100000 in
theorem dM_willNotDo_7 : decode bM_willNotDo 7 = .ok (.iload_n 2, 1) := by decide +kernel
set_option maxRecDepth 100000 in
theorem dM_willNotDo_8 : decode bM_willNotDo 8 = .ok (.iadd, 1) := by decide +kernel
set_option maxRecDepth 100000 in
theorem dM_willNotDo_9 : decode bM_willNotDo 9 = .ok (.iaload, 1) := by decide +kernel
set_option maxRecDepth 100000 in
theorem dM_willNotDo_10 : decode bM_willNotDo 10 = .ok (.istore 4, 2) := by decide +kernel
set_option maxRecDepth 100000 in
theorem dM_willNotDo_12 : decode bM_willNotDo 12 = .ok (.iload 4, 2) := by decide +kernel
set_option maxRecDepth 100000 in
theorem dM_willNotDo_14 : decode bM_willNotDo 14 = .ok (.iconst 2, 1) := by decide +kernel
set_option maxRecDepth 100000 in
theorem dM_willNotDo_15 : decode bM_willNotDo 15 = .ok (.if_icmp .ne 22, 3) := by decide +kernel
set_option maxRecDepth 100000 in
theorem dM_willNotDo_18 : decode bM_willNotDo 18 = .ok (.aload_n 0, 1) := by decide +kernel
set_option maxRecDepth 100000 in
theorem dM_willNotDo_19 : decode bM_willNotDo 19 = .ok (.getfield 68, 3) := by decide +kernel
set_option maxRecDepth 100000 in
theorem dM_willNotDo_22 : decode bM_willNotDo 22 = .ok (.iconst 4, 1) := by decide +kernel
set_option maxRecDepth 100000 in
theorem dM_willNotDo_23 : decode bM_willNotDo 23 = .ok (.iload_n 1, 1) := by decide +kernel
set_option maxRecDepth 100000 in
theorem dM_willNotDo_24 : decode bM_willNotDo 24 = .ok (.imul, 1) := by decide +kernel
set_option maxRecDepth 100000 in
theorem dM_willNotDo_25 : decode bM_willNotDo 25 = .ok (.iload_n 2, 1) := by decide +kernel
set_option maxRecDepth 100000 in
theorem dM_willNotDo_26 : decode bM_willNotDo 26 = .ok (.iadd, 1) := by decide +kernel
set_option maxRecDepth 100000 in
theorem dM_willNotDo_27 : decode bM_willNotDo 27 = .ok (.iaload, 1) := by decide +kernel
set_option maxRecDepth 100000 in
theorem dM_willNotDo_28 : decode bM_willNotDo 28 = .ok (.aload_n 0, 1) := by decide +kernel
set_option maxRecDepth 100000 in
theorem dM_willNotDo_29 : decode bM_willNotDo 29 = .ok (.getfield 7, 3) := by decide +kernel
set_option maxRecDepth 100000 in
theorem dM_willNotDo_32 : decode bM_willNotDo 32 = .ok (.iload_n 3, 1) := by decide +kernel
set_option maxRecDepth 100000 in
theorem dM_willNotDo_33 : decode bM_willNotDo 33 = .ok (.iaload, 1) := by decide +kernel
set_option maxRecDepth 100000 in
theorem dM_willNotDo_34 : decode bM_willNotDo 34 = .ok (.if_icmp .ge 18, 3) := by decide +kernel
set_option maxRecDepth 100000 in
theorem dM_willNotDo_37 : decode bM_willNotDo 37 = .ok (.iload 4, 2) := by decide +kernel
set_option maxRecDepth 100000 in
theorem dM_willNotDo_39 : decode bM_willNotDo 39 = .ok (.iconst 1, 1) := by decide +kernel
set_option maxRecDepth 100000 in
theorem dM_willNotDo_40 : decode bM_willNotDo 40 = .ok (.if_icmp .eq 16, 3) := by decide +kernel
set_option maxRecDepth 100000 in
theorem dM_willNotDo_43 : decode bM_willNotDo 43 = .ok (.aload_n 0, 1) := by decide +kernel
set_option maxRecDepth 100000 in
theorem dM_willNotDo_44 : decode bM_willNotDo 44 = .ok (.getfield 13, 3) := by decide +kernel
set_option maxRecDepth 100000 in
theorem dM_willNotDo_47 : decode bM_willNotDo 47 = .ok (.iload_n 3, 1) := by decide +kernel
set_option maxRecDepth 100000 in
theorem dM_willNotDo_48 : decode bM_willNotDo 48 = .ok (.baload, 1) := by decide +kernel
set_option maxRecDepth 100000 in
theorem dM_willNotDo_49 : decode bM_willNotDo 49 = .ok (.ifCond .ne 7, 3) := by decide +kernel
set_option maxRecDepth 100000 in
theorem dM_willNotDo_52 : decode bM_willNotDo 52 = .ok (.iconst 1, 1) := by decide +kernel
set_option maxRecDepth 100000 in
theorem dM_willNotDo_53 : decode bM_willNotDo 53 = .ok (.goto 4, 3) := by decide +kernel
set_option maxRecDepth 100000 in
theorem dM_willNotDo_56 : decode bM_willNotDo 56 = .ok (.iconst 0, 1) := by decide +kernel
set_option maxRecDepth 100000 in
theorem dM_willNotDo_57 : decode bM_willNotDo 57 = .ok (.ireturn, 1) := by decide +kernel
def fM_willNotDo_52 (τ : yS) : Option (Int32) :=
  some 1
def fM_willNotDo_37 (τ : yS) (a3 : Int32) (a4 : Int32) : Option (Int32) :=
  if a4 = 1 then
  (some 0)
  else
  (if ¬ (a3 < 0 ∨ 12 ≤ a3.toNatClampNeg) then
  if (τ 32 0 a3.toNatClampNeg) = 0 then
  (fM_willNotDo_52 τ)
  else
  (some 0)
  else none)
def fM_willNotDo (τ : yS) (a1 : Int32) (a2 : Int32) (a3 : Int32) : Option (Int32) :=
  if ¬ (((4 * a1) + a2) < 0 ∨ 68 ≤ ((4 * a1) + a2).toNatClampNeg) then
  if (τ 49 0 (((4 * a1) + a2).toNatClampNeg)) = 2 then
  (if ¬ (a3 < 0 ∨ 12 ≤ a3.toNatClampNeg) then
  if (τ 31 0 a3.toNatClampNeg) ≤ (τ 50 0 (((4 * a1) + a2).toNatClampNeg)) then
  (fM_willNotDo_52 τ)
  else
  (fM_willNotDo_37 τ a3 (τ 49 0 (((4 * a1) + a2).toNatClampNeg)))
  else none)
  else
  (fM_willNotDo_37 τ a3 (τ 49 0 (((4 * a1) + a2).toNatClampNeg)))
  else none
set_option maxHeartbeats 4000000 in
set_option maxRecDepth 100000 in
theorem wM_willNotDo_52 {p : Program} {l : Launch} {e : Env} {R : Room} {s : State} {m : MethodId} {args : Array Value} {below : List Frame} {meth : Method} {c : Code} {E : xE} {A : Nat → Prop} {σ : xS} (C : xC p s m args meth c R E A bM_willNotDo 5 yM_willNotDo (some .boolean) 0 0 0) (τ : yS) (res : Int32) (hf : fM_willNotDo_52 τ = some res) (H : Heap) (locs : List Loc) (ls : Array Slot) (hw : xW E A s σ τ H locs) (hl : lv_has ls 5 []) : W p l e R s m args below meth c H locs 0 0 (MQ below (xQ E A (some (.int res)) σ τ) args s 0 0 A) (F0 m 52 ls []) := by
  have hx := C.1
  have hb := C.2.1
  unfold fM_willNotDo_52 at hf
  refine lv_iconst (v := 1) hx hb dM_willNotDo_52 (by decide) ?_
  refine lv_goto (tgt := 57) hx hb dM_willNotDo_53 (by decide) ?_
  obtain rfl := Option.some.inj hf
  exact x_zret C hw rfl dM_willNotDo_57
set_option maxHeartbeats 4000000 in
set_option maxRecDepth 100000 in
theorem wM_willNotDo_37 {p : Program} {l : Launch} {e : Env} {R : Room} {s : State} {m : MethodId} {args : Array Value} {below : List Frame} {meth : Method} {c : Code} {E : xE} {A : Nat → Prop} {σ : xS} (C : xC p s m args meth c R E A bM_willNotDo 5 yM_willNotDo (some .boolean) 0 0 0) (τ : yS) (a3 : Int32) (a4 : Int32) (res : Int32) (hf : fM_willNotDo_37 τ a3 a4 = some res) (H : Heap) (locs : List Loc) (ls : Array Slot) (hw : xW E A s σ τ H locs) (hl : lv_has ls 5 [(0, .ref (E.2.2.1 30 0)), (3, .int a3), (4, .int a4)]) : W p l e R s m args below meth c H locs 0 0 (MQ below (xQ E A (some (.int res)) σ τ) args s 0 0 A) (F0 m 37 ls []) := by
  have hx := C.1
  have hb := C.2.1
  unfold fM_willNotDo_37 at hf
  refine lv_iload hx hb dM_willNotDo_37 (lv_at hl 2 rfl) ?_
  refine lv_iconst (v := 1) hx hb dM_willNotDo_39 (by decide) ?_
  refine lv_icmp_eq (tgt := 56) hx hb dM_willNotDo_40 (by decide) (fun c4 => ?_) (fun c4 => ?_)
  · replace hf := x_ip c4 hf
    refine lv_iconst (v := 0) hx hb dM_willNotDo_56 (by decide) ?_
    obtain rfl := Option.some.inj hf
    exact x_zret C hw rfl dM_willNotDo_57
  · replace hf := x_in c4 hf
    refine lv_aload_n hx hb dM_willNotDo_43 rfl (lv_at hl 0 rfl) ?_
    refine y_get C hw 30 0 1 (v := .ref (E.2.2.1 32 0)) at_30 rfl rfl ⟨by decide, by decide⟩ wM_13 rfl dM_willNotDo_44 ?_
    refine lv_iload_n hx hb dM_willNotDo_47 rfl (lv_at hl 1 rfl) ?_
    obtain ⟨g5, hf⟩ := x_g hf
    refine y_zld C hw 32 0 at_32 rfl g5 dM_willNotDo_48 ?_
    refine lv_if_ne (tgt := 56) hx hb dM_willNotDo_49 (by decide) (fun c6 => ?_) (fun c6 => ?_)
    · replace hf := x_in c6 hf
      refine lv_iconst (v := 0) hx hb dM_willNotDo_56 (by decide) ?_
      obtain rfl := Option.some.inj hf
      exact x_zret C hw rfl dM_willNotDo_57
    · replace hf := x_ip c6 hf
      exact wM_willNotDo_52 C τ res hf H locs ls hw (lv_sub hl [] rfl)
set_option maxHeartbeats 4000000 in
set_option maxRecDepth 100000 in
theorem cM_willNotDo (l : Launch) (E : xE) (τ : yS) (σ : xS) (a1 : Int32) (a2 : Int32) (a3 : Int32) (res : Int32) (hf : fM_willNotDo τ a1 a2 a3 = some res) : xM l E yM_willNotDo bM_willNotDo 5 (some .boolean) 0 0 0 [.ref (E.2.2.1 30 0), .int a1, .int a2, .int a3] σ τ (some (.int res)) σ τ := by
  refine x_met (by decide) (Nat.le_of_ble_eq_true rfl) (fun p e R s m args below meth c A ls H locs C hw hl => ?_)
  have hl : lv_has ls 5 [(0, .ref (E.2.2.1 30 0)), (1, .int a1), (2, .int a2), (3, .int a3)] := hl
  have hx := C.1
  have hb := C.2.1
  unfold fM_willNotDo at hf
  refine lv_aload_n hx hb dM_willNotDo_0 rfl (lv_at hl 0 rfl) ?_
  refine y_get C hw 30 0 26 (v := .ref (E.2.2.1 49 0)) at_30 rfl rfl ⟨by decide, by decide⟩ wM_65 rfl dM_willNotDo_1 ?_
  refine lv_iconst (v := 4) hx hb dM_willNotDo_4 (by decide) ?_
  refine lv_iload_n hx hb dM_willNotDo_5 rfl (lv_at hl 1 rfl) ?_
  refine lv_imul hx hb dM_willNotDo_6 ?_
  refine lv_iload_n hx hb dM_willNotDo_7 rfl (lv_at hl 2 rfl) ?_
  refine lv_iadd hx hb dM_willNotDo_8 ?_
  obtain ⟨g7, hf⟩ := x_g hf
  refine y_ild C hw 49 0 at_49 rfl g7 dM_willNotDo_9 ?_
  refine lv_istore (lv' := [(4, .int (τ 49 0 (((4 * a1) + a2).toNatClampNeg))), (0, .ref (E.2.2.1 30 0)), (1, .int a1), (2, .int a2), (3, .int a3)]) hx hb dM_willNotDo_10 hl (by decide) rfl (fun ls hl => ?_)
  refine lv_iload hx hb dM_willNotDo_12 (lv_at hl 0 rfl) ?_
  refine lv_iconst (v := 2) hx hb dM_willNotDo_14 (by decide) ?_
  refine lv_icmp_ne (tgt := 37) hx hb dM_willNotDo_15 (by decide) (fun c8 => ?_) (fun c8 => ?_)
  · replace hf := x_in c8 hf
    exact wM_willNotDo_37 C τ a3 (τ 49 0 (((4 * a1) + a2).toNatClampNeg)) res hf H locs ls hw (lv_sub hl [1, 4, 0] rfl)
  · replace hf := x_ip c8 hf
    refine lv_aload_n hx hb dM_willNotDo_18 rfl (lv_at hl 1 rfl) ?_
    refine y_get C hw 30 0 27 (v := .ref (E.2.2.1 50 0)) at_30 rfl rfl ⟨by decide, by decide⟩ wM_68 rfl dM_willNotDo_19 ?_
    refine lv_iconst (v := 4) hx hb dM_willNotDo_22 (by decide) ?_
    refine lv_iload_n hx hb dM_willNotDo_23 rfl (lv_at hl 2 rfl) ?_
    refine lv_imul hx hb dM_willNotDo_24 ?_
    refine lv_iload_n hx hb dM_willNotDo_25 rfl (lv_at hl 3 rfl) ?_
    refine lv_iadd hx hb dM_willNotDo_26 ?_
    refine y_ild C hw 50 0 at_50 rfl g7 dM_willNotDo_27 ?_
    refine lv_aload_n hx hb dM_willNotDo_28 rfl (lv_at hl 1 rfl) ?_
    refine y_get C hw 30 0 0 (v := .ref (E.2.2.1 31 0)) at_30 rfl rfl ⟨by decide, by decide⟩ wM_7 rfl dM_willNotDo_29 ?_
    refine lv_iload_n hx hb dM_willNotDo_32 rfl (lv_at hl 4 rfl) ?_
    obtain ⟨g9, hf⟩ := x_g hf
    refine y_ild C hw 31 0 at_31 rfl g9 dM_willNotDo_33 ?_
    refine lv_icmp_ge (tgt := 52) hx hb dM_willNotDo_34 (by decide) (fun c10 => ?_) (fun c10 => ?_)
    · replace hf := x_ip c10 hf
      exact wM_willNotDo_52 C τ res hf H locs ls hw (lv_sub hl [] rfl)
    · replace hf := x_in c10 hf
      exact wM_willNotDo_37 C τ a3 (τ 49 0 (((4 * a1) + a2).toNatClampNeg)) res hf H locs ls hw (lv_sub hl [1, 4, 0] rfl)
-- StandInsModel define (IIIZ)I
set_option maxRecDepth 100000 in
theorem dM_define_0 : decode bM_define 0 = .ok (.iload_n 1, 1) := by decide +kernel
set_option maxRecDepth 100000 in
theorem dM_define_1 : decode bM_define 1 = .ok (.iconst 0, 1) := by decide +kernel
set_option maxRecDepth 100000 in
theorem dM_define_2 : decode bM_define 2 = .ok (.iconst 2, 1) := by decide +kernel
set_option maxRecDepth 100000 in
theorem dM_define_3 : decode bM_define 3 = .ok (.invokestatic 106, 3) := by decide +kernel
set_option maxRecDepth 100000 in
theorem dM_define_6 : decode bM_define 6 = .ok (.ifCond .eq 21, 3) := by decide +kernel
set_option maxRecDepth 100000 in
theorem dM_define_9 : decode bM_define 9 = .ok (.iload_n 2, 1) := by decide +kernel
set_option maxRecDepth 100000 in
theorem dM_define_10 : decode bM_define 10 = .ok (.iconst 0, 1) := by decide +kernel
set_option maxRecDepth 100000 in
theorem dM_define_11 : decode bM_define 11 = .ok (.iconst 3, 1) := by decide +kernel
set_option maxRecDepth 100000 in
theorem dM_define_12 : decode bM_define 12 = .ok (.invokestatic 106, 3) := by decide +kernel
set_option maxRecDepth 100000 in
theorem dM_define_15 : decode bM_define 15 = .ok (.ifCond .eq 12, 3) := by decide +kernel
set_option maxRecDepth 100000 in
theorem dM_define_18 : decode bM_define 18 = .ok (.iload_n 3, 1) := by decide +kernel
set_option maxRecDepth 100000 in
theorem dM_define_19 : decode bM_define 19 = .ok (.iconst 0, 1) := by decide +kernel
set_option maxRecDepth 100000 in
theorem dM_define_20 : decode bM_define 20 = .ok (.iconst 2, 1) := by decide +kernel
set_option maxRecDepth 100000 in
theorem dM_define_21 : decode bM_define 21 = .ok (.invokestatic 106, 3) := by decide +kernel
set_option maxRecDepth 100000 in
theorem dM_define_24 : decode bM_define 24 = .ok (.ifCond .ne 5, 3) := by decide +kernel
set_option maxRecDepth 100000 in
theorem dM_define_27 : decode bM_define 27 = .ok (.iconst (-1), 1) := by decide +kernel
set_option maxRecDepth 100000 in
theorem dM_define_28 : decode bM_define 28 = .ok (.ireturn, 1) := by decide +kernel
set_option maxRecDepth 100000 in
theorem dM_define_29 : decode bM_define 29 = .ok (.aload_n 0, 1) := by decide +kernel
set_option maxRecDepth 100000 in
theorem dM_define_30 : decode bM_define 30 = .ok (.getfield 110, 3) := by decide +kernel
set_option maxRecDepth 100000 in
theorem dM_define_33 : decode bM_define 33 = .ok (.ifCond .le 6, 3) := by decide +kernel
set_option maxRecDepth 100000 in
theorem dM_define_36 : decode bM_define 36 = .ok (.bipush (-2), 2) := by decide +kernel
set_option maxRecDepth 100000 in
theorem dM_define_38 : decode bM_define 38 = .ok (.ireturn, 1) := by decide +kernel
set_option maxRecDepth 100000 in
theorem dM_define_39 : decode bM_define 39 = .ok (.aload_n 0, 1) := by decide +kernel
set_option maxRecDepth 100000 in
theorem dM_define_40 : decode bM_define 40 = .ok (.iconst 0, 1) := by decide +kernel
set_option maxRecDepth 100000 in
theorem dM_define_41 : decode bM_define 41 = .ok (.invokevirtual 113, 3) := by decide +kernel
set_option maxRecDepth 100000 in
theorem dM_define_44 : decode bM_define 44 = .ok (.istore 5, 2) := by decide +kernel
set_option maxRecDepth 100000 in
theorem dM_define_46 : decode bM_define 46 = .ok (.iload 5, 2) := by decide +kernel
set_option maxRecDepth 100000 in
theorem dM_define_48 : decode bM_define 48 = .ok (.ifCond .ge 6, 3) := by decide +kernel
set_option maxRecDepth 100000 in
theorem dM_define_51 : decode bM_define 51 = .ok (.iload 5, 2) := by decide +kernel
set_option maxRecDepth 100000 in
theorem dM_define_53 : decode bM_define 53 = .ok (.ireturn, 1) := by decide +kernel
set_option maxRecDepth 100000 in
theorem dM_define_54 : decode bM_define 54 = .ok (.aload_n 0, 1) := by decide +kernel
set_option maxRecDepth 100000 in
theorem dM_define_55 : decode bM_define 55 = .ok (.getfield 7, 3) := by decide +kernel
set_option maxRecDepth 100000 in
theorem dM_define_58 : decode bM_define 58 = .ok (.iconst 4, 1) := by decide +kernel
set_option maxRecDepth 100000 in
theorem dM_define_59 : decode bM_define 59 = .ok (.iload_n 1, 1) := by decide +kernel
set_option maxRecDepth 100000 in
theorem dM_define_60 : decode bM_define 60 = .ok (.imul, 1) := by decide +kernel
set_option maxRecDepth 100000 in
theorem dM_define_61 : decode bM_define 61 = .ok (.iload_n 2, 1) := by decide +kernel
set_option maxRecDepth 100000 in
theorem dM_define_62 : decode bM_define 62 = .ok (.iadd, 1) := by decide +kernel
set_option maxRecDepth 100000 in
theorem dM_define_63 : decode bM_define 63 = .ok (.iload_n 3, 1) := by decide +kernel
set_option maxRecDepth 100000 in
theorem dM_define_64 : decode bM_define 64 = .ok (.iastore, 1) := by decide +kernel
set_option maxRecDepth 100000 in
theorem dM_define_65 : decode bM_define 65 = .ok (.aload_n 0, 1) := by decide +kernel
set_option maxRecDepth 100000 in
theorem dM_define_66 : decode bM_define 66 = .ok (.getfield 13, 3) := by decide +kernel
set_option maxRecDepth 100000 in
theorem dM_define_69 : decode bM_define 69 = .ok (.iconst 4, 1) := by decide +kernel
set_option maxRecDepth 100000 in
theorem dM_define_70 : decode bM_define 70 = .ok (.iload_n 1, 1) := by decide +kernel
set_option maxRecDepth 100000 in
theorem dM_define_71 : decode bM_define 71 = .ok (.imul, 1) := by decide +kernel
set_option maxRecDepth 100000 in
theorem dM_define_72 : decode bM_define 72 = .ok (.iload_n 2, 1) := by decide +kernel
set_option maxRecDepth 100000 in
theorem dM_define_73 : decode bM_define 73 = .ok (.iadd, 1) := by decide +kernel
set_option maxRecDepth 100000 in
theorem dM_define_74 : decode bM_define 74 = .ok (.iload 4, 2) := by decide +kernel
set_option maxRecDepth 100000 in
theorem dM_define_76 : decode bM_define 76 = .ok (.bastore, 1) := by decide +kernel
set_option maxRecDepth 100000 in
theorem dM_define_77 : decode bM_define 77 = .ok (.iconst 1, 1) := by decide +kernel
set_option maxRecDepth 100000 in
theorem dM_define_78 : decode bM_define 78 = .ok (.ireturn, 1) := by decide +kernel
def fM_define (τ : yS) (a1 : Int32) (a2 : Int32) (a3 : Int32) (a4 : Int32) : Option (Int32 × yS) :=
  if (fM_in a1 0 2) = 0 then
  (some ((-1), τ))
  else
  (if (fM_in a2 0 3) = 0 then
  (some ((-1), τ))
  else
  (if (fM_in a3 0 2) = 0 then
  (some ((-1), τ))
  else
  (if (τ 30 0 4) ≤ 0 then
  (xb (fM_other τ 0) fun r9 s10 =>
  if 0 ≤ r9 then
  (if ¬ (((4 * a1) + a2) < 0 ∨ 12 ≤ ((4 * a1) + a2).toNatClampNeg) then
  xl (y_si s10 31 0 (((4 * a1) + a2).toNatClampNeg) a3) fun s13 =>
  if a4 = 0 ∨ a4 = 1 then
  xl (y_si s13 32 0 (((4 * a1) + a2).toNatClampNeg) a4) fun s15 =>
  some (1, s15)
  else none
  else none)
  else
  (some (r9, s10)))
  else
  (some ((-2), τ)))))
set_option maxHeartbeats 4000000 in
set_option maxRecDepth 100000 in
theorem cM_define (l : Launch) (E : xE) (τ : yS) (σ : xS) (a1 : Int32) (a2 : Int32) (a3 : Int32) (a4 : Int32) (res : Int32 × yS) (hf : fM_define τ a1 a2 a3 a4 = some res) : xM l E yM_define bM_define 6 (some .int) 2 0 0 [.ref (E.2.2.1 30 0), .int a1, .int a2, .int a3, .int a4] σ τ (some (.int res.1)) σ res.2 := by
  refine x_met (by decide) (Nat.le_of_ble_eq_true rfl) (fun p e R s m args below meth c A ls H locs C hw hl => ?_)
  have hl : lv_has ls 6 [(0, .ref (E.2.2.1 30 0)), (1, .int a1), (2, .int a2), (3, .int a3), (4, .int a4)] := hl
  have hx := C.1
  have hb := C.2.1
  unfold fM_define at hf
  refine lv_iload_n hx hb dM_define_0 rfl (lv_at hl 1 rfl) ?_
  refine lv_iconst (v := 0) hx hb dM_define_1 (by decide) ?_
  refine lv_iconst (v := 2) hx hb dM_define_2 (by decide) ?_
  refine x_callS (As := [.int a1, .int 0, .int 2]) (rest := []) (st1 := [.int (fM_in a1 0 2)]) C hw (cM_in l E τ σ a1 0 2) kM_106 (by decide) rfl rfl hl.1 (lv_room (Nat.le_of_ble_eq_true rfl)) dM_define_3 ⟨by decide, by decide⟩ rfl (fun H locs hw => ?_)
  refine lv_if_eq (tgt := 27) hx hb dM_define_6 (by decide) (fun c2 => ?_) (fun c2 => ?_)
  · replace hf := x_ip c2 hf
    refine lv_iconst (v := (-1)) hx hb dM_define_27 (by decide) ?_
    obtain rfl := Option.some.inj hf
    exact x_iret C hw dM_define_28
  · replace hf := x_in c2 hf
    refine lv_iload_n hx hb dM_define_9 rfl (lv_at hl 2 rfl) ?_
    refine lv_iconst (v := 0) hx hb dM_define_10 (by decide) ?_
    refine lv_iconst (v := 3) hx hb dM_define_11 (by decide) ?_
    refine x_callS (As := [.int a2, .int 0, .int 3]) (rest := []) (st1 := [.int (fM_in a2 0 3)]) C hw (cM_in l E τ σ a2 0 3) kM_106 (by decide) rfl rfl hl.1 (lv_room (Nat.le_of_ble_eq_true rfl)) dM_define_12 ⟨by decide, by decide⟩ rfl (fun H locs hw => ?_)
    refine lv_if_eq (tgt := 27) hx hb dM_define_15 (by decide) (fun c4 => ?_) (fun c4 => ?_)
    · replace hf := x_ip c4 hf
      refine lv_iconst (v := (-1)) hx hb dM_define_27 (by decide) ?_
      obtain rfl := Option.some.inj hf
      exact x_iret C hw dM_define_28
    · replace hf := x_in c4 hf
      refine lv_iload_n hx hb dM_define_18 rfl (lv_at hl 3 rfl) ?_
      refine lv_iconst (v := 0) hx hb dM_define_19 (by decide) ?_
      refine lv_iconst (v := 2) hx hb dM_define_20 (by decide) ?_
      refine x_callS (As := [.int a3, .int 0, .int 2]) (rest := []) (st1 := [.int (fM_in a3 0 2)]) C hw (cM_in l E τ σ a3 0 2) kM_106 (by decide) rfl rfl hl.1 (lv_room (Nat.le_of_ble_eq_true rfl)) dM_define_21 ⟨by decide, by decide⟩ rfl (fun H locs hw => ?_)
      refine lv_if_ne (tgt := 29) hx hb dM_define_24 (by decide) (fun c6 => ?_) (fun c6 => ?_)
      · replace hf := x_in c6 hf
        refine lv_aload_n hx hb dM_define_29 rfl (lv_at hl 0 rfl) ?_
        refine y_get C hw 30 0 4 (v := .int (τ 30 0 4)) at_30 rfl rfl ⟨by decide, by decide⟩ wM_110 rfl dM_define_30 ?_
        refine lv_if_le (tgt := 39) hx hb dM_define_33 (by decide) (fun c7 => ?_) (fun c7 => ?_)
        · replace hf := x_ip c7 hf
          refine lv_aload_n hx hb dM_define_39 rfl (lv_at hl 0 rfl) ?_
          refine lv_iconst (v := 0) hx hb dM_define_40 (by decide) ?_
          obtain ⟨r9, s10, h8, hf⟩ := x_b hf
          refine x_callV (As := [.int 0]) (rest := []) (st1 := [.int r9]) C hw (cM_other l E τ σ 0 (r9, s10) h8) kM_113 (x_recvY C hw 30 0 at_30 rfl rfl) (by decide) rfl rfl hl.1 (lv_room (Nat.le_of_ble_eq_true rfl)) dM_define_41 ⟨by decide, by decide⟩ rfl (fun H locs hw => ?_)
          refine lv_istore (lv' := [(5, .int r9), (0, .ref (E.2.2.1 30 0)), (1, .int a1), (2, .int a2), (3, .int a3), (4, .int a4)]) hx hb dM_define_44 hl (by decide) rfl (fun ls hl => ?_)
          refine lv_iload hx hb dM_define_46 (lv_at hl 0 rfl) ?_
          refine lv_if_ge (tgt := 54) hx hb dM_define_48 (by decide) (fun c11 => ?_) (fun c11 => ?_)
          · replace hf := x_ip c11 hf
            refine lv_aload_n hx hb dM_define_54 rfl (lv_at hl 1 rfl) ?_
            refine y_get C hw 30 0 0 (v := .ref (E.2.2.1 31 0)) at_30 rfl rfl ⟨by decide, by decide⟩ wM_7 rfl dM_define_55 ?_
            refine lv_iconst (v := 4) hx hb dM_define_58 (by decide) ?_
            refine lv_iload_n hx hb dM_define_59 rfl (lv_at hl 2 rfl) ?_
            refine lv_imul hx hb dM_define_60 ?_
            refine lv_iload_n hx hb dM_define_61 rfl (lv_at hl 3 rfl) ?_
            refine lv_iadd hx hb dM_define_62 ?_
            refine lv_iload_n hx hb dM_define_63 rfl (lv_at hl 4 rfl) ?_
            obtain ⟨g12, hf⟩ := x_g hf
            refine y_ist C hw 31 0 at_31 rfl rfl g12 dM_define_64 (fun H locs hw => ?_)
            obtain ⟨s13, es13, hf⟩ := x_l hf
            rw [← es13] at hw
            refine lv_aload_n hx hb dM_define_65 rfl (lv_at hl 1 rfl) ?_
            refine y_get C hw 30 0 1 (v := .ref (E.2.2.1 32 0)) at_30 rfl rfl ⟨by decide, by decide⟩ wM_13 rfl dM_define_66 ?_
            refine lv_iconst (v := 4) hx hb dM_define_69 (by decide) ?_
            refine lv_iload_n hx hb dM_define_70 rfl (lv_at hl 2 rfl) ?_
            refine lv_imul hx hb dM_define_71 ?_
            refine lv_iload_n hx hb dM_define_72 rfl (lv_at hl 3 rfl) ?_
            refine lv_iadd hx hb dM_define_73 ?_
            refine lv_iload hx hb dM_define_74 (lv_at hl 5 rfl) ?_
            obtain ⟨g14, hf⟩ := x_g hf
            refine y_zst C hw 32 0 at_32 g14 rfl rfl g12 dM_define_76 (fun H locs hw => ?_)
            obtain ⟨s15, es15, hf⟩ := x_l hf
            rw [← es15] at hw
            refine lv_iconst (v := 1) hx hb dM_define_77 (by decide) ?_
            obtain rfl := Option.some.inj hf
            exact x_iret C hw dM_define_78
          · replace hf := x_in c11 hf
            refine lv_iload hx hb dM_define_51 (lv_at hl 0 rfl) ?_
            obtain rfl := Option.some.inj hf
            exact x_iret C hw dM_define_53
        · replace hf := x_in c7 hf
          refine lv_bipush (v := (-2)) hx hb dM_define_36 (by decide) ?_
          obtain rfl := Option.some.inj hf
          exact x_iret C hw dM_define_38
      · replace hf := x_ip c6 hf
        refine lv_iconst (v := (-1)) hx hb dM_define_27 (by decide) ?_
        obtain rfl := Option.some.inj hf
        exact x_iret C hw dM_define_28
-- StandInsModel make (II)I
set_option maxRecDepth 100000 in
theorem dM_make_0 : decode bM_make 0 = .ok (.iload_n 1, 1) := by decide +kernel
set_option maxRecDepth 100000 in
theorem dM_make_1 : decode bM_make 1 = .ok (.iconst 0, 1) := by decide +kernel
set_option maxRecDepth 100000 in
theorem dM_make_2 : decode bM_make 2 = .ok (.iconst 2, 1) := by decide +kernel
set_option maxRecDepth 100000 in
theorem dM_make_3 : decode bM_make 3 = .ok (.invokestatic 106, 3) := by decide +kernel
set_option maxRecDepth 100000 in
theorem dM_make_6 : decode bM_make 6 = .ok (.ifCond .eq 12, 3) := by decide +kernel
set_option maxRecDepth 100000 in
theorem dM_make_9 : decode bM_make 9 = .ok (.iload_n 2, 1) := by decide +kernel
set_option maxRecDepth 100000 in
theorem dM_make_10 : decode bM_make 10 = .ok (.iconst 0, 1) := by decide +kernel
set_option maxRecDepth 100000 in
theorem dM_make_11 : decode bM_make 11 = .ok (.iconst 2, 1) := by decide +kernel
set_option maxRecDepth 100000 in
theorem dM_make_12 : decode bM_make 12 = .ok (.invokestatic 106, 3) := by decide +kernel
set_option maxRecDepth 100000 in
theorem dM_make_15 : decode bM_make 15 = .ok (.ifCond .ne 5, 3) := by decide +kernel
set_option maxRecDepth 100000 in
theorem dM_make_18 : decode bM_make 18 = .ok (.iconst (-1), 1) := by decide +kernel
set_option maxRecDepth 100000 in
theorem dM_make_19 : decode bM_make 19 = .ok (.ireturn, 1) := by decide +kernel
set_option maxRecDepth 100000 in
theorem dM_make_20 : decode bM_make 20 = .ok (.aload_n 0, 1) := by decide +kernel
set_option maxRecDepth 100000 in
theorem dM_make_21 : decode bM_make 21 = .ok (.getfield 110, 3) := by decide +kernel
set_option maxRecDepth 100000 in
theorem dM_make_24 : decode bM_make 24 = .ok (.bipush 6, 2) := by decide +kernel
set_option maxRecDepth 100000 in
theorem dM_make_26 : decode bM_make 26 = .ok (.if_icmp .ne 6, 3) := by decide +kernel
set_option maxRecDepth 100000 in
theorem dM_make_29 : decode bM_make 29 = .ok (.bipush (-2), 2) := by decide +kernel
set_option maxRecDepth 100000 in
theorem dM_make_31 : decode bM_make 31 = .ok (.ireturn, 1) := by decide +kernel
set_option maxRecDepth 100000 in
theorem dM_make_32 : decode bM_make 32 = .ok (.aload_n 0, 1) := by decide +kernel
set_option maxRecDepth 100000 in
theorem dM_make_33 : decode bM_make 33 = .ok (.iconst 0, 1) := by decide +kernel
set_option maxRecDepth 100000 in
theorem dM_make_34 : decode bM_make 34 = .ok (.invokevirtual 113, 3) := by decide +kernel
set_option maxRecDepth 100000 in
theorem dM_make_37 : decode bM_make 37 = .ok (.istore_n 3, 1) := by decide +kernel
set_option maxRecDepth 100000 in
theorem dM_make_38 : decode bM_make 38 = .ok (.iload_n 3, 1) := by decide +kernel
set_option maxRecDepth 100000 in
theorem dM_make_39 : decode bM_make 39 = .ok (.ifCond .ge 5, 3) := by decide +kernel
set_option maxRecDepth 100000 in
theorem dM_make_42 : decode bM_make 42 = .ok (.iload_n 3, 1) := by decide +kernel
set_option maxRecDepth 100000 in
theorem dM_make_43 : decode bM_make 43 = .ok (.ireturn, 1) := by decide +kernel
set_option maxRecDepth 100000 in
theorem dM_make_44 : decode bM_make 44 = .ok (.aload_n 0, 1) := by decide +kernel
set_option maxRecDepth 100000 in
theorem dM_make_45 : decode bM_make 45 = .ok (.getfield 17, 3) := by decide +kernel
set_option maxRecDepth 100000 in
theorem dM_make_48 : decode bM_make 48 = .ok (.aload_n 0, 1) := by decide +kernel
set_option maxRecDepth 100000 in
theorem dM_make_49 : decode bM_make 49 = .ok (.getfield 110, 3) := by decide +kernel
set_option maxRecDepth 100000 in
theorem dM_make_52 : decode bM_make 52 = .ok (.iload_n 1, 1) := by decide +kernel
set_option maxRecDepth 100000 in
theorem dM_make_53 : decode bM_make 53 = .ok (.iastore, 1) := by decide +kernel
set_option maxRecDepth 100000 in
theorem dM_make_54 : decode bM_make 54 = .ok (.aload_n 0, 1) := by decide +kernel
set_option maxRecDepth 100000 in
theorem dM_make_55 : decode bM_make 55 = .ok (.getfield 20, 3) := by decide +kernel
set_option maxRecDepth 100000 in
theorem dM_make_58 : decode bM_make 58 = .ok (.aload_n 0, 1) := by decide +kernel
set_option maxRecDepth 100000 in
theorem dM_make_59 : decode bM_make 59 = .ok (.getfield 110, 3) := by decide +kernel
set_option maxRecDepth 100000 in
theorem dM_make_62 : decode bM_make 62 = .ok (.iload_n 2, 1) := by decide +kernel
set_option maxRecDepth 100000 in
theorem dM_make_63 : decode bM_make 63 = .ok (.iastore, 1) := by decide +kernel
set_option maxRecDepth 100000 in
theorem dM_make_64 : decode bM_make 64 = .ok (.aload_n 0, 1) := by decide +kernel
set_option maxRecDepth 100000 in
theorem dM_make_65 : decode bM_make 65 = .ok (.dup, 1) := by decide +kernel
set_option maxRecDepth 100000 in
theorem dM_make_66 : decode bM_make 66 = .ok (.getfield 110, 3) := by decide +kernel
set_option maxRecDepth 100000 in
theorem dM_make_69 : decode bM_make 69 = .ok (.iconst 1, 1) := by decide +kernel
set_option maxRecDepth 100000 in
theorem dM_make_70 : decode bM_make 70 = .ok (.iadd, 1) := by decide +kernel
set_option maxRecDepth 100000 in
theorem dM_make_71 : decode bM_make 71 = .ok (.putfield 110, 3) := by decide +kernel
set_option maxRecDepth 100000 in
theorem dM_make_74 : decode bM_make 74 = .ok (.aload_n 0, 1) := by decide +kernel
set_option maxRecDepth 100000 in
theorem dM_make_75 : decode bM_make 75 = .ok (.getfield 110, 3) := by decide +kernel
set_option maxRecDepth 100000 in
theorem dM_make_78 : decode bM_make 78 = .ok (.iconst 1, 1) := by decide +kernel
set_option maxRecDepth 100000 in
theorem dM_make_79 : decode bM_make 79 = .ok (.isub, 1) := by decide +kernel
set_option maxRecDepth 100000 in
theorem dM_make_80 : decode bM_make 80 = .ok (.ireturn, 1) := by decide +kernel
def fM_make (τ : yS) (a1 : Int32) (a2 : Int32) : Option (Int32 × yS) :=
  if (fM_in a1 0 2) = 0 then
  (some ((-1), τ))
  else
  (if (fM_in a2 0 2) = 0 then
  (some ((-1), τ))
  else
  (if (τ 30 0 4) = 6 then
  (some ((-2), τ))
  else
  (xb (fM_other τ 0) fun r7 s8 =>
  if 0 ≤ r7 then
  (if ¬ ((s8 30 0 4) < 0 ∨ 6 ≤ (s8 30 0 4).toNatClampNeg) then
  xl (y_si s8 33 0 ((s8 30 0 4).toNatClampNeg) a1) fun s11 =>
  if ¬ ((s11 30 0 4) < 0 ∨ 6 ≤ (s11 30 0 4).toNatClampNeg) then
  xl (y_si s11 34 0 ((s11 30 0 4).toNatClampNeg) a2) fun s13 =>
  xl (y_si s13 30 0 4 ((s13 30 0 4) + 1)) fun s14 =>
  some ((s14 30 0 4) - 1, s14)
  else none
  else none)
  else
  (some (r7, s8)))))
set_option maxHeartbeats 4000000 in
set_option maxRecDepth 100000 in
theorem cM_make (l : Launch) (E : xE) (τ : yS) (σ : xS) (a1 : Int32) (a2 : Int32) (res : Int32 × yS) (hf : fM_make τ a1 a2 = some res) : xM l E yM_make bM_make 4 (some .int) 2 0 0 [.ref (E.2.2.1 30 0), .int a1, .int a2] σ τ (some (.int res.1)) σ res.2 := by
  refine x_met (by decide) (Nat.le_of_ble_eq_true rfl) (fun p e R s m args below meth c A ls H locs C hw hl => ?_)
  have hl : lv_has ls 4 [(0, .ref (E.2.2.1 30 0)), (1, .int a1), (2, .int a2)] := hl
  have hx := C.1
  have hb := C.2.1
  unfold fM_make at hf
  refine lv_iload_n hx hb dM_make_0 rfl (lv_at hl 1 rfl) ?_
  refine lv_iconst (v := 0) hx hb dM_make_1 (by decide) ?_
  refine lv_iconst (v := 2) hx hb dM_make_2 (by decide) ?_
  refine x_callS (As := [.int a1, .int 0, .int 2]) (rest := []) (st1 := [.int (fM_in a1 0 2)]) C hw (cM_in l E τ σ a1 0 2) kM_106 (by decide) rfl rfl hl.1 (lv_room (Nat.le_of_ble_eq_true rfl)) dM_make_3 ⟨by decide, by decide⟩ rfl (fun H locs hw => ?_)
  refine lv_if_eq (tgt := 18) hx hb dM_make_6 (by decide) (fun c2 => ?_) (fun c2 => ?_)
  · replace hf := x_ip c2 hf
    refine lv_iconst (v := (-1)) hx hb dM_make_18 (by decide) ?_
    obtain rfl := Option.some.inj hf
    exact x_iret C hw dM_make_19
  · replace hf := x_in c2 hf
    refine lv_iload_n hx hb dM_make_9 rfl (lv_at hl 2 rfl) ?_
    refine lv_iconst (v := 0) hx hb dM_make_10 (by decide) ?_
    refine lv_iconst (v := 2) hx hb dM_make_11 (by decide) ?_
    refine x_callS (As := [.int a2, .int 0, .int 2]) (rest := []) (st1 := [.int (fM_in a2 0 2)]) C hw (cM_in l E τ σ a2 0 2) kM_106 (by decide) rfl rfl hl.1 (lv_room (Nat.le_of_ble_eq_true rfl)) dM_make_12 ⟨by decide, by decide⟩ rfl (fun H locs hw => ?_)
    refine lv_if_ne (tgt := 20) hx hb dM_make_15 (by decide) (fun c4 => ?_) (fun c4 => ?_)
    · replace hf := x_in c4 hf
      refine lv_aload_n hx hb dM_make_20 rfl (lv_at hl 0 rfl) ?_
      refine y_get C hw 30 0 4 (v := .int (τ 30 0 4)) at_30 rfl rfl ⟨by decide, by decide⟩ wM_110 rfl dM_make_21 ?_
      refine lv_bipush (v := 6) hx hb dM_make_24 (by decide) ?_
      refine lv_icmp_ne (tgt := 32) hx hb dM_make_26 (by decide) (fun c5 => ?_) (fun c5 => ?_)
      · replace hf := x_in c5 hf
        refine lv_aload_n hx hb dM_make_32 rfl (lv_at hl 0 rfl) ?_
        refine lv_iconst (v := 0) hx hb dM_make_33 (by decide) ?_
        obtain ⟨r7, s8, h6, hf⟩ := x_b hf
        refine x_callV (As := [.int 0]) (rest := []) (st1 := [.int r7]) C hw (cM_other l E τ σ 0 (r7, s8) h6) kM_113 (x_recvY C hw 30 0 at_30 rfl rfl) (by decide) rfl rfl hl.1 (lv_room (Nat.le_of_ble_eq_true rfl)) dM_make_34 ⟨by decide, by decide⟩ rfl (fun H locs hw => ?_)
        refine lv_istore_n (lv' := [(3, .int r7), (0, .ref (E.2.2.1 30 0)), (1, .int a1), (2, .int a2)]) hx hb dM_make_37 rfl hl (by decide) rfl (fun ls hl => ?_)
        refine lv_iload_n hx hb dM_make_38 rfl (lv_at hl 0 rfl) ?_
        refine lv_if_ge (tgt := 44) hx hb dM_make_39 (by decide) (fun c9 => ?_) (fun c9 => ?_)
        · replace hf := x_ip c9 hf
          refine lv_aload_n hx hb dM_make_44 rfl (lv_at hl 1 rfl) ?_
          refine y_get C hw 30 0 2 (v := .ref (E.2.2.1 33 0)) at_30 rfl rfl ⟨by decide, by decide⟩ wM_17 rfl dM_make_45 ?_
          refine lv_aload_n hx hb dM_make_48 rfl (lv_at hl 1 rfl) ?_
          refine y_get C hw 30 0 4 (v := .int (s8 30 0 4)) at_30 rfl rfl ⟨by decide, by decide⟩ wM_110 rfl dM_make_49 ?_
          refine lv_iload_n hx hb dM_make_52 rfl (lv_at hl 2 rfl) ?_
          obtain ⟨g10, hf⟩ := x_g hf
          refine y_ist C hw 33 0 at_33 rfl rfl g10 dM_make_53 (fun H locs hw => ?_)
          obtain ⟨s11, es11, hf⟩ := x_l hf
          rw [← es11] at hw
          refine lv_aload_n hx hb dM_make_54 rfl (lv_at hl 1 rfl) ?_
          refine y_get C hw 30 0 3 (v := .ref (E.2.2.1 34 0)) at_30 rfl rfl ⟨by decide, by decide⟩ wM_20 rfl dM_make_55 ?_
          refine lv_aload_n hx hb dM_make_58 rfl (lv_at hl 1 rfl) ?_
          refine y_get C hw 30 0 4 (v := .int (s11 30 0 4)) at_30 rfl rfl ⟨by decide, by decide⟩ wM_110 rfl dM_make_59 ?_
          refine lv_iload_n hx hb dM_make_62 rfl (lv_at hl 3 rfl) ?_
          obtain ⟨g12, hf⟩ := x_g hf
          refine y_ist C hw 34 0 at_34 rfl rfl g12 dM_make_63 (fun H locs hw => ?_)
          obtain ⟨s13, es13, hf⟩ := x_l hf
          rw [← es13] at hw
          refine lv_aload_n hx hb dM_make_64 rfl (lv_at hl 1 rfl) ?_
          refine lv_dup hx hb dM_make_65 rfl ?_
          refine y_get C hw 30 0 4 (v := .int (s13 30 0 4)) at_30 rfl rfl ⟨by decide, by decide⟩ wM_110 rfl dM_make_66 ?_
          refine lv_iconst (v := 1) hx hb dM_make_69 (by decide) ?_
          refine lv_iadd hx hb dM_make_70 ?_
          refine y_puti C hw 30 0 4 at_30 rfl rfl rfl ⟨rfl, rfl⟩ ⟨by decide, by decide⟩ (Nat.le_of_ble_eq_true rfl) wM_110 dM_make_71 (fun H locs hw => ?_)
          obtain ⟨s14, es14, hf⟩ := x_l hf
          rw [← es14] at hw
          refine lv_aload_n hx hb dM_make_74 rfl (lv_at hl 1 rfl) ?_
          refine y_get C hw 30 0 4 (v := .int (s14 30 0 4)) at_30 rfl rfl ⟨by decide, by decide⟩ wM_110 rfl dM_make_75 ?_
          refine lv_iconst (v := 1) hx hb dM_make_78 (by decide) ?_
          refine lv_isub hx hb dM_make_79 ?_
          obtain rfl := Option.some.inj hf
          exact x_iret C hw dM_make_80
        · replace hf := x_in c9 hf
          refine lv_iload_n hx hb dM_make_42 rfl (lv_at hl 0 rfl) ?_
          obtain rfl := Option.some.inj hf
          exact x_iret C hw dM_make_43
      · replace hf := x_ip c5 hf
        refine lv_bipush (v := (-2)) hx hb dM_make_29 (by decide) ?_
        obtain rfl := Option.some.inj hf
        exact x_iret C hw dM_make_31
    · replace hf := x_ip c4 hf
      refine lv_iconst (v := (-1)) hx hb dM_make_18 (by decide) ?_
      obtain rfl := Option.some.inj hf
      exact x_iret C hw dM_make_19
-- StandInsModel copy (III)V
set_option maxRecDepth 100000 in
theorem dM_copy_0 : decode bM_copy 0 = .ok (.iconst 0, 1) := by decide +kernel
set_option maxRecDepth 100000 in
theorem dM_copy_1 : decode bM_copy 1 = .ok (.istore 4, 2) := by decide +kernel
set_option maxRecDepth 100000 in
theorem dM_copy_3 : decode bM_copy 3 = .ok (.iload 4, 2) := by decide +kernel
set_option maxRecDepth 100000 in
theorem dM_copy_5 : decode bM_copy 5 = .ok (.aload_n 0, 1) := by decide +kernel
set_option maxRecDepth 100000 in
theorem dM_copy_6 : decode bM_copy 6 = .ok (.getfield 23, 3) := by decide +kernel
set_option maxRecDepth 100000 in
theorem dM_copy_9 : decode bM_copy 9 = .ok (.iload_n 1, 1) := by decide +kernel
set_option maxRecDepth 100000 in
theorem dM_copy_10 : decode bM_copy 10 = .ok (.iaload, 1) := by decide +kernel
set_option maxRecDepth 100000 in
theorem dM_copy_11 : decode bM_copy 11 = .ok (.if_icmp .ge 61, 3) := by decide +kernel
set_option maxRecDepth 100000 in
theorem dM_copy_14 : decode bM_copy 14 = .ok (.aload_n 0, 1) := by decide +kernel
set_option maxRecDepth 100000 in
theorem dM_copy_15 : decode bM_copy 15 = .ok (.getfield 26, 3) := by decide +kernel
set_option maxRecDepth 100000 in
theorem dM_copy_18 : decode bM_copy 18 = .ok (.bipush 8, 2) := by decide +kernel
set_option maxRecDepth 100000 in
theorem dM_copy_20 : decode bM_copy 20 = .ok (.iload_n 2, 1) := by decide +kernel
set_option maxRecDepth 100000 in
theorem dM_copy_21 : decode bM_copy 21 = .ok (.imul, 1) := by decide +kernel
set_option maxRecDepth 100000 in
theorem dM_copy_22 : decode bM_copy 22 = .ok (.iload_n 3, 1) := by decide +kernel
set_option maxRecDepth 100000 in
theorem dM_copy_23 : decode bM_copy 23 = .ok (.iadd, 1) := by decide +kernel
set_option maxRecDepth 100000 in
theorem dM_copy_24 : decode bM_copy 24 = .ok (.iload 4, 2) := by decide +kernel
set_option maxRecDepth 100000 in
theorem dM_copy_26 : decode bM_copy 26 = .ok (.iadd, 1) := by decide +kernel
set_option maxRecDepth 100000 in
theorem dM_copy_27 : decode bM_copy 27 = .ok (.aload_n 0, 1) := by decide +kernel
set_option maxRecDepth 100000 in
theorem dM_copy_28 : decode bM_copy 28 = .ok (.getfield 26, 3) := by decide +kernel
set_option maxRecDepth 100000 in
theorem dM_copy_31 : decode bM_copy 31 = .ok (.bipush 8, 2) := by decide +kernel
set_option maxRecDepth 100000 in
theorem dM_copy_33 : decode bM_copy 33 = .ok (.iload_n 1, 1) := by decide +kernel
set_option maxRecDepth 100000 in
theorem dM_copy_34 : decode bM_copy 34 = .ok (.imul, 1) := by decide +kernel
set_option maxRecDepth 100000 in
theorem dM_copy_35 : decode bM_copy 35 = .ok (.iload 4, 2) := by decide +kernel
set_option maxRecDepth 100000 in
theorem dM_copy_37 : decode bM_copy 37 = .ok (.iadd, 1) := by decide +kernel
set_option maxRecDepth 100000 in
theorem dM_copy_38 : decode bM_copy 38 = .ok (.iaload, 1) := by decide +kernel
set_option maxRecDepth 100000 in
theorem dM_copy_39 : decode bM_copy 39 = .ok (.iastore, 1) := by decide +kernel
set_option maxRecDepth 100000 in
theorem dM_copy_40 : decode bM_copy 40 = .ok (.aload_n 0, 1) := by decide +kernel
set_option maxRecDepth 100000 in
theorem dM_copy_41 : decode bM_copy 41 = .ok (.getfield 29, 3) := by decide +kernel
set_option maxRecDepth 100000 in
theorem dM_copy_44 : decode bM_copy 44 = .ok (.bipush 8, 2) := by decide +kernel
set_option maxRecDepth 100000 in
theorem dM_copy_46 : decode bM_copy 46 = .ok (.iload_n 2, 1) := by decide +kernel
set_option maxRecDepth 100000 in
theorem dM_copy_47 : decode bM_copy 47 = .ok (.imul, 1) := by decide +kernel
set_option maxRecDepth 100000 in
theorem dM_copy_48 : decode bM_copy 48 = .ok (.iload_n 3, 1) := by decide +kernel
set_option maxRecDepth 100000 in
theorem dM_copy_49 : decode bM_copy 49 = .ok (.iadd, 1) := by decide +kernel
set_option maxRecDepth 100000 in
theorem dM_copy_50 : decode bM_copy 50 = .ok (.iload 4, 2) := by decide +kernel
set_option maxRecDepth 100000 in
theorem dM_copy_52 : decode bM_copy 52 = .ok (.iadd, 1) := by decide +kernel
set_option maxRecDepth 100000 in
theorem dM_copy_53 : decode bM_copy 53 = .ok (.aload_n 0, 1) := by decide +kernel
set_option maxRecDepth 100000 in
theorem dM_copy_54 : decode bM_copy 54 = .ok (.getfield 29, 3) := by decide +kernel
set_option maxRecDepth 100000 in
theorem dM_copy_57 : decode bM_copy 57 = .ok (.bipush 8, 2) := by decide +kernel
set_option maxRecDepth 100000 in
theorem dM_copy_59 : decode bM_copy 59 = .ok (.iload_n 1, 1) := by decide +kernel
set_option maxRecDepth 100000 in
theorem dM_copy_60 : decode bM_copy 60 = .ok (.imul, 1) := by decide +kernel
set_option maxRecDepth 100000 in
theorem dM_copy_61 : decode bM_copy 61 = .ok (.iload 4, 2) := by decide +kernel
set_option maxRecDepth 100000 in
theorem dM_copy_63 : decode bM_copy 63 = .ok (.iadd, 1) := by decide +kernel
set_option maxRecDepth 100000 in
theorem dM_copy_64 : decode bM_copy 64 = .ok (.iaload, 1) := by decide +kernel
set_option maxRecDepth 100000 in
theorem dM_copy_65 : decode bM_copy 65 = .ok (.iastore, 1) := by decide +kernel
set_option maxRecDepth 100000 in
theorem dM_copy_66 : decode bM_copy 66 = .ok (.iinc 4 1, 3) := by decide +kernel
set_option maxRecDepth 100000 in
theorem dM_copy_69 : decode bM_copy 69 = .ok (.goto (-66), 3) := by decide +kernel
set_option maxRecDepth 100000 in
theorem dM_copy_72 : decode bM_copy 72 = .ok (.return_, 1) := by decide +kernel
def fM_copy_3b (N : Nat) (rec3 : yS → Int32 → Int32 → Int32 → Int32 → Option (yS)) (τ : yS) (a1 : Int32) (a2 : Int32) (a3 : Int32) (a4 : Int32) : Option (yS) :=
  if ¬ (a1 < 0 ∨ 120 ≤ a1.toNatClampNeg) then
  if (τ 35 0 a1.toNatClampNeg) ≤ a4 then
  (some τ)
  else
  (if ¬ (((8 * a1) + a4) < 0 ∨ 960 ≤ ((8 * a1) + a4).toNatClampNeg) then
  if ¬ ((((8 * a2) + a3) + a4) < 0 ∨ 960 ≤ (((8 * a2) + a3) + a4).toNatClampNeg) then
  xl (y_si τ 36 0 ((((8 * a2) + a3) + a4).toNatClampNeg) (τ 36 0 (((8 * a1) + a4).toNatClampNeg))) fun s11 =>
  xl (y_si s11 37 0 ((((8 * a2) + a3) + a4).toNatClampNeg) (s11 37 0 (((8 * a1) + a4).toNatClampNeg))) fun s12 =>
  rec3 s12 a1 a2 a3 (a4 + 1)
  else none
  else none)
  else none
def fM_copy_3 (N : Nat) : Nat → yS → Int32 → Int32 → Int32 → Int32 → Option (yS)
  | 0, _, _, _, _, _ => none
  | n + 1, τ, a1, a2, a3, a4 => fM_copy_3b N (fM_copy_3 N n) τ a1 a2 a3 a4
def fM_copy (N : Nat) (τ : yS) (a1 : Int32) (a2 : Int32) (a3 : Int32) : Option (yS) :=
  fM_copy_3 N N τ a1 a2 a3 0
set_option maxHeartbeats 4000000 in
set_option maxRecDepth 100000 in
theorem wM_copy_3b {p : Program} {l : Launch} {e : Env} {R : Room} {s : State} {m : MethodId} {args : Array Value} {below : List Frame} {meth : Method} {c : Code} {E : xE} {A : Nat → Prop} {σ : xS} (C : xC p s m args meth c R E A bM_copy 5 yM_copy none 0 0 0) (N : Nat) (τ : yS) (rec3 : yS → Int32 → Int32 → Int32 → Int32 → Option (yS)) (hrec3 : ∀ (τ : yS) (a1 : Int32) (a2 : Int32) (a3 : Int32) (a4 : Int32) (res : yS), rec3 τ a1 a2 a3 a4 = some res → ∀ (H : Heap) (locs : List Loc) (ls : Array Slot), xW E A s σ τ H locs → lv_has ls 5 [(0, .ref (E.2.2.1 30 0)), (1, .int a1), (2, .int a2), (3, .int a3), (4, .int a4)] → W p l e R s m args below meth c H locs 0 0 (MQ below (xQ E A none σ res) args s 0 0 A) (F0 m 3 ls [])) (a1 : Int32) (a2 : Int32) (a3 : Int32) (a4 : Int32) (res : yS) (hf : fM_copy_3b N rec3 τ a1 a2 a3 a4 = some res) (H : Heap) (locs : List Loc) (ls : Array Slot) (hw : xW E A s σ τ H locs) (hl : lv_has ls 5 [(0, .ref (E.2.2.1 30 0)), (1, .int a1), (2, .int a2), (3, .int a3), (4, .int a4)]) : W p l e R s m args below meth c H locs 0 0 (MQ below (xQ E A none σ res) args s 0 0 A) (F0 m 3 ls []) := by
  have hx := C.1
  have hb := C.2.1
  unfold fM_copy_3b at hf
  refine lv_iload hx hb dM_copy_3 (lv_at hl 4 rfl) ?_
  refine lv_aload_n hx hb dM_copy_5 rfl (lv_at hl 0 rfl) ?_
  refine y_get C hw 30 0 5 (v := .ref (E.2.2.1 35 0)) at_30 rfl rfl ⟨by decide, by decide⟩ wM_23 rfl dM_copy_6 ?_
  refine lv_iload_n hx hb dM_copy_9 rfl (lv_at hl 1 rfl) ?_
  obtain ⟨g7, hf⟩ := x_g hf
  refine y_ild C hw 35 0 at_35 rfl g7 dM_copy_10 ?_
  refine lv_icmp_ge (tgt := 72) hx hb dM_copy_11 (by decide) (fun c8 => ?_) (fun c8 => ?_)
  · replace hf := x_ip c8 hf
    obtain rfl := Option.some.inj hf
    exact x_vret C hw dM_copy_72
  · replace hf := x_in c8 hf
    refine lv_aload_n hx hb dM_copy_14 rfl (lv_at hl 0 rfl) ?_
    refine y_get C hw 30 0 6 (v := .ref (E.2.2.1 36 0)) at_30 rfl rfl ⟨by decide, by decide⟩ wM_26 rfl dM_copy_15 ?_
    refine lv_bipush (v := 8) hx hb dM_copy_18 (by decide) ?_
    refine lv_iload_n hx hb dM_copy_20 rfl (lv_at hl 2 rfl) ?_
    refine lv_imul hx hb dM_copy_21 ?_
    refine lv_iload_n hx hb dM_copy_22 rfl (lv_at hl 3 rfl) ?_
    refine lv_iadd hx hb dM_copy_23 ?_
    refine lv_iload hx hb dM_copy_24 (lv_at hl 4 rfl) ?_
    refine lv_iadd hx hb dM_copy_26 ?_
    refine lv_aload_n hx hb dM_copy_27 rfl (lv_at hl 0 rfl) ?_
    refine y_get C hw 30 0 6 (v := .ref (E.2.2.1 36 0)) at_30 rfl rfl ⟨by decide, by decide⟩ wM_26 rfl dM_copy_28 ?_
    refine lv_bipush (v := 8) hx hb dM_copy_31 (by decide) ?_
    refine lv_iload_n hx hb dM_copy_33 rfl (lv_at hl 1 rfl) ?_
    refine lv_imul hx hb dM_copy_34 ?_
    refine lv_iload hx hb dM_copy_35 (lv_at hl 4 rfl) ?_
    refine lv_iadd hx hb dM_copy_37 ?_
    obtain ⟨g9, hf⟩ := x_g hf
    refine y_ild C hw 36 0 at_36 rfl g9 dM_copy_38 ?_
    obtain ⟨g10, hf⟩ := x_g hf
    refine y_ist C hw 36 0 at_36 rfl rfl g10 dM_copy_39 (fun H locs hw => ?_)
    obtain ⟨s11, es11, hf⟩ := x_l hf
    rw [← es11] at hw
    refine lv_aload_n hx hb dM_copy_40 rfl (lv_at hl 0 rfl) ?_
    refine y_get C hw 30 0 7 (v := .ref (E.2.2.1 37 0)) at_30 rfl rfl ⟨by decide, by decide⟩ wM_29 rfl dM_copy_41 ?_
    refine lv_bipush (v := 8) hx hb dM_copy_44 (by decide) ?_
    refine lv_iload_n hx hb dM_copy_46 rfl (lv_at hl 2 rfl) ?_
    refine lv_imul hx hb dM_copy_47 ?_
    refine lv_iload_n hx hb dM_copy_48 rfl (lv_at hl 3 rfl) ?_
    refine lv_iadd hx hb dM_copy_49 ?_
    refine lv_iload hx hb dM_copy_50 (lv_at hl 4 rfl) ?_
    refine lv_iadd hx hb dM_copy_52 ?_
    refine lv_aload_n hx hb dM_copy_53 rfl (lv_at hl 0 rfl) ?_
    refine y_get C hw 30 0 7 (v := .ref (E.2.2.1 37 0)) at_30 rfl rfl ⟨by decide, by decide⟩ wM_29 rfl dM_copy_54 ?_
    refine lv_bipush (v := 8) hx hb dM_copy_57 (by decide) ?_
    refine lv_iload_n hx hb dM_copy_59 rfl (lv_at hl 1 rfl) ?_
    refine lv_imul hx hb dM_copy_60 ?_
    refine lv_iload hx hb dM_copy_61 (lv_at hl 4 rfl) ?_
    refine lv_iadd hx hb dM_copy_63 ?_
    refine y_ild C hw 37 0 at_37 rfl g9 dM_copy_64 ?_
    refine y_ist C hw 37 0 at_37 rfl rfl g10 dM_copy_65 (fun H locs hw => ?_)
    obtain ⟨s12, es12, hf⟩ := x_l hf
    rw [← es12] at hw
    refine lv_iinc (v := a4 + 1) (lv' := [(4, .int (a4 + 1)), (0, .ref (E.2.2.1 30 0)), (1, .int a1), (2, .int a2), (3, .int a3)]) hx hb dM_copy_66 hl (k := 4) rfl rfl (by decide) rfl (fun ls hl => ?_)
    refine lv_goto (tgt := 3) hx hb dM_copy_69 (by decide) ?_
    exact hrec3 s12 a1 a2 a3 (a4 + 1) res hf H locs ls hw (lv_sub hl [1, 2, 3, 4, 0] rfl)
set_option maxHeartbeats 4000000 in
set_option maxRecDepth 100000 in
theorem wM_copy_3 {p : Program} {l : Launch} {e : Env} {R : Room} {s : State} {m : MethodId} {args : Array Value} {below : List Frame} {meth : Method} {c : Code} {E : xE} {A : Nat → Prop} {σ : xS} (C : xC p s m args meth c R E A bM_copy 5 yM_copy none 0 0 0) (N : Nat) (n : Nat) : ∀ (τ : yS) (a1 : Int32) (a2 : Int32) (a3 : Int32) (a4 : Int32) (res : yS), fM_copy_3 N n τ a1 a2 a3 a4 = some res → ∀ (H : Heap) (locs : List Loc) (ls : Array Slot), xW E A s σ τ H locs → lv_has ls 5 [(0, .ref (E.2.2.1 30 0)), (1, .int a1), (2, .int a2), (3, .int a3), (4, .int a4)] → W p l e R s m args below meth c H locs 0 0 (MQ below (xQ E A none σ res) args s 0 0 A) (F0 m 3 ls []) := by
  induction n with
  | zero => intro τ a1 a2 a3 a4 res hf; cases hf
  | succ n ih =>
    intro τ a1 a2 a3 a4 res hf H locs ls hw hl
    exact wM_copy_3b C N τ (fM_copy_3 N n) ih a1 a2 a3 a4 res hf H locs ls hw hl
set_option maxHeartbeats 4000000 in
set_option maxRecDepth 100000 in
theorem cM_copy (l : Launch) (E : xE) (N : Nat) (τ : yS) (σ : xS) (a1 : Int32) (a2 : Int32) (a3 : Int32) (res : yS) (hf : fM_copy N τ a1 a2 a3 = some res) : xM l E yM_copy bM_copy 5 none 0 0 0 [.ref (E.2.2.1 30 0), .int a1, .int a2, .int a3] σ τ none σ res := by
  refine x_met (by decide) (Nat.le_of_ble_eq_true rfl) (fun p e R s m args below meth c A ls H locs C hw hl => ?_)
  have hl : lv_has ls 5 [(0, .ref (E.2.2.1 30 0)), (1, .int a1), (2, .int a2), (3, .int a3)] := hl
  have hx := C.1
  have hb := C.2.1
  unfold fM_copy at hf
  refine lv_iconst (v := 0) hx hb dM_copy_0 (by decide) ?_
  refine lv_istore (lv' := [(4, .int 0), (0, .ref (E.2.2.1 30 0)), (1, .int a1), (2, .int a2), (3, .int a3)]) hx hb dM_copy_1 hl (by decide) rfl (fun ls hl => ?_)
  exact wM_copy_3 C N N τ a1 a2 a3 0 res hf H locs ls hw (lv_sub hl [1, 2, 3, 4, 0] rfl)
end
