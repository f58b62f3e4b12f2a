-- ===== PART A: goes FIRST, ahead of the names: the tables' words, and 'selects' of the private methods out of them =====
/-- a private method of a class that the tables say can be made, by its rows of tables_1 -/
def lw_okq (q : MethodName × Nat) : Prop := (q.1.cls ≠ "java/lang/invoke/MethodHandle" ∧ q.1.cls ≠ "java/lang/invoke/VarHandle") ∧ Cond.instantiable q.1.cls q.2 ∈ tables_1 ∧ Cond.privateMethod q.1 ∈ tables_1 ∧ Cond.instanceMethod q.1 ∈ tables_1
theorem lw_p0 : lw_okq (⟨"StandIns", "misuseOfPlainStep", "(Z)I"⟩, 18) := ⟨⟨by decide +kernel, by decide +kernel⟩, List.mem_of_getElem? (i := 15) (by decide +kernel), List.mem_of_getElem? (i := 311) (by decide +kernel), List.mem_of_getElem? (i := 312) (by decide +kernel)⟩
theorem lw_p1 : lw_okq (⟨"StandIns", "awaitsCall", "()Z"⟩, 18) := ⟨⟨by decide +kernel, by decide +kernel⟩, List.mem_of_getElem? (i := 15) (by decide +kernel), List.mem_of_getElem? (i := 315) (by decide +kernel), List.mem_of_getElem? (i := 316) (by decide +kernel)⟩
theorem lw_p2 : lw_okq (⟨"StandIns", "lacksAnswers", "()Z"⟩, 18) := ⟨⟨by decide +kernel, by decide +kernel⟩, List.mem_of_getElem? (i := 15) (by decide +kernel), List.mem_of_getElem? (i := 319) (by decide +kernel), List.mem_of_getElem? (i := 320) (by decide +kernel)⟩
theorem lw_p3 : lw_okq (⟨"StandIns", "latestTelling", "()LStandIns$Telling;"⟩, 18) := ⟨⟨by decide +kernel, by decide +kernel⟩, List.mem_of_getElem? (i := 15) (by decide +kernel), List.mem_of_getElem? (i := 323) (by decide +kernel), List.mem_of_getElem? (i := 324) (by decide +kernel)⟩
theorem lw_p4 : lw_okq (⟨"StandIns", "misuseIf", "(ZZZ)I"⟩, 18) := ⟨⟨by decide +kernel, by decide +kernel⟩, List.mem_of_getElem? (i := 15) (by decide +kernel), List.mem_of_getElem? (i := 330) (by decide +kernel), List.mem_of_getElem? (i := 331) (by decide +kernel)⟩
theorem lw_p5 : lw_okq (⟨"StandIns", "idleWith", "(I)I"⟩, 18) := ⟨⟨by decide +kernel, by decide +kernel⟩, List.mem_of_getElem? (i := 15) (by decide +kernel), List.mem_of_getElem? (i := 334) (by decide +kernel), List.mem_of_getElem? (i := 335) (by decide +kernel)⟩
theorem lw_p6 : lw_okq (⟨"StandIns$Stack", "hasRoomFor", "(I)Z"⟩, 2) := ⟨⟨by decide +kernel, by decide +kernel⟩, List.mem_of_getElem? (i := 25) (by decide +kernel), List.mem_of_getElem? (i := 349) (by decide +kernel), List.mem_of_getElem? (i := 350) (by decide +kernel)⟩
theorem lw_p7 : lw_okq (⟨"StandIns$Stack", "pop", "()LStandIns$Matcher;"⟩, 2) := ⟨⟨by decide +kernel, by decide +kernel⟩, List.mem_of_getElem? (i := 25) (by decide +kernel), List.mem_of_getElem? (i := 357) (by decide +kernel), List.mem_of_getElem? (i := 358) (by decide +kernel)⟩
theorem lw_p8 : lw_okq (⟨"StandIns$Stack", "push", "(LStandIns$Matcher;)V"⟩, 2) := ⟨⟨by decide +kernel, by decide +kernel⟩, List.mem_of_getElem? (i := 25) (by decide +kernel), List.mem_of_getElem? (i := 384) (by decide +kernel), List.mem_of_getElem? (i := 385) (by decide +kernel)⟩
theorem lw_p9 : lw_okq (⟨"StandIns", "isStandIn", "(I)Z"⟩, 18) := ⟨⟨by decide +kernel, by decide +kernel⟩, List.mem_of_getElem? (i := 15) (by decide +kernel), List.mem_of_getElem? (i := 392) (by decide +kernel), List.mem_of_getElem? (i := 393) (by decide +kernel)⟩
theorem lw_p10 : lw_okq (⟨"StandIns", "hasNoRoomForCallOf", "(I)Z"⟩, 18) := ⟨⟨by decide +kernel, by decide +kernel⟩, List.mem_of_getElem? (i := 15) (by decide +kernel), List.mem_of_getElem? (i := 397) (by decide +kernel), List.mem_of_getElem? (i := 398) (by decide +kernel)⟩
theorem lw_p11 : lw_okq (⟨"StandIns", "methodOf", "(II)LStandIns$Method;"⟩, 18) := ⟨⟨by decide +kernel, by decide +kernel⟩, List.mem_of_getElem? (i := 15) (by decide +kernel), List.mem_of_getElem? (i := 402) (by decide +kernel), List.mem_of_getElem? (i := 403) (by decide +kernel)⟩
theorem lw_p12 : lw_okq (⟨"StandIns", "misuseOfCall", "(ILStandIns$Method;)I"⟩, 18) := ⟨⟨by decide +kernel, by decide +kernel⟩, List.mem_of_getElem? (i := 15) (by decide +kernel), List.mem_of_getElem? (i := 406) (by decide +kernel), List.mem_of_getElem? (i := 407) (by decide +kernel)⟩
theorem lw_p13 : lw_okq (⟨"StandIns$Answers", "allDoFor", "(LStandIns$Method;)Z"⟩, 3) := ⟨⟨by decide +kernel, by decide +kernel⟩, List.mem_of_getElem? (i := 43) (by decide +kernel), List.mem_of_getElem? (i := 410) (by decide +kernel), List.mem_of_getElem? (i := 411) (by decide +kernel)⟩
theorem lw_p14 : lw_okq (⟨"StandIns$Method", "canDo", "(II)Z"⟩, 2) := ⟨⟨by decide +kernel, by decide +kernel⟩, List.mem_of_getElem? (i := 204) (by decide +kernel), List.mem_of_getElem? (i := 414) (by decide +kernel), List.mem_of_getElem? (i := 415) (by decide +kernel)⟩
theorem lw_p15 : lw_okq (⟨"StandIns", "matcherOf", "(III)LStandIns$Matcher;"⟩, 18) := ⟨⟨by decide +kernel, by decide +kernel⟩, List.mem_of_getElem? (i := 15) (by decide +kernel), List.mem_of_getElem? (i := 419) (by decide +kernel), List.mem_of_getElem? (i := 420) (by decide +kernel)⟩
def lw_privs_1 : List (MethodName × Nat) := [(⟨"StandIns", "misuseOfPlainStep", "(Z)I"⟩, 18), (⟨"StandIns", "awaitsCall", "()Z"⟩, 18), (⟨"StandIns", "lacksAnswers", "()Z"⟩, 18), (⟨"StandIns", "latestTelling", "()LStandIns$Telling;"⟩, 18), (⟨"StandIns", "misuseIf", "(ZZZ)I"⟩, 18), (⟨"StandIns", "idleWith", "(I)I"⟩, 18), (⟨"StandIns$Stack", "hasRoomFor", "(I)Z"⟩, 2), (⟨"StandIns$Stack", "pop", "()LStandIns$Matcher;"⟩, 2), (⟨"StandIns$Stack", "push", "(LStandIns$Matcher;)V"⟩, 2), (⟨"StandIns", "isStandIn", "(I)Z"⟩, 18), (⟨"StandIns", "hasNoRoomForCallOf", "(I)Z"⟩, 18), (⟨"StandIns", "methodOf", "(II)LStandIns$Method;"⟩, 18), (⟨"StandIns", "misuseOfCall", "(ILStandIns$Method;)I"⟩, 18), (⟨"StandIns$Answers", "allDoFor", "(LStandIns$Method;)Z"⟩, 3), (⟨"StandIns$Method", "canDo", "(II)Z"⟩, 2), (⟨"StandIns", "matcherOf", "(III)LStandIns$Matcher;"⟩, 18)]
theorem lw_r1 : ∀ q ∈ lw_privs_1, lw_okq q := List.forall_mem_cons.mpr ⟨lw_p0, List.forall_mem_cons.mpr ⟨lw_p1, List.forall_mem_cons.mpr ⟨lw_p2, List.forall_mem_cons.mpr ⟨lw_p3, List.forall_mem_cons.mpr ⟨lw_p4, List.forall_mem_cons.mpr ⟨lw_p5, List.forall_mem_cons.mpr ⟨lw_p6, List.forall_mem_cons.mpr ⟨lw_p7, List.forall_mem_cons.mpr ⟨lw_p8, List.forall_mem_cons.mpr ⟨lw_p9, List.forall_mem_cons.mpr ⟨lw_p10, List.forall_mem_cons.mpr ⟨lw_p11, List.forall_mem_cons.mpr ⟨lw_p12, List.forall_mem_cons.mpr ⟨lw_p13, List.forall_mem_cons.mpr ⟨lw_p14, List.forall_mem_cons.mpr ⟨lw_p15, fun _ h => absurd h List.not_mem_nil⟩⟩⟩⟩⟩⟩⟩⟩⟩⟩⟩⟩⟩⟩⟩⟩
theorem lw_p16 : lw_okq (⟨"StandIns", "tellPrepared", "()J"⟩, 18) := ⟨⟨by decide +kernel, by decide +kernel⟩, List.mem_of_getElem? (i := 15) (by decide +kernel), List.mem_of_getElem? (i := 423) (by decide +kernel), List.mem_of_getElem? (i := 424) (by decide +kernel)⟩
theorem lw_p17 : lw_okq (⟨"StandIns", "beginTelling", "()V"⟩, 18) := ⟨⟨by decide +kernel, by decide +kernel⟩, List.mem_of_getElem? (i := 15) (by decide +kernel), List.mem_of_getElem? (i := 427) (by decide +kernel), List.mem_of_getElem? (i := 428) (by decide +kernel)⟩
theorem lw_p18 : lw_okq (⟨"StandIns$Pattern", "copy", "(LStandIns$Pattern;)V"⟩, 4) := ⟨⟨by decide +kernel, by decide +kernel⟩, List.mem_of_getElem? (i := 180) (by decide +kernel), List.mem_of_getElem? (i := 431) (by decide +kernel), List.mem_of_getElem? (i := 432) (by decide +kernel)⟩
theorem lw_p19 : lw_okq (⟨"StandIns$Answers", "takeAllOf", "(LStandIns$Answers;)V"⟩, 3) := ⟨⟨by decide +kernel, by decide +kernel⟩, List.mem_of_getElem? (i := 43) (by decide +kernel), List.mem_of_getElem? (i := 435) (by decide +kernel), List.mem_of_getElem? (i := 436) (by decide +kernel)⟩
theorem lw_p20 : lw_okq (⟨"StandIns$Answers", "add", "(II)V"⟩, 3) := ⟨⟨by decide +kernel, by decide +kernel⟩, List.mem_of_getElem? (i := 43) (by decide +kernel), List.mem_of_getElem? (i := 439) (by decide +kernel), List.mem_of_getElem? (i := 440) (by decide +kernel)⟩
theorem lw_p21 : lw_okq (⟨"StandIns", "doCheck", "()J"⟩, 18) := ⟨⟨by decide +kernel, by decide +kernel⟩, List.mem_of_getElem? (i := 15) (by decide +kernel), List.mem_of_getElem? (i := 443) (by decide +kernel), List.mem_of_getElem? (i := 444) (by decide +kernel)⟩
theorem lw_p22 : lw_okq (⟨"StandIns", "findAbove", "(I)V"⟩, 18) := ⟨⟨by decide +kernel, by decide +kernel⟩, List.mem_of_getElem? (i := 15) (by decide +kernel), List.mem_of_getElem? (i := 447) (by decide +kernel), List.mem_of_getElem? (i := 448) (by decide +kernel)⟩
theorem lw_p23 : lw_okq (⟨"StandIns$Pattern", "matches", "(LStandIns$Note;)Z"⟩, 4) := ⟨⟨by decide +kernel, by decide +kernel⟩, List.mem_of_getElem? (i := 180) (by decide +kernel), List.mem_of_getElem? (i := 451) (by decide +kernel), List.mem_of_getElem? (i := 452) (by decide +kernel)⟩
theorem lw_p24 : lw_okq (⟨"StandIns$Finding", "add", "(II)V"⟩, 5) := ⟨⟨by decide +kernel, by decide +kernel⟩, List.mem_of_getElem? (i := 132) (by decide +kernel), List.mem_of_getElem? (i := 459) (by decide +kernel), List.mem_of_getElem? (i := 460) (by decide +kernel)⟩
theorem lw_p25 : lw_okq (⟨"StandIns", "passes", "()Z"⟩, 18) := ⟨⟨by decide +kernel, by decide +kernel⟩, List.mem_of_getElem? (i := 15) (by decide +kernel), List.mem_of_getElem? (i := 463) (by decide +kernel), List.mem_of_getElem? (i := 464) (by decide +kernel)⟩
theorem lw_p26 : lw_okq (⟨"StandIns$Notebook", "manyOf", "(I)I"⟩, 3) := ⟨⟨by decide +kernel, by decide +kernel⟩, List.mem_of_getElem? (i := 61) (by decide +kernel), List.mem_of_getElem? (i := 467) (by decide +kernel), List.mem_of_getElem? (i := 468) (by decide +kernel)⟩
theorem lw_p27 : lw_okq (⟨"StandIns", "seeAndCatch", "()V"⟩, 18) := ⟨⟨by decide +kernel, by decide +kernel⟩, List.mem_of_getElem? (i := 15) (by decide +kernel), List.mem_of_getElem? (i := 471) (by decide +kernel), List.mem_of_getElem? (i := 472) (by decide +kernel)⟩
theorem lw_p28 : lw_okq (⟨"StandIns$Catches", "add", "(I)V"⟩, 4) := ⟨⟨by decide +kernel, by decide +kernel⟩, List.mem_of_getElem? (i := 159) (by decide +kernel), List.mem_of_getElem? (i := 478) (by decide +kernel), List.mem_of_getElem? (i := 479) (by decide +kernel)⟩
theorem lw_p29 : lw_okq (⟨"StandIns", "noteAndAnswer", "(LStandIns$Method;II)J"⟩, 18) := ⟨⟨by decide +kernel, by decide +kernel⟩, List.mem_of_getElem? (i := 15) (by decide +kernel), List.mem_of_getElem? (i := 487) (by decide +kernel), List.mem_of_getElem? (i := 488) (by decide +kernel)⟩
theorem lw_p30 : lw_okq (⟨"StandIns$Notebook", "add", "(LStandIns$Pattern;II)LStandIns$Note;"⟩, 3) := ⟨⟨by decide +kernel, by decide +kernel⟩, List.mem_of_getElem? (i := 61) (by decide +kernel), List.mem_of_getElem? (i := 491) (by decide +kernel), List.mem_of_getElem? (i := 492) (by decide +kernel)⟩
theorem lw_p31 : lw_okq (⟨"StandIns", "tellingFor", "(LStandIns$Note;)I"⟩, 18) := ⟨⟨by decide +kernel, by decide +kernel⟩, List.mem_of_getElem? (i := 15) (by decide +kernel), List.mem_of_getElem? (i := 495) (by decide +kernel), List.mem_of_getElem? (i := 496) (by decide +kernel)⟩
def lw_privs_2 : List (MethodName × Nat) := [(⟨"StandIns", "tellPrepared", "()J"⟩, 18), (⟨"StandIns", "beginTelling", "()V"⟩, 18), (⟨"StandIns$Pattern", "copy", "(LStandIns$Pattern;)V"⟩, 4), (⟨"StandIns$Answers", "takeAllOf", "(LStandIns$Answers;)V"⟩, 3), (⟨"StandIns$Answers", "add", "(II)V"⟩, 3), (⟨"StandIns", "doCheck", "()J"⟩, 18), (⟨"StandIns", "findAbove", "(I)V"⟩, 18), (⟨"StandIns$Pattern", "matches", "(LStandIns$Note;)Z"⟩, 4), (⟨"StandIns$Finding", "add", "(II)V"⟩, 5), (⟨"StandIns", "passes", "()Z"⟩, 18), (⟨"StandIns$Notebook", "manyOf", "(I)I"⟩, 3), (⟨"StandIns", "seeAndCatch", "()V"⟩, 18), (⟨"StandIns$Catches", "add", "(I)V"⟩, 4), (⟨"StandIns", "noteAndAnswer", "(LStandIns$Method;II)J"⟩, 18), (⟨"StandIns$Notebook", "add", "(LStandIns$Pattern;II)LStandIns$Note;"⟩, 3), (⟨"StandIns", "tellingFor", "(LStandIns$Note;)I"⟩, 18)]
theorem lw_r2 : ∀ q ∈ lw_privs_2, lw_okq q := List.forall_mem_cons.mpr ⟨lw_p16, List.forall_mem_cons.mpr ⟨lw_p17, List.forall_mem_cons.mpr ⟨lw_p18, List.forall_mem_cons.mpr ⟨lw_p19, List.forall_mem_cons.mpr ⟨lw_p20, List.forall_mem_cons.mpr ⟨lw_p21, List.forall_mem_cons.mpr ⟨lw_p22, List.forall_mem_cons.mpr ⟨lw_p23, List.forall_mem_cons.mpr ⟨lw_p24, List.forall_mem_cons.mpr ⟨lw_p25, List.forall_mem_cons.mpr ⟨lw_p26, List.forall_mem_cons.mpr ⟨lw_p27, List.forall_mem_cons.mpr ⟨lw_p28, List.forall_mem_cons.mpr ⟨lw_p29, List.forall_mem_cons.mpr ⟨lw_p30, List.forall_mem_cons.mpr ⟨lw_p31, fun _ h => absurd h List.not_mem_nil⟩⟩⟩⟩⟩⟩⟩⟩⟩⟩⟩⟩⟩⟩⟩⟩
theorem lw_p32 : lw_okq (⟨"StandIns$Telling", "answerTo", "(LStandIns$Note;LStandIns$Method;)J"⟩, 5) := ⟨⟨by decide +kernel, by decide +kernel⟩, List.mem_of_getElem? (i := 219) (by decide +kernel), List.mem_of_getElem? (i := 499) (by decide +kernel), List.mem_of_getElem? (i := 500) (by decide +kernel)⟩
theorem lw_p33 : lw_okq (⟨"StandIns$Answers", "spokenTo", "(ILStandIns$Note;LStandIns$Method;)J"⟩, 3) := ⟨⟨by decide +kernel, by decide +kernel⟩, List.mem_of_getElem? (i := 43) (by decide +kernel), List.mem_of_getElem? (i := 503) (by decide +kernel), List.mem_of_getElem? (i := 504) (by decide +kernel)⟩
theorem lw_p34 : lw_okq (⟨"StandIns$Method", "realResult", "(LStandIns$Note;)I"⟩, 2) := ⟨⟨by decide +kernel, by decide +kernel⟩, List.mem_of_getElem? (i := 204) (by decide +kernel), List.mem_of_getElem? (i := 508) (by decide +kernel), List.mem_of_getElem? (i := 509) (by decide +kernel)⟩
theorem lw_p35 : lw_okq (⟨"StandIns$Notebook", "takeBackLast", "()V"⟩, 3) := ⟨⟨by decide +kernel, by decide +kernel⟩, List.mem_of_getElem? (i := 61) (by decide +kernel), List.mem_of_getElem? (i := 518) (by decide +kernel), List.mem_of_getElem? (i := 519) (by decide +kernel)⟩
theorem lw_p36 : lw_okq (⟨"StandIns$Notebook", "firstUnseenOf", "(I)I"⟩, 3) := ⟨⟨by decide +kernel, by decide +kernel⟩, List.mem_of_getElem? (i := 61) (by decide +kernel), List.mem_of_getElem? (i := 543) (by decide +kernel), List.mem_of_getElem? (i := 544) (by decide +kernel)⟩
theorem lw_p37 : lw_okq (⟨"StandIns$Catches", "beforeLatest", "(I)I"⟩, 4) := ⟨⟨by decide +kernel, by decide +kernel⟩, List.mem_of_getElem? (i := 159) (by decide +kernel), List.mem_of_getElem? (i := 567) (by decide +kernel), List.mem_of_getElem? (i := 568) (by decide +kernel)⟩
theorem lw_p38 : lw_okq (⟨"StandIns", "tellingsNeverUsed", "()I"⟩, 18) := ⟨⟨by decide +kernel, by decide +kernel⟩, List.mem_of_getElem? (i := 15) (by decide +kernel), List.mem_of_getElem? (i := 575) (by decide +kernel), List.mem_of_getElem? (i := 576) (by decide +kernel)⟩
theorem lw_p39 : lw_okq (⟨"StandInsModel", "other", "(Z)I"⟩, 39) := ⟨⟨by decide +kernel, by decide +kernel⟩, List.mem_of_getElem? (i := 579) (by decide +kernel), List.mem_of_getElem? (i := 711) (by decide +kernel), List.mem_of_getElem? (i := 712) (by decide +kernel)⟩
theorem lw_p40 : lw_okq (⟨"StandInsModel", "misuse", "(ZIZZ)I"⟩, 39) := ⟨⟨by decide +kernel, by decide +kernel⟩, List.mem_of_getElem? (i := 579) (by decide +kernel), List.mem_of_getElem? (i := 715) (by decide +kernel), List.mem_of_getElem? (i := 716) (by decide +kernel)⟩
theorem lw_p41 : lw_okq (⟨"StandInsModel", "single", "(III)V"⟩, 39) := ⟨⟨by decide +kernel, by decide +kernel⟩, List.mem_of_getElem? (i := 579) (by decide +kernel), List.mem_of_getElem? (i := 727) (by decide +kernel), List.mem_of_getElem? (i := 728) (by decide +kernel)⟩
theorem lw_p42 : lw_okq (⟨"StandInsModel", "copy", "(III)V"⟩, 39) := ⟨⟨by decide +kernel, by decide +kernel⟩, List.mem_of_getElem? (i := 579) (by decide +kernel), List.mem_of_getElem? (i := 731) (by decide +kernel), List.mem_of_getElem? (i := 732) (by decide +kernel)⟩
theorem lw_p43 : lw_okq (⟨"StandInsModel", "shape", "(II)I"⟩, 39) := ⟨⟨by decide +kernel, by decide +kernel⟩, List.mem_of_getElem? (i := 579) (by decide +kernel), List.mem_of_getElem? (i := 741) (by decide +kernel), List.mem_of_getElem? (i := 742) (by decide +kernel)⟩
theorem lw_p44 : lw_okq (⟨"StandInsModel", "willNotDo", "(III)Z"⟩, 39) := ⟨⟨by decide +kernel, by decide +kernel⟩, List.mem_of_getElem? (i := 579) (by decide +kernel), List.mem_of_getElem? (i := 745) (by decide +kernel), List.mem_of_getElem? (i := 746) (by decide +kernel)⟩
theorem lw_p45 : lw_okq (⟨"StandInsModel", "tell", "(III)V"⟩, 39) := ⟨⟨by decide +kernel, by decide +kernel⟩, List.mem_of_getElem? (i := 579) (by decide +kernel), List.mem_of_getElem? (i := 750) (by decide +kernel), List.mem_of_getElem? (i := 751) (by decide +kernel)⟩
theorem lw_p46 : lw_okq (⟨"StandInsModel", "keep", "(III)V"⟩, 39) := ⟨⟨by decide +kernel, by decide +kernel⟩, List.mem_of_getElem? (i := 579) (by decide +kernel), List.mem_of_getElem? (i := 754) (by decide +kernel), List.mem_of_getElem? (i := 755) (by decide +kernel)⟩
theorem lw_p47 : lw_okq (⟨"StandInsModel", "check", "(II)Z"⟩, 39) := ⟨⟨by decide +kernel, by decide +kernel⟩, List.mem_of_getElem? (i := 579) (by decide +kernel), List.mem_of_getElem? (i := 758) (by decide +kernel), List.mem_of_getElem? (i := 759) (by decide +kernel)⟩
def lw_privs_3 : List (MethodName × Nat) := [(⟨"StandIns$Telling", "answerTo", "(LStandIns$Note;LStandIns$Method;)J"⟩, 5), (⟨"StandIns$Answers", "spokenTo", "(ILStandIns$Note;LStandIns$Method;)J"⟩, 3), (⟨"StandIns$Method", "realResult", "(LStandIns$Note;)I"⟩, 2), (⟨"StandIns$Notebook", "takeBackLast", "()V"⟩, 3), (⟨"StandIns$Notebook", "firstUnseenOf", "(I)I"⟩, 3), (⟨"StandIns$Catches", "beforeLatest", "(I)I"⟩, 4), (⟨"StandIns", "tellingsNeverUsed", "()I"⟩, 18), (⟨"StandInsModel", "other", "(Z)I"⟩, 39), (⟨"StandInsModel", "misuse", "(ZIZZ)I"⟩, 39), (⟨"StandInsModel", "single", "(III)V"⟩, 39), (⟨"StandInsModel", "copy", "(III)V"⟩, 39), (⟨"StandInsModel", "shape", "(II)I"⟩, 39), (⟨"StandInsModel", "willNotDo", "(III)Z"⟩, 39), (⟨"StandInsModel", "tell", "(III)V"⟩, 39), (⟨"StandInsModel", "keep", "(III)V"⟩, 39), (⟨"StandInsModel", "check", "(II)Z"⟩, 39)]
theorem lw_r3 : ∀ q ∈ lw_privs_3, lw_okq q := List.forall_mem_cons.mpr ⟨lw_p32, List.forall_mem_cons.mpr ⟨lw_p33, List.forall_mem_cons.mpr ⟨lw_p34, List.forall_mem_cons.mpr ⟨lw_p35, List.forall_mem_cons.mpr ⟨lw_p36, List.forall_mem_cons.mpr ⟨lw_p37, List.forall_mem_cons.mpr ⟨lw_p38, List.forall_mem_cons.mpr ⟨lw_p39, List.forall_mem_cons.mpr ⟨lw_p40, List.forall_mem_cons.mpr ⟨lw_p41, List.forall_mem_cons.mpr ⟨lw_p42, List.forall_mem_cons.mpr ⟨lw_p43, List.forall_mem_cons.mpr ⟨lw_p44, List.forall_mem_cons.mpr ⟨lw_p45, List.forall_mem_cons.mpr ⟨lw_p46, List.forall_mem_cons.mpr ⟨lw_p47, fun _ h => absurd h List.not_mem_nil⟩⟩⟩⟩⟩⟩⟩⟩⟩⟩⟩⟩⟩⟩⟩⟩
theorem lw_p48 : lw_okq (⟨"StandInsModel", "matchesCall", "(IIII)Z"⟩, 39) := ⟨⟨by decide +kernel, by decide +kernel⟩, List.mem_of_getElem? (i := 579) (by decide +kernel), List.mem_of_getElem? (i := 762) (by decide +kernel), List.mem_of_getElem? (i := 763) (by decide +kernel)⟩
theorem lw_p49 : lw_okq (⟨"StandInsModel", "matches", "(II)Z"⟩, 39) := ⟨⟨by decide +kernel, by decide +kernel⟩, List.mem_of_getElem? (i := 579) (by decide +kernel), List.mem_of_getElem? (i := 766) (by decide +kernel), List.mem_of_getElem? (i := 767) (by decide +kernel)⟩
theorem lw_p50 : lw_okq (⟨"StandInsModel", "note", "(IIII)V"⟩, 39) := ⟨⟨by decide +kernel, by decide +kernel⟩, List.mem_of_getElem? (i := 579) (by decide +kernel), List.mem_of_getElem? (i := 772) (by decide +kernel), List.mem_of_getElem? (i := 773) (by decide +kernel)⟩
theorem lw_p51 : lw_okq (⟨"StandInsModel", "answered", "(I)J"⟩, 39) := ⟨⟨by decide +kernel, by decide +kernel⟩, List.mem_of_getElem? (i := 579) (by decide +kernel), List.mem_of_getElem? (i := 776) (by decide +kernel), List.mem_of_getElem? (i := 777) (by decide +kernel)⟩
theorem lw_p52 : lw_okq (⟨"StandInsModel", "real", "(III)I"⟩, 39) := ⟨⟨by decide +kernel, by decide +kernel⟩, List.mem_of_getElem? (i := 579) (by decide +kernel), List.mem_of_getElem? (i := 780) (by decide +kernel), List.mem_of_getElem? (i := 781) (by decide +kernel)⟩
def lw_privs_4 : List (MethodName × Nat) := [(⟨"StandInsModel", "matchesCall", "(IIII)Z"⟩, 39), (⟨"StandInsModel", "matches", "(II)Z"⟩, 39), (⟨"StandInsModel", "note", "(IIII)V"⟩, 39), (⟨"StandInsModel", "answered", "(I)J"⟩, 39), (⟨"StandInsModel", "real", "(III)I"⟩, 39)]
theorem lw_r4 : ∀ q ∈ lw_privs_4, lw_okq q := List.forall_mem_cons.mpr ⟨lw_p48, List.forall_mem_cons.mpr ⟨lw_p49, List.forall_mem_cons.mpr ⟨lw_p50, List.forall_mem_cons.mpr ⟨lw_p51, List.forall_mem_cons.mpr ⟨lw_p52, fun _ h => absurd h List.not_mem_nil⟩⟩⟩⟩⟩
def lw_privs : List (MethodName × Nat) := lw_privs_1 ++ (lw_privs_2 ++ (lw_privs_3 ++ (lw_privs_4)))
def lw_tbl : List Cond := k2_sels lw_privs ++ tables_1
theorem lw_privs_ok : ∀ q ∈ lw_privs, lw_okq q := by
  show ∀ q ∈ lw_privs_1 ++ (lw_privs_2 ++ (lw_privs_3 ++ (lw_privs_4))), lw_okq q
  exact List.forall_mem_append.mpr ⟨lw_r1, List.forall_mem_append.mpr ⟨lw_r2, List.forall_mem_append.mpr ⟨lw_r3, lw_r4⟩⟩⟩
def RxA : String := "StandIns"
def TxA : u_T := fun k => match k with
  | 0 => ("StandIns", "methods", "[LStandIns$Method;", true)
  | 1 => ("StandIns", "types", "[I", true)
  | 2 => ("StandIns", "kinds", "[I", true)
  | 3 => ("StandIns", "standIns", "I", false)
  | 4 => ("StandIns", "stack", "LStandIns$Stack;", true)
  | 5 => ("StandIns", "prepared", "LStandIns$Answers;", true)
  | 6 => ("StandIns", "notebook", "LStandIns$Notebook;", true)
  | 7 => ("StandIns", "tellings", "[LStandIns$Telling;", true)
  | 8 => ("StandIns", "tellingsMade", "I", false)
  | 9 => ("StandIns", "finding", "LStandIns$Finding;", true)
  | 10 => ("StandIns", "catches", "LStandIns$Catches;", true)
  | 11 => ("StandIns", "asked", "LStandIns$Pattern;", true)
  | 12 => ("StandIns", "state", "I", false)
  | 13 => ("StandIns", "awaited", "I", false)
  | 14 => ("StandIns", "mode", "I", false)
  | 15 => ("StandIns", "modeNumber", "I", false)
  | 16 => ("StandIns", "place", "I", false)
  | _ => ("StandIns", "misuses", "I", false)
def RxK : String := "StandIns$Stack"
def TxK : u_T := fun k => match k with
  | 0 => ("StandIns$Stack", "held", "[LStandIns$Matcher;", true)
  | _ => ("StandIns$Stack", "size", "I", false)
def RxB : String := "StandIns$Notebook"
def TxB : u_T := fun k => match k with
  | 0 => ("StandIns$Notebook", "notes", "[LStandIns$Note;", true)
  | 1 => ("StandIns$Notebook", "size", "I", false)
  | _ => ("StandIns$Notebook", "nextNumber", "I", false)
def RxF : String := "StandIns$Finding"
def TxF : u_T := fun k => match k with
  | 0 => ("StandIns$Finding", "indexes", "[I", true)
  | 1 => ("StandIns$Finding", "numbers", "[I", true)
  | 2 => ("StandIns$Finding", "size", "I", false)
  | 3 => ("StandIns$Finding", "done", "Z", false)
  | _ => ("StandIns$Finding", "passed", "Z", false)
def RxC : String := "StandIns$Catches"
def TxC : u_T := fun k => match k with
  | 0 => ("StandIns$Catches", "ring", "[I", true)
  | 1 => ("StandIns$Catches", "next", "I", false)
  | 2 => ("StandIns$Catches", "kept", "I", false)
  | _ => ("StandIns$Catches", "total", "I", false)
def RxD : String := "StandIns$Method"
def TxD : u_T := fun k => match k with
  | 0 => ("StandIns$Method", "parameters", "I", false)
  | _ => ("StandIns$Method", "gives", "Z", false)
def RxN : String := "StandIns$Note"
def TxN : u_T := fun k => match k with
  | 0 => ("StandIns$Note", "number", "I", false)
  | 1 => ("StandIns$Note", "standIn", "I", false)
  | 2 => ("StandIns$Note", "method", "I", false)
  | 3 => ("StandIns$Note", "a", "I", false)
  | 4 => ("StandIns$Note", "b", "I", false)
  | 5 => ("StandIns$Note", "seen", "Z", false)
  | _ => ("StandIns$Note", "answeredBy", "I", false)
def RxT : String := "StandIns$Telling"
def TxT : u_T := fun k => match k with
  | 0 => ("StandIns$Telling", "pattern", "LStandIns$Pattern;", true)
  | 1 => ("StandIns$Telling", "answers", "LStandIns$Answers;", true)
  | 2 => ("StandIns$Telling", "next", "I", false)
  | 3 => ("StandIns$Telling", "timesAnswered", "I", false)
  | _ => ("StandIns$Telling", "gone", "Z", false)
def RxP : String := "StandIns$Pattern"
def TxP : u_T := fun k => match k with
  | 0 => ("StandIns$Pattern", "standIn", "I", false)
  | 1 => ("StandIns$Pattern", "method", "I", false)
  | 2 => ("StandIns$Pattern", "first", "LStandIns$Matcher;", false)
  | _ => ("StandIns$Pattern", "second", "LStandIns$Matcher;", false)
def RxQ : String := "StandIns$Answers"
def TxQ : u_T := fun k => match k with
  | 0 => ("StandIns$Answers", "kinds", "[I", true)
  | 1 => ("StandIns$Answers", "values", "[I", true)
  | _ => ("StandIns$Answers", "size", "I", false)
def RxH : String := "StandIns$Matcher"
def TxH : u_T := fun k => match k with
  | 0 => ("StandIns$Matcher", "kind", "I", true)
  | 1 => ("StandIns$Matcher", "v", "I", true)
  | 2 => ("StandIns$Matcher", "lower", "LStandIns$Matcher;", true)
  | 3 => ("StandIns$Matcher", "upper", "LStandIns$Matcher;", true)
  | _ => ("StandIns$Matcher", "size", "I", true)
def RxM : String := "StandInsModel"
def TxM : u_T := fun k => match k with
  | 0 => ("StandInsModel", "many", "[I", true)
  | 1 => ("StandInsModel", "gives", "[Z", true)
  | 2 => ("StandInsModel", "typeOf", "[I", true)
  | 3 => ("StandInsModel", "kindOf", "[I", true)
  | 4 => ("StandInsModel", "standIns", "I", false)
  | 5 => ("StandInsModel", "size", "[I", true)
  | 6 => ("StandInsModel", "kinds", "[I", true)
  | 7 => ("StandInsModel", "values", "[I", true)
  | 8 => ("StandInsModel", "stack", "I", false)
  | 9 => ("StandInsModel", "state", "I", false)
  | 10 => ("StandInsModel", "who", "I", false)
  | 11 => ("StandInsModel", "mode", "I", false)
  | 12 => ("StandInsModel", "times", "I", false)
  | 13 => ("StandInsModel", "number", "[I", true)
  | 14 => ("StandInsModel", "by", "[I", true)
  | 15 => ("StandInsModel", "method", "[I", true)
  | 16 => ("StandInsModel", "as", "[I", true)
  | 17 => ("StandInsModel", "bs", "[I", true)
  | 18 => ("StandInsModel", "answeredBy", "[I", true)
  | 19 => ("StandInsModel", "seen", "[Z", true)
  | 20 => ("StandInsModel", "calls", "I", false)
  | 21 => ("StandInsModel", "next", "I", false)
  | 22 => ("StandInsModel", "toldOf", "[I", true)
  | 23 => ("StandInsModel", "toldMethod", "[I", true)
  | 24 => ("StandInsModel", "answers", "[I", true)
  | 25 => ("StandInsModel", "used", "[I", true)
  | 26 => ("StandInsModel", "answerKind", "[I", true)
  | 27 => ("StandInsModel", "answerValue", "[I", true)
  | 28 => ("StandInsModel", "gone", "[Z", true)
  | 29 => ("StandInsModel", "tellings", "I", false)
  | 30 => ("StandInsModel", "misuses", "I", false)
  | 31 => ("StandInsModel", "place", "I", false)
  | 32 => ("StandInsModel", "found", "[I", true)
  | 33 => ("StandInsModel", "foundNumber", "[I", true)
  | 34 => ("StandInsModel", "caught", "[I", true)
  | 35 => ("StandInsModel", "finds", "I", false)
  | 36 => ("StandInsModel", "catches", "I", false)
  | 37 => ("StandInsModel", "checked", "Z", false)
  | _ => ("StandInsModel", "passed", "Z", false)
def RxL : String := "StandInsLaw"
abbrev vwCl : List vw_C := [(RxA, TxA, 18), (RxK, TxK, 2), (RxB, TxB, 3), (RxF, TxF, 5), (RxC, TxC, 4), (RxD, TxD, 2), (RxN, TxN, 7), (RxT, TxT, 5), (RxP, TxP, 4), (RxQ, TxQ, 3), (RxH, TxH, 5), (RxM, TxM, 39)]
abbrev ixH : Nat := 10
def xHost : String := "StandIns"
abbrev bA_init : ByteArray := prog_1_method_1_code
def yA_init : MethodName := ⟨RxA, "<init>", "()V"⟩
abbrev bA_define : ByteArray := prog_1_method_2_code
def yA_define : MethodName := ⟨RxA, "define", "(IIIZ)I"⟩
abbrev bA_make : ByteArray := prog_1_method_3_code
def yA_make : MethodName := ⟨RxA, "make", "(II)I"⟩
abbrev bA_matcher : ByteArray := prog_1_method_4_code
def yA_matcher : MethodName := ⟨RxA, "matcher", "(II)I"⟩
abbrev bA_call : ByteArray := prog_1_method_5_code
def yA_call : MethodName := ⟨RxA, "call", "(IIII)J"⟩
abbrev bA_when : ByteArray := prog_1_method_6_code
def yA_when : MethodName := ⟨RxA, "when", "()I"⟩
abbrev bA_answer : ByteArray := prog_1_method_7_code
def yA_answer : MethodName := ⟨RxA, "answer", "(II)I"⟩
abbrev bA_told : ByteArray := prog_1_method_8_code
def yA_told : MethodName := ⟨RxA, "told", "(I)I"⟩
abbrev bA_check : ByteArray := prog_1_method_9_code
def yA_check : MethodName := ⟨RxA, "check", "(III)I"⟩
abbrev bA_noMore : ByteArray := prog_1_method_10_code
def yA_noMore : MethodName := ⟨RxA, "noMore", "(I)I"⟩
abbrev bA_restart : ByteArray := prog_1_method_11_code
def yA_restart : MethodName := ⟨RxA, "restart", "()I"⟩
abbrev bA_noted : ByteArray := prog_1_method_12_code
def yA_noted : MethodName := ⟨RxA, "noted", "(II)I"⟩
abbrev bA_telling : ByteArray := prog_1_method_13_code
def yA_telling : MethodName := ⟨RxA, "telling", "(II)I"⟩
abbrev bA_found : ByteArray := prog_1_method_14_code
def yA_found : MethodName := ⟨RxA, "found", "(I)I"⟩
abbrev bA_caught : ByteArray := prog_1_method_15_code
def yA_caught : MethodName := ⟨RxA, "caught", "(I)I"⟩
abbrev bA_count : ByteArray := prog_1_method_16_code
def yA_count : MethodName := ⟨RxA, "count", "(I)I"⟩
abbrev bA_isBelow : ByteArray := prog_1_method_17_code
def yA_isBelow : MethodName := ⟨RxA, "isBelow", "(II)Z"⟩
abbrev bA_isStandIn : ByteArray := prog_1_method_18_code
def yA_isStandIn : MethodName := ⟨RxA, "isStandIn", "(I)Z"⟩
abbrev bA_isAnswer : ByteArray := prog_1_method_19_code
def yA_isAnswer : MethodName := ⟨RxA, "isAnswer", "(II)Z"⟩
abbrev bA_methodOf : ByteArray := prog_1_method_20_code
def yA_methodOf : MethodName := ⟨RxA, "methodOf", "(II)LStandIns$Method;"⟩
abbrev bA_awaitsCall : ByteArray := prog_1_method_21_code
def yA_awaitsCall : MethodName := ⟨RxA, "awaitsCall", "()Z"⟩
abbrev bA_lacksAnswers : ByteArray := prog_1_method_22_code
def yA_lacksAnswers : MethodName := ⟨RxA, "lacksAnswers", "()Z"⟩
abbrev bA_misuseOfPlainStep : ByteArray := prog_1_method_23_code
def yA_misuseOfPlainStep : MethodName := ⟨RxA, "misuseOfPlainStep", "(Z)I"⟩
abbrev bA_misuseOfCall : ByteArray := prog_1_method_24_code
def yA_misuseOfCall : MethodName := ⟨RxA, "misuseOfCall", "(ILStandIns$Method;)I"⟩
abbrev bA_misuseIf : ByteArray := prog_1_method_25_code
def yA_misuseIf : MethodName := ⟨RxA, "misuseIf", "(ZZZ)I"⟩
abbrev bA_idleWith : ByteArray := prog_1_method_26_code
def yA_idleWith : MethodName := ⟨RxA, "idleWith", "(I)I"⟩
abbrev bA_latestTelling : ByteArray := prog_1_method_27_code
def yA_latestTelling : MethodName := ⟨RxA, "latestTelling", "()LStandIns$Telling;"⟩
abbrev bA_beginTelling : ByteArray := prog_1_method_28_code
def yA_beginTelling : MethodName := ⟨RxA, "beginTelling", "()V"⟩
abbrev bA_tellPrepared : ByteArray := prog_1_method_29_code
def yA_tellPrepared : MethodName := ⟨RxA, "tellPrepared", "()J"⟩
abbrev bA_tellingFor : ByteArray := prog_1_method_30_code
def yA_tellingFor : MethodName := ⟨RxA, "tellingFor", "(LStandIns$Note;)I"⟩
abbrev bA_tellingsNeverUsed : ByteArray := prog_1_method_31_code
def yA_tellingsNeverUsed : MethodName := ⟨RxA, "tellingsNeverUsed", "()I"⟩
abbrev bA_hasNoRoomForCallOf : ByteArray := prog_1_method_32_code
def yA_hasNoRoomForCallOf : MethodName := ⟨RxA, "hasNoRoomForCallOf", "(I)Z"⟩
abbrev bA_matcherOf : ByteArray := prog_1_method_33_code
def yA_matcherOf : MethodName := ⟨RxA, "matcherOf", "(III)LStandIns$Matcher;"⟩
abbrev bA_noteAndAnswer : ByteArray := prog_1_method_34_code
def yA_noteAndAnswer : MethodName := ⟨RxA, "noteAndAnswer", "(LStandIns$Method;II)J"⟩
abbrev bA_doCheck : ByteArray := prog_1_method_35_code
def yA_doCheck : MethodName := ⟨RxA, "doCheck", "()J"⟩
abbrev bA_findAbove : ByteArray := prog_1_method_36_code
def yA_findAbove : MethodName := ⟨RxA, "findAbove", "(I)V"⟩
abbrev bA_passes : ByteArray := prog_1_method_37_code
def yA_passes : MethodName := ⟨RxA, "passes", "()Z"⟩
abbrev bA_seeAndCatch : ByteArray := prog_1_method_38_code
def yA_seeAndCatch : MethodName := ⟨RxA, "seeAndCatch", "()V"⟩
abbrev bM_init : ByteArray := prog_13_method_1_code
def yM_init : MethodName := ⟨RxM, "<init>", "()V"⟩
abbrev bM_in : ByteArray := prog_13_method_2_code
def yM_in : MethodName := ⟨RxM, "in", "(III)Z"⟩
abbrev bM_shape : ByteArray := prog_13_method_3_code
def yM_shape : MethodName := ⟨RxM, "shape", "(II)I"⟩
abbrev bM_misuse : ByteArray := prog_13_method_4_code
def yM_misuse : MethodName := ⟨RxM, "misuse", "(ZIZZ)I"⟩
abbrev bM_other : ByteArray := prog_13_method_5_code
def yM_other : MethodName := ⟨RxM, "other", "(Z)I"⟩
abbrev bM_willNotDo : ByteArray := prog_13_method_6_code
def yM_willNotDo : MethodName := ⟨RxM, "willNotDo", "(III)Z"⟩
abbrev bM_define : ByteArray := prog_13_method_7_code
def yM_define : MethodName := ⟨RxM, "define", "(IIIZ)I"⟩
abbrev bM_make : ByteArray := prog_13_method_8_code
def yM_make : MethodName := ⟨RxM, "make", "(II)I"⟩
abbrev bM_copy : ByteArray := prog_13_method_9_code
def yM_copy : MethodName := ⟨RxM, "copy", "(III)V"⟩
abbrev bM_single : ByteArray := prog_13_method_10_code
def yM_single : MethodName := ⟨RxM, "single", "(III)V"⟩
abbrev bM_matcher : ByteArray := prog_13_method_11_code
def yM_matcher : MethodName := ⟨RxM, "matcher", "(II)I"⟩
abbrev bM_matches : ByteArray := prog_13_method_12_code
def yM_matches : MethodName := ⟨RxM, "matches", "(II)Z"⟩
abbrev bM_matchesCall : ByteArray := prog_13_method_13_code
def yM_matchesCall : MethodName := ⟨RxM, "matchesCall", "(IIII)Z"⟩
abbrev bM_real : ByteArray := prog_13_method_14_code
def yM_real : MethodName := ⟨RxM, "real", "(III)I"⟩
abbrev bM_call : ByteArray := prog_13_method_15_code
def yM_call : MethodName := ⟨RxM, "call", "(IIII)J"⟩
abbrev bM_keep : ByteArray := prog_13_method_16_code
def yM_keep : MethodName := ⟨RxM, "keep", "(III)V"⟩
abbrev bM_tell : ByteArray := prog_13_method_17_code
def yM_tell : MethodName := ⟨RxM, "tell", "(III)V"⟩
abbrev bM_note : ByteArray := prog_13_method_18_code
def yM_note : MethodName := ⟨RxM, "note", "(IIII)V"⟩
abbrev bM_answered : ByteArray := prog_13_method_19_code
def yM_answered : MethodName := ⟨RxM, "answered", "(I)J"⟩
abbrev bM_check_Z2 : ByteArray := prog_13_method_20_code
def yM_check_Z2 : MethodName := ⟨RxM, "check", "(II)Z"⟩
abbrev bM_when : ByteArray := prog_13_method_21_code
def yM_when : MethodName := ⟨RxM, "when", "()I"⟩
abbrev bM_answer : ByteArray := prog_13_method_22_code
def yM_answer : MethodName := ⟨RxM, "answer", "(II)I"⟩
abbrev bM_told : ByteArray := prog_13_method_23_code
def yM_told : MethodName := ⟨RxM, "told", "(I)I"⟩
abbrev bM_check_I3 : ByteArray := prog_13_method_24_code
def yM_check_I3 : MethodName := ⟨RxM, "check", "(III)I"⟩
abbrev bM_noMore : ByteArray := prog_13_method_25_code
def yM_noMore : MethodName := ⟨RxM, "noMore", "(I)I"⟩
abbrev bM_restart : ByteArray := prog_13_method_26_code
def yM_restart : MethodName := ⟨RxM, "restart", "()I"⟩
abbrev bM_noted : ByteArray := prog_13_method_27_code
def yM_noted : MethodName := ⟨RxM, "noted", "(II)I"⟩
abbrev bM_telling : ByteArray := prog_13_method_28_code
def yM_telling : MethodName := ⟨RxM, "telling", "(II)I"⟩
abbrev bM_found : ByteArray := prog_13_method_29_code
def yM_found : MethodName := ⟨RxM, "found", "(I)I"⟩
abbrev bM_caught : ByteArray := prog_13_method_30_code
def yM_caught : MethodName := ⟨RxM, "caught", "(I)I"⟩
abbrev bM_count : ByteArray := prog_13_method_31_code
def yM_count : MethodName := ⟨RxM, "count", "(I)I"⟩
abbrev bQ_init : ByteArray := prog_2_method_1_code
def yQ_init : MethodName := ⟨RxQ, "<init>", "()V"⟩
abbrev bQ_add : ByteArray := prog_2_method_2_code
def yQ_add : MethodName := ⟨RxQ, "add", "(II)V"⟩
abbrev bQ_takeAllOf : ByteArray := prog_2_method_3_code
def yQ_takeAllOf : MethodName := ⟨RxQ, "takeAllOf", "(LStandIns$Answers;)V"⟩
abbrev bQ_allDoFor : ByteArray := prog_2_method_4_code
def yQ_allDoFor : MethodName := ⟨RxQ, "allDoFor", "(LStandIns$Method;)Z"⟩
abbrev bQ_spokenTo : ByteArray := prog_2_method_5_code
def yQ_spokenTo : MethodName := ⟨RxQ, "spokenTo", "(ILStandIns$Note;LStandIns$Method;)J"⟩
abbrev bC_init : ByteArray := prog_3_method_1_code
def yC_init : MethodName := ⟨RxC, "<init>", "()V"⟩
abbrev bC_add : ByteArray := prog_3_method_2_code
def yC_add : MethodName := ⟨RxC, "add", "(I)V"⟩
abbrev bC_beforeLatest : ByteArray := prog_3_method_3_code
def yC_beforeLatest : MethodName := ⟨RxC, "beforeLatest", "(I)I"⟩
abbrev bF_init : ByteArray := prog_4_method_1_code
def yF_init : MethodName := ⟨RxF, "<init>", "()V"⟩
abbrev bF_add : ByteArray := prog_4_method_2_code
def yF_add : MethodName := ⟨RxF, "add", "(II)V"⟩
abbrev bH_init : ByteArray := prog_5_method_1_code
def yH_init : MethodName := ⟨RxH, "<init>", "(IILStandIns$Matcher;LStandIns$Matcher;)V"⟩
abbrev bH_takenBy : ByteArray := prog_5_method_2_code
def yH_takenBy : MethodName := ⟨RxH, "takenBy", "(I)I"⟩
abbrev bH_sizeOf : ByteArray := prog_5_method_3_code
def yH_sizeOf : MethodName := ⟨RxH, "sizeOf", "(LStandIns$Matcher;)I"⟩
abbrev bH_isCatch : ByteArray := prog_5_method_4_code
def yH_isCatch : MethodName := ⟨RxH, "isCatch", "(LStandIns$Matcher;)Z"⟩
abbrev bH_accepts : ByteArray := prog_5_method_5_code
def yH_accepts : MethodName := ⟨RxH, "accepts", "(LStandIns$Matcher;I)Z"⟩
abbrev bD_init : ByteArray := prog_6_method_1_code
def yD_init : MethodName := ⟨RxD, "<init>", "()V"⟩
abbrev bD_canDo : ByteArray := prog_6_method_2_code
def yD_canDo : MethodName := ⟨RxD, "canDo", "(II)Z"⟩
abbrev bD_realResult : ByteArray := prog_6_method_3_code
def yD_realResult : MethodName := ⟨RxD, "realResult", "(LStandIns$Note;)I"⟩
abbrev bN_init : ByteArray := prog_7_method_1_code
def yN_init : MethodName := ⟨RxN, "<init>", "()V"⟩
abbrev bB_init : ByteArray := prog_8_method_1_code
def yB_init : MethodName := ⟨RxB, "<init>", "()V"⟩
abbrev bB_add : ByteArray := prog_8_method_2_code
def yB_add : MethodName := ⟨RxB, "add", "(LStandIns$Pattern;II)LStandIns$Note;"⟩
abbrev bB_takeBackLast : ByteArray := prog_8_method_3_code
def yB_takeBackLast : MethodName := ⟨RxB, "takeBackLast", "()V"⟩
abbrev bB_manyOf : ByteArray := prog_8_method_4_code
def yB_manyOf : MethodName := ⟨RxB, "manyOf", "(I)I"⟩
abbrev bB_firstUnseenOf : ByteArray := prog_8_method_5_code
def yB_firstUnseenOf : MethodName := ⟨RxB, "firstUnseenOf", "(I)I"⟩
abbrev bP_init : ByteArray := prog_9_method_1_code
def yP_init : MethodName := ⟨RxP, "<init>", "()V"⟩
abbrev bP_copy : ByteArray := prog_9_method_2_code
def yP_copy : MethodName := ⟨RxP, "copy", "(LStandIns$Pattern;)V"⟩
abbrev bP_matches : ByteArray := prog_9_method_3_code
def yP_matches : MethodName := ⟨RxP, "matches", "(LStandIns$Note;)Z"⟩
abbrev bK_init : ByteArray := prog_10_method_1_code
def yK_init : MethodName := ⟨RxK, "<init>", "()V"⟩
abbrev bK_hasRoomFor : ByteArray := prog_10_method_2_code
def yK_hasRoomFor : MethodName := ⟨RxK, "hasRoomFor", "(I)Z"⟩
abbrev bK_push : ByteArray := prog_10_method_3_code
def yK_push : MethodName := ⟨RxK, "push", "(LStandIns$Matcher;)V"⟩
abbrev bK_pop : ByteArray := prog_10_method_4_code
def yK_pop : MethodName := ⟨RxK, "pop", "()LStandIns$Matcher;"⟩
abbrev bT_init : ByteArray := prog_11_method_1_code
def yT_init : MethodName := ⟨RxT, "<init>", "()V"⟩
abbrev bT_answerTo : ByteArray := prog_11_method_2_code
def yT_answerTo : MethodName := ⟨RxT, "answerTo", "(LStandIns$Note;LStandIns$Method;)J"⟩
def tb_okw (w : Cond) : Bool := match w with
  | .fieldLinkNest .. => true
  | .methodLinkNest .. => true
  | .arrayClass _ => true
  | .arrayOver (.object _) => true
  | w => w.onTables && w.keeps
def tb_onw (w : Cond) : Bool := match w with
  | .arrayClass _ => true
  | .arrayOver _ => true
  | w => w.onTables
def Tb : List Cond := lw_tbl.filter tb_okw
theorem tb_m {w : Cond} (h : w ∈ lw_tbl) (ok : tb_okw w = true) : w ∈ Tb := List.mem_filter.mpr ⟨h, ok⟩
theorem tb_0 {w : Cond} (h : w ∈ k2_sels lw_privs) (ok : tb_okw w = true := by rfl) : w ∈ Tb := tb_m (List.mem_append_left _ h) ok
theorem tb_1 {w : Cond} (h : w ∈ tables_1_1) (ok : tb_okw w = true := by rfl) : w ∈ Tb := tb_m (List.mem_append_right _ (List.mem_append_left _ h)) ok
theorem tb_2 {w : Cond} (h : w ∈ tables_1_2) (ok : tb_okw w = true := by rfl) : w ∈ Tb := tb_m (List.mem_append_right _ (List.mem_append_right _ (List.mem_append_left _ h))) ok
theorem tb_3 {w : Cond} (h : w ∈ tables_1_3) (ok : tb_okw w = true := by rfl) : w ∈ Tb := tb_m (List.mem_append_right _ (List.mem_append_right _ (List.mem_append_right _ (List.mem_append_left _ h)))) ok
theorem tb_4 {w : Cond} (h : w ∈ tables_1_4) (ok : tb_okw w = true := by rfl) : w ∈ Tb := tb_m (List.mem_append_right _ (List.mem_append_right _ (List.mem_append_right _ (List.mem_append_right _ h)))) ok
