section
-- ===== PART A: goes FIRST, ahead of the names: the tables' words, and 'selects' of the private methods out of them =====
/-- a private method of a class that the tables say can be made, by its rows of tables_1 -/
def lw_okq (q : MethodName × Nat) : Prop := (q.1.cls ≠ "java/lang/invoke/MethodHandle" ∧ q.1.cls ≠ "java/lang/invoke/VarHandle") ∧ Cond.instantiable q.1.cls q.2 ∈ tables_1 ∧ Cond.privateMethod q.1 ∈ tables_1 ∧ Cond.instanceMethod q.1 ∈ tables_1
theorem lw_p0 : lw_okq (⟨"KeyDistiller$Letters", "has", "(I)Z"⟩, 4) := ⟨⟨by decide +kernel, by decide +kernel⟩, List.mem_of_getElem? (i := 75) (by decide +kernel), List.mem_of_getElem? (i := 191) (by decide +kernel), List.mem_of_getElem? (i := 192) (by decide +kernel)⟩
theorem lw_p1 : lw_okq (⟨"KeyDistiller$Dialogue", "tell", "(II)I"⟩, 12) := ⟨⟨by decide +kernel, by decide +kernel⟩, List.mem_of_getElem? (i := 69) (by decide +kernel), List.mem_of_getElem? (i := 195) (by decide +kernel), List.mem_of_getElem? (i := 196) (by decide +kernel)⟩
theorem lw_p2 : lw_okq (⟨"KeyDistiller$Dialogue", "passOf", "(I)I"⟩, 12) := ⟨⟨by decide +kernel, by decide +kernel⟩, List.mem_of_getElem? (i := 69) (by decide +kernel), List.mem_of_getElem? (i := 199) (by decide +kernel), List.mem_of_getElem? (i := 200) (by decide +kernel)⟩
theorem lw_p3 : lw_okq (⟨"KeyDistiller$Dialogue", "fromOf", "(I)I"⟩, 12) := ⟨⟨by decide +kernel, by decide +kernel⟩, List.mem_of_getElem? (i := 69) (by decide +kernel), List.mem_of_getElem? (i := 203) (by decide +kernel), List.mem_of_getElem? (i := 204) (by decide +kernel)⟩
theorem lw_p4 : lw_okq (⟨"KeyDistiller$Dialogue", "toOf", "(I)I"⟩, 12) := ⟨⟨by decide +kernel, by decide +kernel⟩, List.mem_of_getElem? (i := 69) (by decide +kernel), List.mem_of_getElem? (i := 207) (by decide +kernel), List.mem_of_getElem? (i := 208) (by decide +kernel)⟩
theorem lw_p5 : lw_okq (⟨"KeyDistiller$Dialogue", "isOver", "()Z"⟩, 12) := ⟨⟨by decide +kernel, by decide +kernel⟩, List.mem_of_getElem? (i := 69) (by decide +kernel), List.mem_of_getElem? (i := 215) (by decide +kernel), List.mem_of_getElem? (i := 216) (by decide +kernel)⟩
theorem lw_p6 : lw_okq (⟨"java/lang/Throwable", "fillInStackTrace", "(I)Ljava/lang/Throwable;"⟩, 6) := ⟨⟨by decide +kernel, by decide +kernel⟩, List.mem_of_getElem? (i := 282) (by decide +kernel), List.mem_of_getElem? (i := 280) (by decide +kernel), List.mem_of_getElem? (i := 281) (by decide +kernel)⟩
theorem lw_p7 : lw_okq (⟨"KeyDistiller", "stationOf", "(I)LKeyDistiller$Station;"⟩, 11) := ⟨⟨by decide +kernel, by decide +kernel⟩, List.mem_of_getElem? (i := 17) (by decide +kernel), List.mem_of_getElem? (i := 312) (by decide +kernel), List.mem_of_getElem? (i := 313) (by decide +kernel)⟩
theorem lw_p8 : lw_okq (⟨"KeyDistiller", "isSifted", "()Z"⟩, 11) := ⟨⟨by decide +kernel, by decide +kernel⟩, List.mem_of_getElem? (i := 17) (by decide +kernel), List.mem_of_getElem? (i := 316) (by decide +kernel), List.mem_of_getElem? (i := 317) (by decide +kernel)⟩
theorem lw_p9 : lw_okq (⟨"KeyDistiller$Station", "hasAnyOf", "(II)Z"⟩, 6) := ⟨⟨by decide +kernel, by decide +kernel⟩, List.mem_of_getElem? (i := 25) (by decide +kernel), List.mem_of_getElem? (i := 320) (by decide +kernel), List.mem_of_getElem? (i := 321) (by decide +kernel)⟩
theorem lw_p10 : lw_okq (⟨"KeyDistiller$Station", "note", "(IIIII)V"⟩, 6) := ⟨⟨by decide +kernel, by decide +kernel⟩, List.mem_of_getElem? (i := 25) (by decide +kernel), List.mem_of_getElem? (i := 340) (by decide +kernel), List.mem_of_getElem? (i := 341) (by decide +kernel)⟩
theorem lw_p11 : lw_okq (⟨"KeyDistiller", "isKept", "(I)Z"⟩, 11) := ⟨⟨by decide +kernel, by decide +kernel⟩, List.mem_of_getElem? (i := 17) (by decide +kernel), List.mem_of_getElem? (i := 352) (by decide +kernel), List.mem_of_getElem? (i := 353) (by decide +kernel)⟩
theorem lw_p12 : lw_okq (⟨"KeyDistiller$Dialogue", "isBegun", "()Z"⟩, 12) := ⟨⟨by decide +kernel, by decide +kernel⟩, List.mem_of_getElem? (i := 69) (by decide +kernel), List.mem_of_getElem? (i := 363) (by decide +kernel), List.mem_of_getElem? (i := 364) (by decide +kernel)⟩
theorem lw_p13 : lw_okq (⟨"KeyDistiller$Drawing", "shuffle", "(JI[I)V"⟩, 1) := ⟨⟨by decide +kernel, by decide +kernel⟩, List.mem_of_getElem? (i := 59) (by decide +kernel), List.mem_of_getElem? (i := 369) (by decide +kernel), List.mem_of_getElem? (i := 370) (by decide +kernel)⟩
theorem lw_p14 : lw_okq (⟨"KeyDistiller$Drawing", "restart", "(J)V"⟩, 1) := ⟨⟨by decide +kernel, by decide +kernel⟩, List.mem_of_getElem? (i := 59) (by decide +kernel), List.mem_of_getElem? (i := 373) (by decide +kernel), List.mem_of_getElem? (i := 374) (by decide +kernel)⟩
theorem lw_p15 : lw_okq (⟨"KeyDistiller$Drawing", "drawBelow", "(I)I"⟩, 1) := ⟨⟨by decide +kernel, by decide +kernel⟩, List.mem_of_getElem? (i := 59) (by decide +kernel), List.mem_of_getElem? (i := 377) (by decide +kernel), List.mem_of_getElem? (i := 378) (by decide +kernel)⟩
def lw_privs_1 : List (MethodName × Nat) := [(⟨"KeyDistiller$Letters", "has", "(I)Z"⟩, 4), (⟨"KeyDistiller$Dialogue", "tell", "(II)I"⟩, 12), (⟨"KeyDistiller$Dialogue", "passOf", "(I)I"⟩, 12), (⟨"KeyDistiller$Dialogue", "fromOf", "(I)I"⟩, 12), (⟨"KeyDistiller$Dialogue", "toOf", "(I)I"⟩, 12), (⟨"KeyDistiller$Dialogue", "isOver", "()Z"⟩, 12), (⟨"java/lang/Throwable", "fillInStackTrace", "(I)Ljava/lang/Throwable;"⟩, 6), (⟨"KeyDistiller", "stationOf", "(I)LKeyDistiller$Station;"⟩, 11), (⟨"KeyDistiller", "isSifted", "()Z"⟩, 11), (⟨"KeyDistiller$Station", "hasAnyOf", "(II)Z"⟩, 6), (⟨"KeyDistiller$Station", "note", "(IIIII)V"⟩, 6), (⟨"KeyDistiller", "isKept", "(I)Z"⟩, 11), (⟨"KeyDistiller$Dialogue", "isBegun", "()Z"⟩, 12), (⟨"KeyDistiller$Drawing", "shuffle", "(JI[I)V"⟩, 1), (⟨"KeyDistiller$Drawing", "restart", "(J)V"⟩, 1), (⟨"KeyDistiller$Drawing", "drawBelow", "(I)I"⟩, 1)]
theorem lw_r1 : ∀ q ∈ lw_privs_1, lw_okq q := List.forall_mem_cons.mpr ⟨lw_p0, List.forall_mem_cons.mpr ⟨lw_p1, List.forall_mem_cons.mpr ⟨lw_p2, List.forall_mem_cons.mpr ⟨lw_p3, List.forall_mem_cons.mpr ⟨lw_p4, List.forall_mem_cons.mpr ⟨lw_p5, List.forall_mem_cons.mpr ⟨lw_p6, List.forall_mem_cons.mpr ⟨lw_p7, List.forall_mem_cons.mpr ⟨lw_p8, List.forall_mem_cons.mpr ⟨lw_p9, List.forall_mem_cons.mpr ⟨lw_p10, List.forall_mem_cons.mpr ⟨lw_p11, List.forall_mem_cons.mpr ⟨lw_p12, List.forall_mem_cons.mpr ⟨lw_p13, List.forall_mem_cons.mpr ⟨lw_p14, List.forall_mem_cons.mpr ⟨lw_p15, fun _ h => absurd h List.not_mem_nil⟩⟩⟩⟩⟩⟩⟩⟩⟩⟩⟩⟩⟩⟩⟩⟩
theorem lw_p16 : lw_okq (⟨"KeyDistiller$Drawing", "advance", "()V"⟩, 1) := ⟨⟨by decide +kernel, by decide +kernel⟩, List.mem_of_getElem? (i := 59) (by decide +kernel), List.mem_of_getElem? (i := 383) (by decide +kernel), List.mem_of_getElem? (i := 384) (by decide +kernel)⟩
theorem lw_p17 : lw_okq (⟨"KeyDistiller$Station", "leaveOut", "([II)V"⟩, 6) := ⟨⟨by decide +kernel, by decide +kernel⟩, List.mem_of_getElem? (i := 25) (by decide +kernel), List.mem_of_getElem? (i := 392) (by decide +kernel), List.mem_of_getElem? (i := 393) (by decide +kernel)⟩
theorem lw_p18 : lw_okq (⟨"KeyDistiller$Dialogue", "begin", "(II)V"⟩, 12) := ⟨⟨by decide +kernel, by decide +kernel⟩, List.mem_of_getElem? (i := 69) (by decide +kernel), List.mem_of_getElem? (i := 405) (by decide +kernel), List.mem_of_getElem? (i := 406) (by decide +kernel)⟩
theorem lw_p19 : lw_okq (⟨"KeyDistiller$Dialogue", "goOn", "()V"⟩, 12) := ⟨⟨by decide +kernel, by decide +kernel⟩, List.mem_of_getElem? (i := 69) (by decide +kernel), List.mem_of_getElem? (i := 410) (by decide +kernel), List.mem_of_getElem? (i := 411) (by decide +kernel)⟩
theorem lw_p20 : lw_okq (⟨"KeyDistiller$Dialogue", "askForBlock", "()Z"⟩, 12) := ⟨⟨by decide +kernel, by decide +kernel⟩, List.mem_of_getElem? (i := 69) (by decide +kernel), List.mem_of_getElem? (i := 415) (by decide +kernel), List.mem_of_getElem? (i := 416) (by decide +kernel)⟩
theorem lw_p21 : lw_okq (⟨"KeyDistiller$Dialogue", "blockCount", "(I)I"⟩, 12) := ⟨⟨by decide +kernel, by decide +kernel⟩, List.mem_of_getElem? (i := 69) (by decide +kernel), List.mem_of_getElem? (i := 419) (by decide +kernel), List.mem_of_getElem? (i := 420) (by decide +kernel)⟩
theorem lw_p22 : lw_okq (⟨"KeyDistiller$Dialogue", "blockSize", "(I)I"⟩, 12) := ⟨⟨by decide +kernel, by decide +kernel⟩, List.mem_of_getElem? (i := 69) (by decide +kernel), List.mem_of_getElem? (i := 423) (by decide +kernel), List.mem_of_getElem? (i := 424) (by decide +kernel)⟩
theorem lw_p23 : lw_okq (⟨"KeyDistiller$Dialogue", "blockEnd", "(II)I"⟩, 12) := ⟨⟨by decide +kernel, by decide +kernel⟩, List.mem_of_getElem? (i := 69) (by decide +kernel), List.mem_of_getElem? (i := 427) (by decide +kernel), List.mem_of_getElem? (i := 428) (by decide +kernel)⟩
theorem lw_p24 : lw_okq (⟨"KeyDistiller$Dialogue", "ask", "(IIII)V"⟩, 12) := ⟨⟨by decide +kernel, by decide +kernel⟩, List.mem_of_getElem? (i := 69) (by decide +kernel), List.mem_of_getElem? (i := 434) (by decide +kernel), List.mem_of_getElem? (i := 435) (by decide +kernel)⟩
theorem lw_p25 : lw_okq (⟨"KeyDistiller$Letters", "send", "(III)V"⟩, 4) := ⟨⟨by decide +kernel, by decide +kernel⟩, List.mem_of_getElem? (i := 75) (by decide +kernel), List.mem_of_getElem? (i := 438) (by decide +kernel), List.mem_of_getElem? (i := 439) (by decide +kernel)⟩
theorem lw_p26 : lw_okq (⟨"KeyDistiller$Dialogue", "mendOrMoveOn", "()Z"⟩, 12) := ⟨⟨by decide +kernel, by decide +kernel⟩, List.mem_of_getElem? (i := 69) (by decide +kernel), List.mem_of_getElem? (i := 442) (by decide +kernel), List.mem_of_getElem? (i := 443) (by decide +kernel)⟩
theorem lw_p27 : lw_okq (⟨"KeyDistiller$Dialogue", "smallestOddBlock", "()I"⟩, 12) := ⟨⟨by decide +kernel, by decide +kernel⟩, List.mem_of_getElem? (i := 69) (by decide +kernel), List.mem_of_getElem? (i := 446) (by decide +kernel), List.mem_of_getElem? (i := 447) (by decide +kernel)⟩
theorem lw_p28 : lw_okq (⟨"KeyDistiller$Dialogue", "isOdd", "(IIII)Z"⟩, 12) := ⟨⟨by decide +kernel, by decide +kernel⟩, List.mem_of_getElem? (i := 69) (by decide +kernel), List.mem_of_getElem? (i := 450) (by decide +kernel), List.mem_of_getElem? (i := 451) (by decide +kernel)⟩
theorem lw_p29 : lw_okq (⟨"KeyDistiller$Station", "parity", "([III)I"⟩, 6) := ⟨⟨by decide +kernel, by decide +kernel⟩, List.mem_of_getElem? (i := 25) (by decide +kernel), List.mem_of_getElem? (i := 454) (by decide +kernel), List.mem_of_getElem? (i := 455) (by decide +kernel)⟩
theorem lw_p30 : lw_okq (⟨"KeyDistiller$Dialogue", "search", "(II)Z"⟩, 12) := ⟨⟨by decide +kernel, by decide +kernel⟩, List.mem_of_getElem? (i := 69) (by decide +kernel), List.mem_of_getElem? (i := 458) (by decide +kernel), List.mem_of_getElem? (i := 459) (by decide +kernel)⟩
theorem lw_p31 : lw_okq (⟨"KeyDistiller$Dialogue", "deliver", "(I)V"⟩, 12) := ⟨⟨by decide +kernel, by decide +kernel⟩, List.mem_of_getElem? (i := 69) (by decide +kernel), List.mem_of_getElem? (i := 488) (by decide +kernel), List.mem_of_getElem? (i := 489) (by decide +kernel)⟩
def lw_privs_2 : List (MethodName × Nat) := [(⟨"KeyDistiller$Drawing", "advance", "()V"⟩, 1), (⟨"KeyDistiller$Station", "leaveOut", "([II)V"⟩, 6), (⟨"KeyDistiller$Dialogue", "begin", "(II)V"⟩, 12), (⟨"KeyDistiller$Dialogue", "goOn", "()V"⟩, 12), (⟨"KeyDistiller$Dialogue", "askForBlock", "()Z"⟩, 12), (⟨"KeyDistiller$Dialogue", "blockCount", "(I)I"⟩, 12), (⟨"KeyDistiller$Dialogue", "blockSize", "(I)I"⟩, 12), (⟨"KeyDistiller$Dialogue", "blockEnd", "(II)I"⟩, 12), (⟨"KeyDistiller$Dialogue", "ask", "(IIII)V"⟩, 12), (⟨"KeyDistiller$Letters", "send", "(III)V"⟩, 4), (⟨"KeyDistiller$Dialogue", "mendOrMoveOn", "()Z"⟩, 12), (⟨"KeyDistiller$Dialogue", "smallestOddBlock", "()I"⟩, 12), (⟨"KeyDistiller$Dialogue", "isOdd", "(IIII)Z"⟩, 12), (⟨"KeyDistiller$Station", "parity", "([III)I"⟩, 6), (⟨"KeyDistiller$Dialogue", "search", "(II)Z"⟩, 12), (⟨"KeyDistiller$Dialogue", "deliver", "(I)V"⟩, 12)]
theorem lw_r2 : ∀ q ∈ lw_privs_2, lw_okq q := List.forall_mem_cons.mpr ⟨lw_p16, List.forall_mem_cons.mpr ⟨lw_p17, List.forall_mem_cons.mpr ⟨lw_p18, List.forall_mem_cons.mpr ⟨lw_p19, List.forall_mem_cons.mpr ⟨lw_p20, List.forall_mem_cons.mpr ⟨lw_p21, List.forall_mem_cons.mpr ⟨lw_p22, List.forall_mem_cons.mpr ⟨lw_p23, List.forall_mem_cons.mpr ⟨lw_p24, List.forall_mem_cons.mpr ⟨lw_p25, List.forall_mem_cons.mpr ⟨lw_p26, List.forall_mem_cons.mpr ⟨lw_p27, List.forall_mem_cons.mpr ⟨lw_p28, List.forall_mem_cons.mpr ⟨lw_p29, List.forall_mem_cons.mpr ⟨lw_p30, List.forall_mem_cons.mpr ⟨lw_p31, fun _ h => absurd h List.not_mem_nil⟩⟩⟩⟩⟩⟩⟩⟩⟩⟩⟩⟩⟩⟩⟩⟩
theorem lw_p32 : lw_okq (⟨"KeyDistiller$Letters", "takeOut", "(I)V"⟩, 4) := ⟨⟨by decide +kernel, by decide +kernel⟩, List.mem_of_getElem? (i := 75) (by decide +kernel), List.mem_of_getElem? (i := 492) (by decide +kernel), List.mem_of_getElem? (i := 493) (by decide +kernel)⟩
theorem lw_p33 : lw_okq (⟨"KeyDistiller$Dialogue", "answer", "(I)V"⟩, 12) := ⟨⟨by decide +kernel, by decide +kernel⟩, List.mem_of_getElem? (i := 69) (by decide +kernel), List.mem_of_getElem? (i := 496) (by decide +kernel), List.mem_of_getElem? (i := 497) (by decide +kernel)⟩
theorem lw_p34 : lw_okq (⟨"KeyDistiller$Dialogue", "isNewestUnknown", "()Z"⟩, 12) := ⟨⟨by decide +kernel, by decide +kernel⟩, List.mem_of_getElem? (i := 69) (by decide +kernel), List.mem_of_getElem? (i := 503) (by decide +kernel), List.mem_of_getElem? (i := 504) (by decide +kernel)⟩
theorem lw_p35 : lw_okq (⟨"KeyDistiller$Dialogue", "askAgain", "()V"⟩, 12) := ⟨⟨by decide +kernel, by decide +kernel⟩, List.mem_of_getElem? (i := 69) (by decide +kernel), List.mem_of_getElem? (i := 517) (by decide +kernel), List.mem_of_getElem? (i := 518) (by decide +kernel)⟩
theorem lw_p36 : lw_okq (⟨"KeyDistiller$Station", "tagWith", "(II)I"⟩, 6) := ⟨⟨by decide +kernel, by decide +kernel⟩, List.mem_of_getElem? (i := 25) (by decide +kernel), List.mem_of_getElem? (i := 550) (by decide +kernel), List.mem_of_getElem? (i := 551) (by decide +kernel)⟩
theorem lw_p37 : lw_okq (⟨"KeyDistiller$Station", "word", "(II)I"⟩, 6) := ⟨⟨by decide +kernel, by decide +kernel⟩, List.mem_of_getElem? (i := 25) (by decide +kernel), List.mem_of_getElem? (i := 555) (by decide +kernel), List.mem_of_getElem? (i := 556) (by decide +kernel)⟩
theorem lw_p38 : lw_okq (⟨"KeyDistiller$Drawing", "drawBit", "()I"⟩, 1) := ⟨⟨by decide +kernel, by decide +kernel⟩, List.mem_of_getElem? (i := 59) (by decide +kernel), List.mem_of_getElem? (i := 591) (by decide +kernel), List.mem_of_getElem? (i := 592) (by decide +kernel)⟩
theorem lw_p39 : lw_okq (⟨"KeyDistillerModel", "refuse", "(I)I"⟩, 31) := ⟨⟨by decide +kernel, by decide +kernel⟩, List.mem_of_getElem? (i := 602) (by decide +kernel), List.mem_of_getElem? (i := 716) (by decide +kernel), List.mem_of_getElem? (i := 717) (by decide +kernel)⟩
theorem lw_p40 : lw_okq (⟨"KeyDistillerModel", "shuffle", "(IJ)V"⟩, 31) := ⟨⟨by decide +kernel, by decide +kernel⟩, List.mem_of_getElem? (i := 602) (by decide +kernel), List.mem_of_getElem? (i := 732) (by decide +kernel), List.mem_of_getElem? (i := 733) (by decide +kernel)⟩
theorem lw_p41 : lw_okq (⟨"KeyDistillerModel", "draw", "(I)I"⟩, 31) := ⟨⟨by decide +kernel, by decide +kernel⟩, List.mem_of_getElem? (i := 602) (by decide +kernel), List.mem_of_getElem? (i := 736) (by decide +kernel), List.mem_of_getElem? (i := 737) (by decide +kernel)⟩
theorem lw_p42 : lw_okq (⟨"KeyDistillerModel", "turn", "()V"⟩, 31) := ⟨⟨by decide +kernel, by decide +kernel⟩, List.mem_of_getElem? (i := 602) (by decide +kernel), List.mem_of_getElem? (i := 741) (by decide +kernel), List.mem_of_getElem? (i := 742) (by decide +kernel)⟩
theorem lw_p43 : lw_okq (⟨"KeyDistillerModel", "goOn", "()V"⟩, 31) := ⟨⟨by decide +kernel, by decide +kernel⟩, List.mem_of_getElem? (i := 602) (by decide +kernel), List.mem_of_getElem? (i := 755) (by decide +kernel), List.mem_of_getElem? (i := 756) (by decide +kernel)⟩
theorem lw_p44 : lw_okq (⟨"KeyDistillerModel", "asksForBlock", "()Z"⟩, 31) := ⟨⟨by decide +kernel, by decide +kernel⟩, List.mem_of_getElem? (i := 602) (by decide +kernel), List.mem_of_getElem? (i := 759) (by decide +kernel), List.mem_of_getElem? (i := 760) (by decide +kernel)⟩
theorem lw_p45 : lw_okq (⟨"KeyDistillerModel", "end", "(II)I"⟩, 31) := ⟨⟨by decide +kernel, by decide +kernel⟩, List.mem_of_getElem? (i := 602) (by decide +kernel), List.mem_of_getElem? (i := 763) (by decide +kernel), List.mem_of_getElem? (i := 764) (by decide +kernel)⟩
theorem lw_p46 : lw_okq (⟨"KeyDistillerModel", "blockSize", "(I)I"⟩, 31) := ⟨⟨by decide +kernel, by decide +kernel⟩, List.mem_of_getElem? (i := 602) (by decide +kernel), List.mem_of_getElem? (i := 767) (by decide +kernel), List.mem_of_getElem? (i := 768) (by decide +kernel)⟩
theorem lw_p47 : lw_okq (⟨"KeyDistillerModel", "known", "(III)I"⟩, 31) := ⟨⟨by decide +kernel, by decide +kernel⟩, List.mem_of_getElem? (i := 602) (by decide +kernel), List.mem_of_getElem? (i := 771) (by decide +kernel), List.mem_of_getElem? (i := 772) (by decide +kernel)⟩
def lw_privs_3 : List (MethodName × Nat) := [(⟨"KeyDistiller$Letters", "takeOut", "(I)V"⟩, 4), (⟨"KeyDistiller$Dialogue", "answer", "(I)V"⟩, 12), (⟨"KeyDistiller$Dialogue", "isNewestUnknown", "()Z"⟩, 12), (⟨"KeyDistiller$Dialogue", "askAgain", "()V"⟩, 12), (⟨"KeyDistiller$Station", "tagWith", "(II)I"⟩, 6), (⟨"KeyDistiller$Station", "word", "(II)I"⟩, 6), (⟨"KeyDistiller$Drawing", "drawBit", "()I"⟩, 1), (⟨"KeyDistillerModel", "refuse", "(I)I"⟩, 31), (⟨"KeyDistillerModel", "shuffle", "(IJ)V"⟩, 31), (⟨"KeyDistillerModel", "draw", "(I)I"⟩, 31), (⟨"KeyDistillerModel", "turn", "()V"⟩, 31), (⟨"KeyDistillerModel", "goOn", "()V"⟩, 31), (⟨"KeyDistillerModel", "asksForBlock", "()Z"⟩, 31), (⟨"KeyDistillerModel", "end", "(II)I"⟩, 31), (⟨"KeyDistillerModel", "blockSize", "(I)I"⟩, 31), (⟨"KeyDistillerModel", "known", "(III)I"⟩, 31)]
theorem lw_r3 : ∀ q ∈ lw_privs_3, lw_okq q := List.forall_mem_cons.mpr ⟨lw_p32, List.forall_mem_cons.mpr ⟨lw_p33, List.forall_mem_cons.mpr ⟨lw_p34, List.forall_mem_cons.mpr ⟨lw_p35, List.forall_mem_cons.mpr ⟨lw_p36, List.forall_mem_cons.mpr ⟨lw_p37, List.forall_mem_cons.mpr ⟨lw_p38, List.forall_mem_cons.mpr ⟨lw_p39, List.forall_mem_cons.mpr ⟨lw_p40, List.forall_mem_cons.mpr ⟨lw_p41, List.forall_mem_cons.mpr ⟨lw_p42, List.forall_mem_cons.mpr ⟨lw_p43, List.forall_mem_cons.mpr ⟨lw_p44, List.forall_mem_cons.mpr ⟨lw_p45, List.forall_mem_cons.mpr ⟨lw_p46, List.forall_mem_cons.mpr ⟨lw_p47, fun _ h => absurd h List.not_mem_nil⟩⟩⟩⟩⟩⟩⟩⟩⟩⟩⟩⟩⟩⟩⟩⟩
theorem lw_p48 : lw_okq (⟨"KeyDistillerModel", "ask", "(III)V"⟩, 31) := ⟨⟨by decide +kernel, by decide +kernel⟩, List.mem_of_getElem? (i := 602) (by decide +kernel), List.mem_of_getElem? (i := 775) (by decide +kernel), List.mem_of_getElem? (i := 776) (by decide +kernel)⟩
theorem lw_p49 : lw_okq (⟨"KeyDistillerModel", "send", "(ZII)V"⟩, 31) := ⟨⟨by decide +kernel, by decide +kernel⟩, List.mem_of_getElem? (i := 602) (by decide +kernel), List.mem_of_getElem? (i := 779) (by decide +kernel), List.mem_of_getElem? (i := 780) (by decide +kernel)⟩
theorem lw_p50 : lw_okq (⟨"KeyDistillerModel", "search", "()I"⟩, 31) := ⟨⟨by decide +kernel, by decide +kernel⟩, List.mem_of_getElem? (i := 602) (by decide +kernel), List.mem_of_getElem? (i := 783) (by decide +kernel), List.mem_of_getElem? (i := 784) (by decide +kernel)⟩
theorem lw_p51 : lw_okq (⟨"KeyDistillerModel", "parityAt", "(IIII)I"⟩, 31) := ⟨⟨by decide +kernel, by decide +kernel⟩, List.mem_of_getElem? (i := 602) (by decide +kernel), List.mem_of_getElem? (i := 787) (by decide +kernel), List.mem_of_getElem? (i := 788) (by decide +kernel)⟩
theorem lw_p52 : lw_okq (⟨"KeyDistillerModel", "comes", "(ZII)V"⟩, 31) := ⟨⟨by decide +kernel, by decide +kernel⟩, List.mem_of_getElem? (i := 602) (by decide +kernel), List.mem_of_getElem? (i := 795) (by decide +kernel), List.mem_of_getElem? (i := 796) (by decide +kernel)⟩
theorem lw_p53 : lw_okq (⟨"KeyDistillerModel", "tagOf", "(II)I"⟩, 31) := ⟨⟨by decide +kernel, by decide +kernel⟩, List.mem_of_getElem? (i := 602) (by decide +kernel), List.mem_of_getElem? (i := 837) (by decide +kernel), List.mem_of_getElem? (i := 838) (by decide +kernel)⟩
def lw_privs_4 : List (MethodName × Nat) := [(⟨"KeyDistillerModel", "ask", "(III)V"⟩, 31), (⟨"KeyDistillerModel", "send", "(ZII)V"⟩, 31), (⟨"KeyDistillerModel", "search", "()I"⟩, 31), (⟨"KeyDistillerModel", "parityAt", "(IIII)I"⟩, 31), (⟨"KeyDistillerModel", "comes", "(ZII)V"⟩, 31), (⟨"KeyDistillerModel", "tagOf", "(II)I"⟩, 31)]
theorem lw_r4 : ∀ q ∈ lw_privs_4, lw_okq q := List.forall_mem_cons.mpr ⟨lw_p48, List.forall_mem_cons.mpr ⟨lw_p49, List.forall_mem_cons.mpr ⟨lw_p50, List.forall_mem_cons.mpr ⟨lw_p51, List.forall_mem_cons.mpr ⟨lw_p52, List.forall_mem_cons.mpr ⟨lw_p53, fun _ h => absurd h List.not_mem_nil⟩⟩⟩⟩⟩⟩
def lw_privs : List (MethodName × Nat) := lw_privs_1 ++ (lw_privs_2 ++ (lw_privs_3 ++ (lw_privs_4)))
def lw_tbl : List Cond := k2_sels lw_privs ++ tables_1
theorem lw_privs_ok : ∀ q ∈ lw_privs, lw_okq q := by
  show ∀ q ∈ lw_privs_1 ++ (lw_privs_2 ++ (lw_privs_3 ++ (lw_privs_4))), lw_okq q
  exact List.forall_mem_append.mpr ⟨lw_r1, List.forall_mem_append.mpr ⟨lw_r2, List.forall_mem_append.mpr ⟨lw_r3, lw_r4⟩⟩⟩
end
section
/-! ===== BEGIN words of one list among another's, by their places ===== -/
theorem goodIn_r {big : List Cond} (ws : List Cond) (ps : List Nat) (hp : ws = ps.filterMap (fun i => big[i]?)) (h : ws.all goodWord = true) : GoodIn big ws := by
  intro w hw
  have h1 := List.all_eq_true.mp h w hw
  rw [hp] at hw
  obtain ⟨i, -, hi⟩ := List.mem_filterMap.mp hw
  have hm : w ∈ big := by first | exact List.mem_of_getElem? hi | exact List.getElem?_mem hi
  exact ⟨hm, good_of_word h1⟩
theorem goodIn_app {big a b : List Cond} (ha : GoodIn big a) (hb : GoodIn big b) : GoodIn big (a ++ b) := fun w h => (List.mem_append.mp h).elim (ha w) (hb w)
theorem goodIn_ca {big a b : List Cond} {c : Cond} (ha : GoodIn big (c :: a)) (hb : GoodIn big b) : GoodIn big (c :: (a ++ b)) := fun w h => (List.mem_cons.mp h).elim (fun e => ha w (List.mem_cons.mpr (Or.inl e))) (fun h => (List.mem_append.mp h).elim (fun h => ha w (List.mem_cons.mpr (Or.inr h))) (hb w))
theorem goodIn_sub {big ws : List Cond} (hm : ∀ w ∈ ws, w ∈ big) (h : ws.all goodWord = true) : GoodIn big ws := fun w hw => ⟨hm w hw, good_of_word (List.all_eq_true.mp h w hw)⟩
/-! ===== END ===== -/

/-- the tables' word on int[][], of a state -/
def va_AOA (t : FieldType) (U : State) : Prop := (Cond.arrayOver (.array t)).before #[] U = true
theorem va_AOA.use {t : FieldType} {A : Array Value} {U : State} (h : va_AOA t U) : (Cond.arrayOver (.array t)).before A U = true := h
/-! ===== BEGIN new T[n][m]: the outer array a place, the inner ones among the pooled ===== -/
/-- f, but v at every address of l -/
def vr_up {α : Type} (f : Nat → α) (l : List Nat) (v : α) : Nat → α := fun a => if a ∈ l then v else f a
theorem vr_up_in {α : Type} {f : Nat → α} {l : List Nat} {v : α} {a : Nat} (h : a ∈ l) : vr_up f l v a = v := if_pos h
theorem vr_up_ne {α : Type} {f : Nat → α} {l : List Nat} {v : α} {a : Nat} (h : a ∉ l) : vr_up f l v a = f a := if_neg h
theorem vr_rows {L l : List Nat} {f : Nat → va_E} {e : va_E} (h : ∀ a, a ∈ l → a ∉ L) : va_pl L f ++ l.map (fun a => (a, e)) = va_pl (L ++ l) (vr_up f l e) := by
  unfold va_pl
  rw [List.map_append]
  congr 1
  · apply List.map_congr_left
    intro a ha
    rw [vr_up_ne (fun q => h a q ha)]
  · apply List.map_congr_left
    intro a ha
    rw [vr_up_in ha]
theorem vr_lay {X rows : va_W} {x : Nat × va_E} {pl : va_W} {D : va_G} {cl : List vw_C} {H : Heap} (hP : va_P D cl (((X ++ pl) ++ [x]) ++ rows) H) : va_P D cl ((X ++ [x]) ++ (pl ++ rows)) H := by
  rw [List.append_assoc (X ++ pl)] at hP
  have h := va_P.swap hP
  rw [← List.append_assoc X] at h
  have h2 := va_P.swap h
  rw [List.append_assoc (X ++ [x])] at h2
  exact h2
theorem vr_layD {X rows : va_W} {x : Nat × va_E} {pl : va_W} {A : Nat → Prop} (hD : va_D A (((X ++ pl) ++ [x]) ++ rows)) : va_D A ((X ++ [x]) ++ (pl ++ rows)) := by
  rw [List.append_assoc (X ++ pl)] at hD
  have h := va_D.swap hD
  rw [← List.append_assoc X] at h
  have h2 := va_D.swap h
  rw [List.append_assoc (X ++ [x])] at h2
  exact h2
theorem vr_outer (c : ClassId) (N h0 : Nat) : ∀ i : Nat, Jvm.Free.Multi.outerC c N h0 i = arrV c N (fun j => va_rf (if j < i then some (h0 + 1 + j) else none))
  | 0 => by
    show ({ cls := c, slots := Array.replicate N .null, vm := .none } : Cell) = _
    rw [arrV_new]
    refine congrArg (arrV c N) (funext fun j => ?_)
    simp [va_rf]
  | i + 1 => by
    show (Jvm.Free.Multi.outerC c N h0 i).setSlot i (.ref (h0 + 1 + i)) = _
    rw [vr_outer c N h0 i, arrV_store]
    refine congrArg (arrV c N) (funext fun j => ?_)
    by_cases e : j = i
    · subst e
      simp [updV, va_rf]
    · by_cases h : j < i
      · simp [updV, e, h, Nat.lt_succ_of_lt h]
      · simp [updV, e, h, show ¬ j < i + 1 by omega]
section VGM
variable {p : Program} {l : Launch} {e : Env} {R : Room} {s : State} {m : MethodId} {args : Array Value} {below : List Frame} {meth : Method} {c : Code} {H : Heap} {locs : List Loc} {cells slots : Nat} {Q : State → Prop}
variable {cc : ByteArray} {pc : Nat} {ls : Array Slot} {rest : List Value} {D : va_G} {cl : List vw_C} {A : Nat → Prop} {a : Nat} {tys : List (ClassId × FieldType)} {ws : va_W} {H0 : Heap}
theorem va_mna {X : va_W} {L : List Nat} {f : Nat → va_E} {cc : ByteArray} (hexec : p.tables.exec = Jvm.exec) (hb : c.code = cc) {own : String} {index : Nat} {ty : FieldType} {cy : ClassId} (hown : s.vm.findClass own = some m.cls) (hclink : (Cond.classLink own index ("[" ++ (FieldType.array ty).toString)).before args s = true) (hover : va_AOA ty s) (harr : (Cond.arrayClass ty).before args s = true) (hcy : s.vm.findClass (FieldType.array ty).toString = some cy)
    (hK : va_K D cl tys s) (hP : va_P D cl (X ++ va_pl L f) H) (hD : va_D A (X ++ va_pl L f)) (hS : va_S A H0 H locs) (hA : ∀ q, H0.size ≤ q → A q) {n k : Int32} {N' K' : Nat} {z : vp_A} (hn : ¬ n < 0) (hk : ¬ k < 0) (hN : n.toNatClampNeg = N') (hM : k.toNatClampNeg = K')
    (hb1 : N' * 4 ≤ 536870912) (hb2 : K' * componentBytes ty ≤ 536870912) (hb3 : K' ≤ 536870912) (hdf : fits ty (defaultValue ty) = true) (hdd : (defaultValue ty).isDefault = true) (hcells : cells + (1 + N') ≤ R.cells) (hslots : slots + (N' + N' * K') ≤ R.slots) (hz : ∀ c : ClassId, Jvm.Free.Multi.innerC c K' (defaultValue ty) = vp_cell c z) (hdg : decode cc pc = .ok (.multianewarray index 2, 4))
    (kk : ∀ (q : Nat) (r : Nat → Nat) (cA : ClassId) (H1 : Heap), (∀ i j : Nat, i < N' → j < N' → r i = r j → i = j) → (∀ i : Nat, i < N' → r i ∉ L) → va_K D cl (tys ++ [(cA, .array ty)]) s →
      va_P D cl ((X ++ [(q, .inl (cA, N', .inr (.inr (.inr (.inr (fun i => if i < N' then some (r i) else none))))))]) ++ va_pl (L ++ (List.range N').map r) (vr_up f ((List.range N').map r) (.inl (cy, z)))) H1 → va_D A ((X ++ [(q, .inl (cA, N', .inr (.inr (.inr (.inr (fun i => if i < N' then some (r i) else none))))))]) ++ va_pl (L ++ (List.range N').map r) (vr_up f ((List.range N').map r) (.inl (cy, z)))) → va_S A H0 H1 locs →
      W p l e R s m args below meth c H1 locs (cells + 1 + N') (slots + N' + N' * K') Q (F0 m (pc + 4) ls (.ref q :: rest))) : W p l e R s m args below meth c H locs cells slots Q (F0 m pc ls (.int k :: .int n :: rest)) := by
  subst hN
  subst hM
  intro T hT Xs
  obtain ⟨vm₁, cA, comp, -, fA, fC, hO, -, X', step⟩ := Xs.multianewarray2F hexec hown hclink (va_AOA.use hover) harr (g := F0 m pc ls (.int k :: .int n :: rest)) rfl (by rw [hb]; exact hdg) rfl hn hk hb1 hb2 hb3 hdf hdd hcells hslots
  have ec : some cy = some comp := hcy.symm.trans fC
  cases ec
  generalize hF : Jvm.Free.Multi.fill (T.setVm vm₁) cA cy n.toNatClampNeg k.toNatClampNeg (defaultValue ty) n.toNatClampNeg = F at X' step
  have hTh : (T.setVm vm₁).heap = H := hT
  obtain ⟨f1, f2, -, -⟩ := Jvm.Free.Multi.fill_facts (T.setVm vm₁) cA cy n.toNatClampNeg k.toNatClampNeg (defaultValue ty) n.toNatClampNeg
  rw [hF, hTh] at f1 f2
  have hold : ∀ x : Nat, x < H.size → F.heap[x]? = H[x]? := fun x hx => by
    have := Jvm.Free.Multi.fill_old (T.setVm vm₁) cA cy n.toNatClampNeg k.toNatClampNeg (defaultValue ty) (a := x) (by rw [hTh]; exact hx) n.toNatClampNeg
    rw [hF, hTh] at this
    exact this
  have hrow : ∀ j : Nat, j < n.toNatClampNeg → F.heap[H.size + 1 + j]? = some (vp_cell cy z) := fun j hj => by
    have := Jvm.Free.Multi.fill_inner (T.setVm vm₁) cA cy n.toNatClampNeg k.toNatClampNeg (defaultValue ty) n.toNatClampNeg j hj
    rw [hF, hTh, hz] at this
    exact this
  have hout : Jvm.Free.Multi.outerC cA n.toNatClampNeg H.size n.toNatClampNeg = vp_cell cA (n.toNatClampNeg, .inr (.inr (.inr (.inr (fun i => if i < n.toNatClampNeg then some (H.size + 1 + i) else none))))) := by
    rw [vp_cell_q]
    exact vr_outer cA n.toNatClampNeg H.size n.toNatClampNeg
  rw [hout] at f2
  have hlt : ∀ a, a ∈ L → a < H.size := fun a ha => by
    obtain ⟨k9, hk9⟩ := va_pl_get (X := X) (f := f) ha
    exact (hP k9 _ hk9).lt
  have hnl : ∀ i : Nat, i < n.toNatClampNeg → H.size + 1 + i ∉ L := fun i _ h => by
    have := hlt _ h
    omega
  have hnm : ∀ a, a ∈ (List.range n.toNatClampNeg).map (fun i => H.size + 1 + i) → a ∉ L := fun a ha h => by
    obtain ⟨i, -, rfl⟩ := List.mem_map.mp ha
    have := hlt _ h
    omega
  have hP0 : va_P D cl (X ++ va_pl L f) F.heap := hP.kept (fun k9 x hx => hold x.1 ((hP k9 x hx).lt))
  have hP1 : va_P D cl ((X ++ va_pl L f) ++ [(H.size, .inl (cA, n.toNatClampNeg, .inr (.inr (.inr (.inr (fun i => if i < n.toNatClampNeg then some (H.size + 1 + i) else none))))))]) F.heap := hP0.app (fun k9 x hx => by
    have h0 : k9 < 1 := (List.getElem?_eq_some_iff.mp hx).1
    rw [show k9 = 0 by omega] at hx
    cases hx
    exact f2)
  have hP2 : va_P D cl (((X ++ va_pl L f) ++ [(H.size, .inl (cA, n.toNatClampNeg, .inr (.inr (.inr (.inr (fun i => if i < n.toNatClampNeg then some (H.size + 1 + i) else none))))))]) ++ ((List.range n.toNatClampNeg).map (fun i => H.size + 1 + i)).map (fun a => (a, .inl (cy, z)))) F.heap := hP1.app (fun k9 x hx => by
    obtain ⟨a, ha, rfl⟩ := List.mem_map.mp (List.mem_of_getElem? hx)
    obtain ⟨i, hi, rfl⟩ := List.mem_map.mp ha
    exact hrow i (List.mem_range.mp hi))
  have hD2 : va_D A (((X ++ va_pl L f) ++ [(H.size, .inl (cA, n.toNatClampNeg, .inr (.inr (.inr (.inr (fun i => if i < n.toNatClampNeg then some (H.size + 1 + i) else none))))))]) ++ ((List.range n.toNatClampNeg).map (fun i => H.size + 1 + i)).map (fun a => (a, .inl (cy, z)))) := by
    have hD1 := hD.push (e := .inl (cA, n.toNatClampNeg, .inr (.inr (.inr (.inr (fun i => if i < n.toNatClampNeg then some (H.size + 1 + i) else none)))))) hP rfl (hA _ hS.1)
    generalize hW1 : (X ++ va_pl L f) ++ [(H.size, .inl (cA, n.toNatClampNeg, .inr (.inr (.inr (.inr (fun i => if i < n.toNatClampNeg then some (H.size + 1 + i) else none))))))] = W1 at hD1 hP1 ⊢
    have hle : ∀ (k9 : Nat) (x : Nat × va_E), W1[k9]? = some x → x.1 ≤ H.size := fun k9 x hx => by
      rw [← hW1] at hx
      by_cases hl : k9 < (X ++ va_pl L f).length
      · rw [List.getElem?_append_left hl] at hx
        exact Nat.le_of_lt ((hP k9 x hx).lt)
      · rw [List.getElem?_append_right (by omega)] at hx
        have h0 : k9 - (X ++ va_pl L f).length < 1 := (List.getElem?_eq_some_iff.mp hx).1
        rw [show k9 - (X ++ va_pl L f).length = 0 by omega] at hx
        cases hx
        exact Nat.le_refl _
    have hr : ∀ (k9 : Nat) (x : Nat × va_E), (((List.range n.toNatClampNeg).map (fun i => H.size + 1 + i)).map (fun a => ((a, .inl (cy, z)) : Nat × va_E)))[k9]? = some x → x.1 = H.size + 1 + k9 := fun k9 x hx => by
      rw [List.getElem?_map, List.getElem?_map] at hx
      by_cases h9 : k9 < n.toNatClampNeg
      · rw [List.getElem?_range h9] at hx
        cases hx
        rfl
      · have hn0 : (List.range n.toNatClampNeg)[k9]? = none := List.getElem?_eq_none (by rw [List.length_range]; omega)
        rw [hn0] at hx
        cases hx
    refine ⟨fun i j x y hi hj hxy => ?_, fun k9 x hx => ?_⟩
    · by_cases h1 : i < W1.length <;> by_cases h2 : j < W1.length
      · rw [List.getElem?_append_left h1] at hi
        rw [List.getElem?_append_left h2] at hj
        exact hD1.1 i j x y hi hj hxy
      · rw [List.getElem?_append_left h1] at hi
        rw [List.getElem?_append_right (by omega)] at hj
        have := hle _ _ hi
        have := hr _ _ hj
        omega
      · rw [List.getElem?_append_right (by omega)] at hi
        rw [List.getElem?_append_left h2] at hj
        have := hle _ _ hj
        have := hr _ _ hi
        omega
      · rw [List.getElem?_append_right (by omega)] at hi hj
        have := hr _ _ hi
        have := hr _ _ hj
        omega
    · by_cases h1 : k9 < W1.length
      · rw [List.getElem?_append_left h1] at hx
        exact hD1.2 k9 x hx
      · rw [List.getElem?_append_right (by omega)] at hx
        have := hr _ _ hx
        exact hA _ (by have := hS.1; omega)
  have hAr : ArrOfT s cA (.array ty) := fun N9 z9 => by
    obtain ⟨-, k9, hk9, cm9, hkk9⟩ := (hO 0 0 0).1
    exact ⟨(fun q hq => by cases hq), k9, hk9, cm9, hkk9⟩
  have hK2 : va_K D cl (tys ++ [(cA, .array ty)]) s := ⟨hK.1, fun k9 x hx => by
    by_cases hl : k9 < tys.length
    · rw [List.getElem?_append_left hl] at hx
      exact hK.2 k9 x hx
    · rw [List.getElem?_append_right (by omega)] at hx
      have h0 : k9 - tys.length < 1 := (List.getElem?_eq_some_iff.mp hx).1
      rw [show k9 - tys.length = 0 by omega] at hx
      cases hx
      exact ⟨hAr, fA⟩⟩
  obtain ⟨t, a1, b1⟩ := kk H.size (fun i => H.size + 1 + i) cA F.heap (fun i j _ _ h => by have h9 : H.size + 1 + i = H.size + 1 + j := h; omega) hnl hK2 (by rw [← vr_rows hnm]; exact vr_lay hP2) (by rw [← vr_rows hnm]; exact vr_layD hD2) ⟨by rw [f1]; have := hS.1; omega, fun x h1 h2 => (hold x (Nat.lt_of_lt_of_le h1 hS.1)).trans (hS.2.1 x h1 h2), hS.2.2⟩ F rfl X'
  refine ⟨t, step t ?_, b1⟩
  have e : T.heap.size = H.size := by rw [hT]
  rw [e]
  exact a1
end VGM
/-! ===== END ===== -/

/-! ===== BEGIN exceptions that leave a method, and their catching by the caller (launches without stack traces) ===== -/
section VXA
/-! The laws vx_back, vx_callV, vx_callS, vx_callSW, vx_throw0, vx_throwS follow proofs of the library, with one case more: JvmDerived/Free/Laws.lean (Back.of_free), Shelf42/LK1.lean (callV, callS), Shelf/KitTraced.lean (throwNew0V, throwNewS). -/
/-- where a method has thrown q: the class by its name, the cell, what was written, the world -/
def vx_T (XC : String → State → State → Prop) (st : State) (q : Addr) (t : State) (mc ms : Nat) (free : Addr → Prop) : Prop :=
  ∃ (E : String) (ce : Cell) (L : List Loc), XC E st t ∧ t.heap[q]? = some ce ∧ ce.vm = .none ∧ st.vm.findClass E = some ce.cls ∧ st.WarmedH t.vm ∧ st.sameButNew ({ t with vm := st.vm } : State) L mc ms ∧ ∀ z ∈ L, free z.base
def vx_Q (Qc : Array Value → State → Outcome → State → Prop) (XC : String → State → State → Prop) (mc ms : Nat) (free : Addr → Prop) : Array Value → State → Outcome → State → Prop := fun a st o t =>
  (Qc a st o t ∧ ∃ L, FrameEnd st o t L mc ms ∧ ∀ q ∈ L, free q.base) ∨ ∃ q, o = .threw q ∧ vx_T XC st q t mc ms free
/-- a callee that returns or throws -/
def vx_Met (l : Launch) (y : MethodName) (ws : List Cond) (rm : Room) (Pc : Array Value → State → Prop) (Qc : Array Value → State → Outcome → State → Prop) (XC : String → State → State → Prop) (mc ms : Nat) (free : Addr → Prop) : Prop :=
  MetFree l y (headSpec ws rm) Pc (fun _ _ _ _ _ => True) (vx_Q Qc XC mc ms free)
def vx_Post (XC : String → State → State → Prop) (mc ms : Nat) (free : Addr → Prop) : Pt → Array Value → Addr → Pt → Prop := fun A a q B =>
  ∃ (g : JFrame) (mk : MethodId) (t : State) (L : List Loc) (E : String) (ce : Cell), B.U.heap = t.heap ∧ B.U.vm = t.vm ∧ XC E (A.U.calling g mk a) t ∧ t.heap[q]? = some ce ∧ ce.vm = .none ∧ A.U.vm.findClass E = some ce.cls ∧ B.locs = A.locs ++ L ∧ (∀ z ∈ L, free z.base) ∧ B.cells = A.cells + mc ∧ B.slots = A.slots + ms
def vx_Back (l : Launch) (R : Room) (p : Program) (e : Env) (below : List Frame) (s : State) (sargs : Array Value) (y : MethodName) (len W9 : Nat)
    (Pre : Pt → Array Value → Prop) (Post : Pt → Array Value → Option Value → Pt → Prop) (PostX : Pt → Array Value → Addr → Pt → Prop) : Prop :=
  ∀ (m : MethodId) (meth : Method) (c : Code) (A : Pt) (g : JFrame) (ig : Instr) (mk : MethodId) (a : Array Value),
    Stand p l e R s m sargs below meth c A.U A.locs A.cells A.slots → g.method = m → g.locals.size = c.maxLocals → decode c.code g.pc = .ok (ig, len) →
    2 * g.monitorRoom + (g.stack.map fun v => v.category).sum ≤ W9 → A.U.methodNamed? y = some mk → Pre A a →
    (∃ (v : Option Value) (B : Pt), Stand p l e R s m sargs below meth c B.U B.locs B.cells B.slots ∧ Post A a v B ∧
      Steps p.tables e below (doInvoke e (A.U.setTop g) [] mk a).1 (B.U.setTop { g with pc := g.pc + len, stack := v.toList ++ g.stack })) ∨
    (∃ (q : Addr) (B : Pt), Stand p l e R s m sargs below meth c B.U B.locs B.cells B.slots ∧ PostX A a q B ∧
      Steps p.tables e below (doInvoke e (A.U.setTop g) [] mk a).1 ((B.U.setTop g).pushFrame (.throwing q)))
section Payer
variable {l : Launch} {R : Room} {p : Program} {e : Env} {below : List Frame} {s : State} {sargs : Array Value} {y : MethodName} {len W9 : Nat}
theorem vx_back {ws : List Cond} {rm : Room} {Pc : Array Value → State → Prop} {Qc : Array Value → State → Outcome → State → Prop} {XC : String → State → State → Prop} {mc ms : Nat} {free : Addr → Prop} {bytes : ByteArray} {maxL : Nat} {ret : Option FieldType}
    (hM : vx_Met l y ws rm Pc Qc XC mc ms free) (hblind : FrameBlind Pc) (hrc : rm.cells = mc) (hrs : rm.slots = ms)
    (hframes : rm.frames + 1 ≤ R.frames) (hlocals : W9 + (maxL + 11) + rm.locals ≤ R.locals)
    (hws : ∀ w ∈ ws, ∀ a' U, s.WarmedH U.vm → w.before a' U = true) (hcode : Cond.code y bytes maxL ret ∈ ws) (hinit : ∀ a' U, s.WarmedH U.vm → (Cond.initialized y.cls).before a' U = true) :
    vx_Back l R p e below s sargs y len W9 (PreOf R mc ms Pc) (PostOf Qc mc ms free) (vx_Post XC mc ms free) := by
  intro m meth c A g ig mk a X hg hsize hdg hW hn hp
  have h1 : (headSpec ws rm).pre.before a A.U = true := atoms_intro fun w hw => hws w hw _ _ X.warmed
  have h2 : (Cond.code y bytes maxL ret).before a A.U = true := hws _ hcode _ _ X.warmed
  have h3 : (Cond.initialized y.cls).before a A.U = true := hinit _ _ X.warmed
  have h4 : A.cells + (headSpec ws rm).room.cells ≤ R.cells := by rw [show (headSpec ws rm).room.cells = mc from hrc]; exact hp.1
  have h5 : A.slots + (headSpec ws rm).room.slots ≤ R.slots := by rw [show (headSpec ws rm).room.slots = ms from hrs]; exact hp.2.1
  have hPc : Pc a (A.U.calling g mk a) := hblind _ _ _ _ hp.2.2
  obtain ⟨U, Ls, c0, s0⟩ := A
  dsimp only [Pt.U, Pt.locs, Pt.cells, Pt.slots] at h1 h2 h3 h4 h5 X hn hPc ⊢
  obtain ⟨methY, cY, hmY, hcY, -, hlY, -, -, -, -⟩ := Cond.code_spec hn h2
  obtain ⟨kY, hkY, -⟩ := className_of_methodNamed hn
  have hinitY : kY.init = .initialized := Cond.initialized_spec (findClass_of_methodNamed hn) hkY h3
  have h : At U g.method c below := by rw [hg]; exact X.here
  have hlocals9 : W9 + (maxL + 11) + (headSpec ws rm).room.locals ≤ R.locals := hlocals
  have happ : (headSpec ws rm).appliesLoose y e.platform (U.calling g mk a) = true :=
    Spec.appliesLoose_calling (g := g) h hdg hn hkY hinitY
      (X.room_calling (g := g) (R' := (headSpec ws rm).room) hsize hmY hcY hframes (by rw [hlY]; omega) h4 h5) h1
  obtain ⟨mid, hmid⟩ := h.above
  have hfr : (U.setTop g).frames = (.java g :: mid) ++ below := by rw [State.frames_setTop' g h.top, hmid]; rfl
  obtain ⟨o, s₂, hsteps, -, hend, hq⟩ := Steps.callFree hM p X.admits X.cas X.clock (acts := []) hfr happ hPc trivial
  have hq' : vx_Q Qc XC mc ms free a (U.calling g mk a) o s₂ := hq
  rw [State.frames_setTop' g h.top] at hend
  obtain ⟨g₀, hg0⟩ := Option.isSome_iff_exists.mp h.top
  obtain ⟨r, hr⟩ := State.topJava?_eq_some.mp hg0
  have hr' : (({ U with heap := s₂.heap, slotsUsed := s₂.slotsUsed } : State).setVm s₂.vm).frames = .java g₀ :: r := hr
  rcases hq' with ⟨hqc, L, hfe, hL⟩ | ⟨q, rfl, E, ce, L, hx, hce, hcv, hcl, hW₂, hsm, hL⟩
  · obtain ⟨⟨v, rfl⟩, hW₂, e2, q2, q3, q4, q5, q6⟩ := id hfe
    have e3 : s₂ = ({ (U.calling g mk a).setFrames s₂.frames with heap := s₂.heap, slotsUsed := s₂.slotsUsed } : State).setVm s₂.vm := by
      have : s₂ = ({ s₂ with vm := (U.calling g mk a).vm } : State).setVm s₂.vm := rfl
      rw [e2] at this
      exact this
    obtain ⟨c₂, i₂, len₂, hc₂, hd₂, hf₂⟩ := hend
    have hW' : U.WarmedH s₂.vm := hW₂
    have hcc : c₂ = c := by
      have h1 : s₂.code? g.method = U.code? g.method := by
        rw [State.code?_eq, State.code?_eq, hW'.alike.method?]
      exact Option.some.inj (hc₂.symm.trans (h1.trans h.code))
    subst hcc
    have hlen : len₂ = len := by rw [hdg] at hd₂; cases hd₂; rfl
    subst hlen
    have hs₂ : s₂ = (({ U with heap := s₂.heap, slotsUsed := s₂.slotsUsed } : State).setVm s₂.vm).setTop { g with pc := g.pc + len₂, stack := v.toList ++ g.stack } := by
      refine e3.trans ?_
      rw [hf₂, State.calling_eq h.top, State.setFrames_setFrames, State.setTop_of_frames _ hr', hr]
      rfl
    have hsame : U.sameButNew ({ U with heap := s₂.heap, slotsUsed := s₂.slotsUsed } : State) L mc ms := by
      refine ⟨?_, q2, q3, q4, q5, q6⟩
      obtain ⟨t, ht, -⟩ := State.frames_cons hr
      show ({ U with heap := s₂.heap, slotsUsed := s₂.slotsUsed } : State) = { U.setFrames U.frames with heap := s₂.heap, slotsUsed := s₂.slotsUsed }
      rw [State.setFrames_self ht]
    subst hg
    refine Or.inl ⟨v, ⟨(({ U with heap := s₂.heap, slotsUsed := s₂.slotsUsed } : State).setVm s₂.vm), Ls ++ L, c0 + mc, s0 + ms⟩,
      ⟨X.admits, X.cas, X.clock, X.frames, X.room, X.hears, X.method, X.code, (X.here.setHeapUsed s₂.heap s₂.slotsUsed).setVm hW'.alike, X.tail, State.WarmedH.trans X.warmed hW', X.limits, X.bytes, X.same.trans (hsame.setVm s.vm)⟩,
      ⟨g, mk, s₂, L, rfl, rfl, hqc, rfl, hL, rfl, rfl⟩, ?_⟩
    show Steps p.tables e below _ ((({ U with heap := s₂.heap, slotsUsed := s₂.slotsUsed } : State).setVm s₂.vm).setTop { g with pc := g.pc + len₂, stack := v.toList ++ g.stack })
    rw [← hs₂]
    exact hsteps
  · obtain ⟨e2, q2, q3, q4, q5, q6⟩ := id hsm
    have e3 : s₂ = ({ (U.calling g mk a).setFrames s₂.frames with heap := s₂.heap, slotsUsed := s₂.slotsUsed } : State).setVm s₂.vm := by
      have : s₂ = ({ s₂ with vm := (U.calling g mk a).vm } : State).setVm s₂.vm := rfl
      rw [e2] at this
      exact this
    have hf₂ : s₂.frames = .throwing q :: .java g :: U.frames.tail := hend
    have hW' : U.WarmedH s₂.vm := hW₂
    have hs₂ : s₂ = ((({ U with heap := s₂.heap, slotsUsed := s₂.slotsUsed } : State).setVm s₂.vm).setTop g).pushFrame (.throwing q) := by
      refine e3.trans ?_
      rw [hf₂, State.calling_eq h.top, State.setFrames_setFrames, State.pushFrame, State.frames_setTop _ hr', State.setTop_of_frames _ hr', State.setFrames_setFrames, hr]
      rfl
    have hsame : U.sameButNew ({ U with heap := s₂.heap, slotsUsed := s₂.slotsUsed } : State) L mc ms := by
      refine ⟨?_, q2, q3, q4, q5, q6⟩
      obtain ⟨t, ht, -⟩ := State.frames_cons hr
      show ({ U with heap := s₂.heap, slotsUsed := s₂.slotsUsed } : State) = { U.setFrames U.frames with heap := s₂.heap, slotsUsed := s₂.slotsUsed }
      rw [State.setFrames_self ht]
    subst hg
    refine Or.inr ⟨q, ⟨(({ U with heap := s₂.heap, slotsUsed := s₂.slotsUsed } : State).setVm s₂.vm), Ls ++ L, c0 + mc, s0 + ms⟩,
      ⟨X.admits, X.cas, X.clock, X.frames, X.room, X.hears, X.method, X.code, (X.here.setHeapUsed s₂.heap s₂.slotsUsed).setVm hW'.alike, X.tail, State.WarmedH.trans X.warmed hW', X.limits, X.bytes, X.same.trans (hsame.setVm s.vm)⟩,
      ⟨g, mk, s₂, L, E, ce, rfl, rfl, hx, hce, hcv, hcl, rfl, hL, rfl, rfl⟩, ?_⟩
    show Steps p.tables e below _ (((({ U with heap := s₂.heap, slotsUsed := s₂.slotsUsed } : State).setVm s₂.vm).setTop g).pushFrame (.throwing q))
    rw [← hs₂]
    exact hsteps
end Payer
section Calls
variable {p : Program} {l : Launch} {e : Env} {R : Room} {s : State} {m : MethodId} {args : Array Value} {below : List Frame} {meth : Method} {c : Code} {T : State} {locs : List Loc} {cells slots : Nat}
theorem vx_callV (X : Stand p l e R s m args below meth c T locs cells slots) (hexec : p.tables.exec = Jvm.exec) {own C : String} {index : Nat} {y : MethodName} {bytes : ByteArray} {maxL : Nat} {ret : Option FieldType}
    (hown : s.vm.findClass own = some m.cls) (hlink : (Cond.methodLink own index y).before args s = true) (hinst : (Cond.instanceMethod y).before args s = true) (hsel : (Cond.selects C y y).before args s = true)
    (hcode : (Cond.code y bytes maxL ret).before args s = true) (hy : y.cls ≠ "java/lang/invoke/MethodHandle" ∧ y.cls ≠ "java/lang/invoke/VarHandle")
    {W9 : Nat} {Pre : Pt → Array Value → Prop} {Post : Pt → Array Value → Option Value → Pt → Prop} {PostX : Pt → Array Value → Addr → Pt → Prop} (hK : vx_Back l R p e below s args y 3 W9 Pre Post PostX)
    {b : Addr} {cellB : Cell} (hcell : T.heap[b]? = some cellB) (hobj : cellB.vm.isStatics = false) (hcls : s.vm.findClass C = some cellB.cls)
    {g : JFrame} (hg : g.method = m) (hsize : g.locals.size = c.maxLocals) {argsL rest : List Value} (hlen : ∀ sig, parseMethodDescriptor y.desc = some sig → argsL.length = sig.parameters.length)
    (hstack : g.stack = argsL.reverse ++ .ref b :: rest) (hW : 2 * g.monitorRoom + (rest.map fun v => v.category).sum ≤ W9) (hdg : decode c.code g.pc = .ok (.invokevirtual index, 3))
    (hpre : ∀ vm₁, s.WarmedH vm₁ → Pre ⟨T.setVm vm₁, locs, cells, slots⟩ (Value.ref b :: argsL).toArray) :
    (∃ (v : Option Value) (vm₁ : Vm) (B : Pt), s.WarmedH vm₁ ∧ Stand p l e R s m args below meth c B.U B.locs B.cells B.slots ∧ Post ⟨T.setVm vm₁, locs, cells, slots⟩ (Value.ref b :: argsL).toArray v B ∧
      ∀ target, Steps p.tables e below (B.U.setTop { g with pc := g.pc + 3, stack := v.toList ++ rest }) target → Steps p.tables e below (T.setTop g) target) ∨
    (∃ (q : Addr) (vm₁ : Vm) (B : Pt), s.WarmedH vm₁ ∧ Stand p l e R s m args below meth c B.U B.locs B.cells B.slots ∧ PostX ⟨T.setVm vm₁, locs, cells, slots⟩ (Value.ref b :: argsL).toArray q B ∧
      Steps p.tables e below (T.setTop g) ((B.U.setTop { g with stack := rest }).pushFrame (.throwing q))) := by
  obtain ⟨mk, methM, hnamed, hmethM, hstM, habM⟩ := Cond.instanceMethod_spec hinst
  obtain ⟨methM', cM, hmethM', -, -, -, -, -, -, hsigM⟩ := Cond.code_spec hnamed hcode
  cases hmethM.symm.trans hmethM'
  obtain ⟨c2, r2, m2, q1, q2, q3, q4, kP, hkP, hkPi⟩ := Cond.selects_spec hsel
  cases hcls.symm.trans q1
  cases (State.methodFound?_of_named hnamed hy).symm.trans q2
  cases hnamed.symm.trans q3
  have hselP : selectMethod e.platform s.vm cellB.cls mk = .method mk := by rw [Launch.admits_selectMethod X.admits]; exact q4
  obtain ⟨vm₁, X₁, hstep₁⟩ := X.invokevirtual hexec hown hlink hnamed hmethM hstM hkP hkPi hy (a := b) (cell := cellB) hcell
    (fun z h => by rw [h] at hobj; cases hobj) hselP hmethM habM hkP hkPi (g := g) hg (argsL := argsL) (rest := rest) (hlen _ hsigM) hstack hdg
  rcases hK m meth c ⟨T.setVm vm₁, locs, cells, slots⟩ { g with stack := rest } (.invokevirtual index) mk (Value.ref b :: argsL).toArray X₁ hg hsize hdg hW (X₁.named hnamed) (hpre vm₁ X₁.warmed) with ⟨v, B, X', hpost, hsteps⟩ | ⟨q, B, X', hpost, hsteps⟩
  · exact Or.inl ⟨v, vm₁, B, X₁.warmed, X', hpost, fun target h => hstep₁ _ fun acts => by rw [doInvoke_state]; exact hsteps.trans h⟩
  · exact Or.inr ⟨q, vm₁, B, X₁.warmed, X', hpost, hstep₁ _ fun acts => by rw [doInvoke_state]; exact hsteps⟩
theorem vx_callS (X : Stand p l e R s m args below meth c T locs cells slots) (hexec : p.tables.exec = Jvm.exec) {own : String} {index : Nat} {y : MethodName} {bytes : ByteArray} {maxL : Nat} {ret : Option FieldType}
    (hown : s.vm.findClass own = some m.cls) (hlink : (Cond.methodLink own index y).before args s = true) (hstat : (Cond.static y).before args s = true) (hinit : (Cond.initialized y.cls).before args s = true)
    (hcode : (Cond.code y bytes maxL ret).before args s = true) (hy : y.cls ≠ "java/lang/invoke/MethodHandle" ∧ y.cls ≠ "java/lang/invoke/VarHandle")
    {W9 : Nat} {Pre : Pt → Array Value → Prop} {Post : Pt → Array Value → Option Value → Pt → Prop} {PostX : Pt → Array Value → Addr → Pt → Prop} (hK : vx_Back l R p e below s args y 3 W9 Pre Post PostX)
    {g : JFrame} (hg : g.method = m) (hsize : g.locals.size = c.maxLocals) {argsL rest : List Value} (hlen : ∀ sig, parseMethodDescriptor y.desc = some sig → argsL.length = sig.parameters.length)
    (hstack : g.stack = argsL.reverse ++ rest) (hW : 2 * g.monitorRoom + (rest.map fun v => v.category).sum ≤ W9) (hdg : decode c.code g.pc = .ok (.invokestatic index, 3))
    (hpre : ∀ vm₁, s.WarmedH vm₁ → Pre ⟨T.setVm vm₁, locs, cells, slots⟩ argsL.toArray) :
    (∃ (v : Option Value) (vm₁ : Vm) (B : Pt), s.WarmedH vm₁ ∧ Stand p l e R s m args below meth c B.U B.locs B.cells B.slots ∧ Post ⟨T.setVm vm₁, locs, cells, slots⟩ argsL.toArray v B ∧
      ∀ target, Steps p.tables e below (B.U.setTop { g with pc := g.pc + 3, stack := v.toList ++ rest }) target → Steps p.tables e below (T.setTop g) target) ∨
    (∃ (q : Addr) (vm₁ : Vm) (B : Pt), s.WarmedH vm₁ ∧ Stand p l e R s m args below meth c B.U B.locs B.cells B.slots ∧ PostX ⟨T.setVm vm₁, locs, cells, slots⟩ argsL.toArray q B ∧
      Steps p.tables e below (T.setTop g) ((B.U.setTop { g with stack := rest }).pushFrame (.throwing q))) := by
  obtain ⟨mk, hnamed⟩ := Cond.code_named hcode
  obtain ⟨methM, cM, hmethM, -, -, -, -, -, -, hsigM⟩ := Cond.code_spec hnamed hcode
  have hstatic : methM.isStatic = true := Cond.static_spec hnamed hmethM hstat
  obtain ⟨kP, hkP, -⟩ := className_of_methodNamed hnamed
  have hinitP : kP.init = .initialized := Cond.initialized_spec (findClass_of_methodNamed hnamed) hkP hinit
  obtain ⟨vm₁, X₁, hstep₁⟩ := X.invokestatic hexec hown hlink hnamed hmethM hstatic hkP hinitP hy (g := g) hg (argsL := argsL) (rest := rest) (hlen _ hsigM) hstack hdg
  rcases hK m meth c ⟨T.setVm vm₁, locs, cells, slots⟩ { g with stack := rest } (.invokestatic index) mk argsL.toArray X₁ hg hsize hdg hW (X₁.named hnamed) (hpre vm₁ X₁.warmed) with ⟨v, B, X', hpost, hsteps⟩ | ⟨q, B, X', hpost, hsteps⟩
  · exact Or.inl ⟨v, vm₁, B, X₁.warmed, X', hpost, fun target h => hstep₁ _ fun acts => by rw [doInvoke_state]; exact hsteps.trans h⟩
  · exact Or.inr ⟨q, vm₁, B, X₁.warmed, X', hpost, hstep₁ _ fun acts => by rw [doInvoke_state]; exact hsteps⟩
end Calls
theorem vx_cls {s : State} {T : State} {vm₁ : Vm} {E : String} {k : ClassId} (hW : s.WarmedH vm₁) (h : (T.setVm vm₁).vm.findClass E = some k) : s.vm.findClass E = some k := by
  have h1 : vm₁.findClass E = some k := h
  rw [hW.alike.findClass] at h1
  exact h1
/-- the method's frame g, with q thrown over it -/
def vx_W (p : Program) (l : Launch) (e : Env) (R : Room) (s : State) (m : MethodId) (args : Array Value) (below : List Frame) (meth : Method) (c : Code) (H : Heap) (locs : List Loc) (cells slots : Nat) (Q : State → Prop) (g : JFrame) (q : Addr) : Prop :=
  ∀ T : State, T.heap = H → Stand p l e R s m args below meth c T locs cells slots → ∃ t, Steps p.tables e below ((T.setTop g).pushFrame (.throwing q)) t ∧ Q t
def vx_Run (p : Program) (l : Launch) (e : Env) (R : Room) (s : State) (m : MethodId) (args : Array Value) (below : List Frame) (meth : Method) (c : Code) (H : Heap) (locs : List Loc) (cells slots mc ms : Nat) (g : JFrame) (rest : List Value) (Qa : State → Outcome → State → Prop) (XC : String → State → State → Prop) (free : Addr → Prop) : Prop :=
  ∀ T : State, T.heap = H → Stand p l e R s m args below meth c T locs cells slots →
    (∃ (v : Option Value) (st₀ t T' : State) (L : List Loc), st₀.heap = H ∧ Stand p l e R s m args below meth c T' (locs ++ L) (cells + mc) (slots + ms) ∧ (∀ q ∈ L, free q.base) ∧ T'.heap = t.heap ∧ T'.vm = t.vm ∧ Qa st₀ (.returned v) t ∧
      Goes p e below T g T' { g with pc := g.pc + 3, stack := v.toList ++ rest }) ∨
    (∃ (q : Addr) (st₀ t T' : State) (L : List Loc) (E : String) (ce : Cell), st₀.heap = H ∧ Stand p l e R s m args below meth c T' (locs ++ L) (cells + mc) (slots + ms) ∧ (∀ z ∈ L, free z.base) ∧ T'.heap = t.heap ∧ T'.vm = t.vm ∧ XC E st₀ t ∧ t.heap[q]? = some ce ∧ ce.vm = .none ∧ s.vm.findClass E = some ce.cls ∧
      Steps p.tables e below (T.setTop g) ((T'.setTop { g with stack := rest }).pushFrame (.throwing q)))
def vx_X {S : Type} (px : S → Prop) (B : String → S → State → Prop) (A : Nat → Prop) : String → State → State → Prop := fun E st t => ∃ u : S, px u ∧ B E u t ∧ va_F A st t
section Runs
variable {p : Program} {l : Launch} {e : Env} {R : Room} {s : State} {m : MethodId} {args : Array Value} {below : List Frame} {meth : Method} {c : Code} {H : Heap} {locs : List Loc} {cells slots : Nat}
variable {y : MethodName} {bytes cc : ByteArray} {maxL nL mc ms n index : Nat} {ret : Option FieldType} {ws : List Cond} {rm : Room} {Pc : Array Value → State → Prop} {Qc : Array Value → State → Outcome → State → Prop} {XC : String → State → State → Prop} {free : Addr → Prop} {Ts : List Cond} {own C : String} {b : Addr} {As rest : List Value} {g : JFrame}
theorem vx_callBack (cb : CallB R s args own index y bytes maxL ret ws rm mc ms n) (hM : vx_Met l y ws rm Pc Qc XC mc ms free) (hbl : FrameBlind Pc) : vx_Back l R p e below s args y 3 8 (PreOf R mc ms Pc) (PostOf Qc mc ms free) (vx_Post XC mc ms free) := by
  obtain ⟨hrc, hrs, hfr, hlo, hws, hcw, -, hini, -⟩ := cb
  exact vx_back (bytes := bytes) (maxL := maxL) (ret := ret) hM hbl hrc hrs hfr hlo hws hcw (fun a' U hW => word_at hW (Or.inl (by first | rfl | simp [Cond.onTables, Cond.keeps, Cond.steady])) hini)
theorem vx_runV (S : CallFix p m c cc nL s args Ts own) (hM : vx_Met l y ws rm Pc Qc XC mc ms free) (cw : CallW R s args own C index y bytes maxL ret ws rm mc ms n) (hp : PreV s H C b Pc As)
    (hg : g.method = m) (hn : As.length = n) (hsize : g.locals.size = nL) (hstack : g.stack = As.reverse ++ .ref b :: rest) (hW : 2 * g.monitorRoom + (rest.map fun v => v.category).sum ≤ 8) (hdg : decode cc g.pc = .ok (.invokevirtual index, 3)) (hf : cells + mc ≤ R.cells ∧ slots + ms ≤ R.slots) :
    vx_Run p l e R s m args below meth c H locs cells slots mc ms g rest (Qc (Value.ref b :: As).toArray) XC free := by
  have hK : vx_Back l R p e below s args y 3 8 (PreOf R mc ms Pc) (PostOf Qc mc ms free) (vx_Post XC mc ms free) := vx_callBack cw.1 hM hp.1
  obtain ⟨⟨-, -, -, -, -, -, hcode, -, hy, hlen, hl⟩, hin, hse⟩ := cw
  obtain ⟨hx, hb, hml, ho, -⟩ := S
  obtain ⟨-, ⟨cellB, hcB, hoB, hclB⟩, hPc⟩ := hp
  intro T hT X
  rcases vx_callV X hx (C := C) (bytes := bytes) (maxL := maxL) (ret := ret) ho hl hin hse hcode hy hK (by rw [hT]; exact hcB) hoB hclB hg (hsize.trans hml.symm) (argsL := As) (rest := rest) (fun sig h => hn.trans (hlen sig h)) hstack hW (by rw [hb]; exact hdg)
    (fun vm₁ hW₁ => ⟨hf.1, hf.2, hPc (T.setVm vm₁) hT hW₁⟩) with ⟨v, vm₁, ⟨U', l2, c2, s2⟩, hW₁, X', ⟨g', mk, t, L, e1, e2, hq, h1, hL, h2, h3⟩, st⟩ | ⟨q, vm₁, ⟨U', l2, c2, s2⟩, hW₁, X', ⟨g', mk, t, L, E, ce, e1, e2, hq, hce, hcv, hcl, h1, hL, h2, h3⟩, st⟩
  · dsimp only [Pt.U, Pt.locs, Pt.cells, Pt.slots] at X' e1 e2 h1 h2 h3 st
    subst h1; subst h2; subst h3
    exact Or.inl ⟨v, (T.setVm vm₁).calling g' mk (Value.ref b :: As).toArray, t, U', L, hT, X', hL, e1, e2, hq, st⟩
  · dsimp only [Pt.U, Pt.locs, Pt.cells, Pt.slots] at X' e1 e2 h1 h2 h3 st hcl
    subst h1; subst h2; subst h3
    exact Or.inr ⟨q, (T.setVm vm₁).calling g' mk (Value.ref b :: As).toArray, t, U', L, E, ce, hT, X', hL, e1, e2, hq, hce, hcv, vx_cls hW₁ hcl, st⟩
theorem vx_runS (S : CallFix p m c cc nL s args Ts own) (hM : vx_Met l y ws rm Pc Qc XC mc ms free) (cw : CallB R s args own index y bytes maxL ret ws rm mc ms n ∧ (Cond.static y).before args s = true) (hp : PreS s H Pc As)
    (hg : g.method = m) (hn : As.length = n) (hsize : g.locals.size = nL) (hstack : g.stack = As.reverse ++ rest) (hW : 2 * g.monitorRoom + (rest.map fun v => v.category).sum ≤ 8) (hdg : decode cc g.pc = .ok (.invokestatic index, 3)) (hf : cells + mc ≤ R.cells ∧ slots + ms ≤ R.slots) :
    vx_Run p l e R s m args below meth c H locs cells slots mc ms g rest (Qc As.toArray) XC free := by
  have hK : vx_Back l R p e below s args y 3 8 (PreOf R mc ms Pc) (PostOf Qc mc ms free) (vx_Post XC mc ms free) := vx_callBack cw.1 hM hp.1
  obtain ⟨⟨-, -, -, -, -, -, hcode, hini, hy, hlen, hl⟩, hstt⟩ := cw
  obtain ⟨hx, hb, hml, ho, -⟩ := S
  intro T hT X
  rcases vx_callS X hx (bytes := bytes) (maxL := maxL) (ret := ret) ho hl hstt hini hcode hy hK hg (hsize.trans hml.symm) (argsL := As) (rest := rest) (fun sig h => hn.trans (hlen sig h)) hstack hW (by rw [hb]; exact hdg)
    (fun vm₁ hW₁ => ⟨hf.1, hf.2, hp.2 (T.setVm vm₁) hT hW₁⟩) with ⟨v, vm₁, ⟨U', l2, c2, s2⟩, hW₁, X', ⟨g', mk, t, L, e1, e2, hq, h1, hL, h2, h3⟩, st⟩ | ⟨q, vm₁, ⟨U', l2, c2, s2⟩, hW₁, X', ⟨g', mk, t, L, E, ce, e1, e2, hq, hce, hcv, hcl, h1, hL, h2, h3⟩, st⟩
  · dsimp only [Pt.U, Pt.locs, Pt.cells, Pt.slots] at X' e1 e2 h1 h2 h3 st
    subst h1; subst h2; subst h3
    exact Or.inl ⟨v, (T.setVm vm₁).calling g' mk As.toArray, t, U', L, hT, X', hL, e1, e2, hq, st⟩
  · dsimp only [Pt.U, Pt.locs, Pt.cells, Pt.slots] at X' e1 e2 h1 h2 h3 st hcl
    subst h1; subst h2; subst h3
    exact Or.inr ⟨q, (T.setVm vm₁).calling g' mk As.toArray, t, U', L, E, ce, hT, X', hL, e1, e2, hq, hce, hcv, vx_cls hW₁ hcl, st⟩
end Runs
section Rows
variable {p : Program} {l : Launch} {e : Env} {R : Room} {s : State} {m : MethodId} {args : Array Value} {below : List Frame} {meth : Method} {c : Code} {H : Heap} {locs : List Loc} {cells slots : Nat} {Q : State → Prop}
variable {mc ms : Nat} {free : Addr → Prop} {A0 A1 : Nat → Prop} {H0 : Heap} {a : Array Value} {pc : Nat} {ls : Array Slot} {st0 rest : List Value}
theorem vx_keep {st₀ t T' : State} {L : List Loc} (h0 : st₀.heap = H) (e1 : T'.heap = t.heap) (hS : va_S A0 H0 H locs) (hA : ∀ q, q < H.size → A1 q → A0 q) (hf : ∀ q, free q → A0 q) (hL : ∀ q ∈ L, free q.base) (hF : va_F A1 st₀ t) :
    H.size ≤ T'.heap.size ∧ (∀ q : Nat, q < H.size → ¬ A1 q → T'.heap[q]? = H[q]?) ∧ va_S A0 H0 T'.heap (locs ++ L) := by
  obtain ⟨hz, hk⟩ := hF
  rw [h0] at hz hk
  exact ⟨by rw [e1]; exact hz, fun q h1 h2 => by rw [e1]; exact hk q h1 h2,
    ⟨Nat.le_trans hS.1 (by rw [e1]; exact hz), fun q h1 h2 => by rw [e1, hk q (Nat.lt_of_lt_of_le h1 hS.1) (fun z => h2 (hA q (Nat.lt_of_lt_of_le h1 hS.1) z))]; exact hS.2.1 q h1 h2, fun q hq => by
      rcases List.mem_append.mp hq with h | h
      · exact hS.2.2 q h
      · exact hf _ (hL q h)⟩⟩
theorem vx_calli {S SX : Type} {post : Int32 → S → Prop} {px : SX → Prop} {B : S → State → Prop} {BX : String → SX → State → Prop} {AX : Nat → Prop} (hr : vx_Run p l e R s m args below meth c H locs cells slots mc ms (F0 m pc ls st0) rest (va_Qi post B A1 a) (vx_X px BX AX) free) (hS : va_S A0 H0 H locs) (hA : ∀ q, q < H.size → A1 q → A0 q) (hf : ∀ q, free q → A0 q) (hAX : ∀ q, q < H.size → AX q → A0 q)
    (kx : ∀ (E : String) (ce : Cell) (q9 : Addr) (u : SX) (t : State) (H1 : Heap) (locs1 : List Loc), t.heap = H1 → s.vm.Alike t.vm → px u → BX E u t → H.size ≤ H1.size → (∀ q : Nat, q < H.size → ¬ AX q → H1[q]? = H[q]?) → va_S A0 H0 H1 locs1 → H1[q9]? = some ce → ce.vm = .none → s.vm.findClass E = some ce.cls → vx_W p l e R s m args below meth c H1 locs1 (cells + mc) (slots + ms) Q (F0 m pc ls rest) q9)
    (kk : ∀ (r : Int32) (u : S) (t : State) (H1 : Heap) (locs1 : List Loc), t.heap = H1 → s.vm.Alike t.vm → post r u → B u t → H.size ≤ H1.size → (∀ q : Nat, q < H.size → ¬ A1 q → H1[q]? = H[q]?) → va_S A0 H0 H1 locs1 → W p l e R s m args below meth c H1 locs1 (cells + mc) (slots + ms) Q (F0 m (pc + 3) ls (.int r :: rest))) : W p l e R s m args below meth c H locs cells slots Q (F0 m pc ls st0) := by
  intro T hT X
  rcases hr T hT X with ⟨v, st₀, t, T', L, h0, X', hL, e1, e2, ⟨⟨r, u, hv, hp, hb⟩, hF⟩, st⟩ | ⟨q, st₀, t, T', L, E, ce, h0, X', hL, e1, e2, ⟨u, hp, hb, hF⟩, hce, hcv, hcl, st⟩
  · cases hv
    obtain ⟨k1, k2, k3⟩ := vx_keep h0 e1 hS hA hf hL hF
    obtain ⟨t2, a1, b1⟩ := kk r u t T'.heap (locs ++ L) e1.symm (by rw [← e2]; exact X'.warmed.alike) hp hb k1 k2 k3 T' rfl X'
    exact ⟨t2, st t2 a1, b1⟩
  · obtain ⟨k1, k2, k3⟩ := vx_keep h0 e1 hS hAX hf hL hF
    obtain ⟨t2, a1, b1⟩ := kx E ce q u t T'.heap (locs ++ L) e1.symm (by rw [← e2]; exact X'.warmed.alike) hp hb k1 k2 k3 (by rw [e1]; exact hce) hcv hcl T' rfl X'
    exact ⟨t2, st.trans a1, b1⟩
theorem vx_calll {S SX : Type} {post : Int64 → S → Prop} {px : SX → Prop} {B : S → State → Prop} {BX : String → SX → State → Prop} {AX : Nat → Prop} (hr : vx_Run p l e R s m args below meth c H locs cells slots mc ms (F0 m pc ls st0) rest (va_Ql post B A1 a) (vx_X px BX AX) free) (hS : va_S A0 H0 H locs) (hA : ∀ q, q < H.size → A1 q → A0 q) (hf : ∀ q, free q → A0 q) (hAX : ∀ q, q < H.size → AX q → A0 q)
    (kx : ∀ (E : String) (ce : Cell) (q9 : Addr) (u : SX) (t : State) (H1 : Heap) (locs1 : List Loc), t.heap = H1 → s.vm.Alike t.vm → px u → BX E u t → H.size ≤ H1.size → (∀ q : Nat, q < H.size → ¬ AX q → H1[q]? = H[q]?) → va_S A0 H0 H1 locs1 → H1[q9]? = some ce → ce.vm = .none → s.vm.findClass E = some ce.cls → vx_W p l e R s m args below meth c H1 locs1 (cells + mc) (slots + ms) Q (F0 m pc ls rest) q9)
    (kk : ∀ (r : Int64) (u : S) (t : State) (H1 : Heap) (locs1 : List Loc), t.heap = H1 → s.vm.Alike t.vm → post r u → B u t → H.size ≤ H1.size → (∀ q : Nat, q < H.size → ¬ A1 q → H1[q]? = H[q]?) → va_S A0 H0 H1 locs1 → W p l e R s m args below meth c H1 locs1 (cells + mc) (slots + ms) Q (F0 m (pc + 3) ls (.long r :: rest))) : W p l e R s m args below meth c H locs cells slots Q (F0 m pc ls st0) := by
  intro T hT X
  rcases hr T hT X with ⟨v, st₀, t, T', L, h0, X', hL, e1, e2, ⟨⟨r, u, hv, hp, hb⟩, hF⟩, st⟩ | ⟨q, st₀, t, T', L, E, ce, h0, X', hL, e1, e2, ⟨u, hp, hb, hF⟩, hce, hcv, hcl, st⟩
  · cases hv
    obtain ⟨k1, k2, k3⟩ := vx_keep h0 e1 hS hA hf hL hF
    obtain ⟨t2, a1, b1⟩ := kk r u t T'.heap (locs ++ L) e1.symm (by rw [← e2]; exact X'.warmed.alike) hp hb k1 k2 k3 T' rfl X'
    exact ⟨t2, st t2 a1, b1⟩
  · obtain ⟨k1, k2, k3⟩ := vx_keep h0 e1 hS hAX hf hL hF
    obtain ⟨t2, a1, b1⟩ := kx E ce q u t T'.heap (locs ++ L) e1.symm (by rw [← e2]; exact X'.warmed.alike) hp hb k1 k2 k3 (by rw [e1]; exact hce) hcv hcl T' rfl X'
    exact ⟨t2, st.trans a1, b1⟩
theorem vx_callf {S SX : Type} {post : UInt32 → S → Prop} {px : SX → Prop} {B : S → State → Prop} {BX : String → SX → State → Prop} {AX : Nat → Prop} (hr : vx_Run p l e R s m args below meth c H locs cells slots mc ms (F0 m pc ls st0) rest (va_Qf post B A1 a) (vx_X px BX AX) free) (hS : va_S A0 H0 H locs) (hA : ∀ q, q < H.size → A1 q → A0 q) (hf : ∀ q, free q → A0 q) (hAX : ∀ q, q < H.size → AX q → A0 q)
    (kx : ∀ (E : String) (ce : Cell) (q9 : Addr) (u : SX) (t : State) (H1 : Heap) (locs1 : List Loc), t.heap = H1 → s.vm.Alike t.vm → px u → BX E u t → H.size ≤ H1.size → (∀ q : Nat, q < H.size → ¬ AX q → H1[q]? = H[q]?) → va_S A0 H0 H1 locs1 → H1[q9]? = some ce → ce.vm = .none → s.vm.findClass E = some ce.cls → vx_W p l e R s m args below meth c H1 locs1 (cells + mc) (slots + ms) Q (F0 m pc ls rest) q9)
    (kk : ∀ (r : UInt32) (u : S) (t : State) (H1 : Heap) (locs1 : List Loc), t.heap = H1 → s.vm.Alike t.vm → post r u → B u t → H.size ≤ H1.size → (∀ q : Nat, q < H.size → ¬ A1 q → H1[q]? = H[q]?) → va_S A0 H0 H1 locs1 → W p l e R s m args below meth c H1 locs1 (cells + mc) (slots + ms) Q (F0 m (pc + 3) ls (.float r :: rest))) : W p l e R s m args below meth c H locs cells slots Q (F0 m pc ls st0) := by
  intro T hT X
  rcases hr T hT X with ⟨v, st₀, t, T', L, h0, X', hL, e1, e2, ⟨⟨r, u, hv, hp, hb⟩, hF⟩, st⟩ | ⟨q, st₀, t, T', L, E, ce, h0, X', hL, e1, e2, ⟨u, hp, hb, hF⟩, hce, hcv, hcl, st⟩
  · cases hv
    obtain ⟨k1, k2, k3⟩ := vx_keep h0 e1 hS hA hf hL hF
    obtain ⟨t2, a1, b1⟩ := kk r u t T'.heap (locs ++ L) e1.symm (by rw [← e2]; exact X'.warmed.alike) hp hb k1 k2 k3 T' rfl X'
    exact ⟨t2, st t2 a1, b1⟩
  · obtain ⟨k1, k2, k3⟩ := vx_keep h0 e1 hS hAX hf hL hF
    obtain ⟨t2, a1, b1⟩ := kx E ce q u t T'.heap (locs ++ L) e1.symm (by rw [← e2]; exact X'.warmed.alike) hp hb k1 k2 k3 (by rw [e1]; exact hce) hcv hcl T' rfl X'
    exact ⟨t2, st.trans a1, b1⟩
theorem vx_calld {S SX : Type} {post : UInt64 → S → Prop} {px : SX → Prop} {B : S → State → Prop} {BX : String → SX → State → Prop} {AX : Nat → Prop} (hr : vx_Run p l e R s m args below meth c H locs cells slots mc ms (F0 m pc ls st0) rest (va_Qd post B A1 a) (vx_X px BX AX) free) (hS : va_S A0 H0 H locs) (hA : ∀ q, q < H.size → A1 q → A0 q) (hf : ∀ q, free q → A0 q) (hAX : ∀ q, q < H.size → AX q → A0 q)
    (kx : ∀ (E : String) (ce : Cell) (q9 : Addr) (u : SX) (t : State) (H1 : Heap) (locs1 : List Loc), t.heap = H1 → s.vm.Alike t.vm → px u → BX E u t → H.size ≤ H1.size → (∀ q : Nat, q < H.size → ¬ AX q → H1[q]? = H[q]?) → va_S A0 H0 H1 locs1 → H1[q9]? = some ce → ce.vm = .none → s.vm.findClass E = some ce.cls → vx_W p l e R s m args below meth c H1 locs1 (cells + mc) (slots + ms) Q (F0 m pc ls rest) q9)
    (kk : ∀ (r : UInt64) (u : S) (t : State) (H1 : Heap) (locs1 : List Loc), t.heap = H1 → s.vm.Alike t.vm → post r u → B u t → H.size ≤ H1.size → (∀ q : Nat, q < H.size → ¬ A1 q → H1[q]? = H[q]?) → va_S A0 H0 H1 locs1 → W p l e R s m args below meth c H1 locs1 (cells + mc) (slots + ms) Q (F0 m (pc + 3) ls (.double r :: rest))) : W p l e R s m args below meth c H locs cells slots Q (F0 m pc ls st0) := by
  intro T hT X
  rcases hr T hT X with ⟨v, st₀, t, T', L, h0, X', hL, e1, e2, ⟨⟨r, u, hv, hp, hb⟩, hF⟩, st⟩ | ⟨q, st₀, t, T', L, E, ce, h0, X', hL, e1, e2, ⟨u, hp, hb, hF⟩, hce, hcv, hcl, st⟩
  · cases hv
    obtain ⟨k1, k2, k3⟩ := vx_keep h0 e1 hS hA hf hL hF
    obtain ⟨t2, a1, b1⟩ := kk r u t T'.heap (locs ++ L) e1.symm (by rw [← e2]; exact X'.warmed.alike) hp hb k1 k2 k3 T' rfl X'
    exact ⟨t2, st t2 a1, b1⟩
  · obtain ⟨k1, k2, k3⟩ := vx_keep h0 e1 hS hAX hf hL hF
    obtain ⟨t2, a1, b1⟩ := kx E ce q u t T'.heap (locs ++ L) e1.symm (by rw [← e2]; exact X'.warmed.alike) hp hb k1 k2 k3 (by rw [e1]; exact hce) hcv hcl T' rfl X'
    exact ⟨t2, st.trans a1, b1⟩
theorem vx_callv {S SX : Type} {post : S → Prop} {px : SX → Prop} {B : S → State → Prop} {BX : String → SX → State → Prop} {AX : Nat → Prop} (hr : vx_Run p l e R s m args below meth c H locs cells slots mc ms (F0 m pc ls st0) rest (va_Qv post B A1 a) (vx_X px BX AX) free) (hS : va_S A0 H0 H locs) (hA : ∀ q, q < H.size → A1 q → A0 q) (hf : ∀ q, free q → A0 q) (hAX : ∀ q, q < H.size → AX q → A0 q)
    (kx : ∀ (E : String) (ce : Cell) (q9 : Addr) (u : SX) (t : State) (H1 : Heap) (locs1 : List Loc), t.heap = H1 → s.vm.Alike t.vm → px u → BX E u t → H.size ≤ H1.size → (∀ q : Nat, q < H.size → ¬ AX q → H1[q]? = H[q]?) → va_S A0 H0 H1 locs1 → H1[q9]? = some ce → ce.vm = .none → s.vm.findClass E = some ce.cls → vx_W p l e R s m args below meth c H1 locs1 (cells + mc) (slots + ms) Q (F0 m pc ls rest) q9)
    (kk : ∀ (u : S) (t : State) (H1 : Heap) (locs1 : List Loc), t.heap = H1 → s.vm.Alike t.vm → post u → B u t → H.size ≤ H1.size → (∀ q : Nat, q < H.size → ¬ A1 q → H1[q]? = H[q]?) → va_S A0 H0 H1 locs1 → W p l e R s m args below meth c H1 locs1 (cells + mc) (slots + ms) Q (F0 m (pc + 3) ls (rest))) : W p l e R s m args below meth c H locs cells slots Q (F0 m pc ls st0) := by
  intro T hT X
  rcases hr T hT X with ⟨v, st₀, t, T', L, h0, X', hL, e1, e2, ⟨⟨u, hv, hp, hb⟩, hF⟩, st⟩ | ⟨q, st₀, t, T', L, E, ce, h0, X', hL, e1, e2, ⟨u, hp, hb, hF⟩, hce, hcv, hcl, st⟩
  · cases hv
    obtain ⟨k1, k2, k3⟩ := vx_keep h0 e1 hS hA hf hL hF
    obtain ⟨t2, a1, b1⟩ := kk u t T'.heap (locs ++ L) e1.symm (by rw [← e2]; exact X'.warmed.alike) hp hb k1 k2 k3 T' rfl X'
    exact ⟨t2, st t2 a1, b1⟩
  · obtain ⟨k1, k2, k3⟩ := vx_keep h0 e1 hS hAX hf hL hF
    obtain ⟨t2, a1, b1⟩ := kx E ce q u t T'.heap (locs ++ L) e1.symm (by rw [← e2]; exact X'.warmed.alike) hp hb k1 k2 k3 (by rw [e1]; exact hce) hcv hcl T' rfl X'
    exact ⟨t2, st.trans a1, b1⟩
/-- caught by the row x of this method's table; the rows ahead don't take it -/
theorem vx_catch {own name : String} {E : String} {ce : Cell} {q : Addr} (hown : s.vm.findClass own = some m.cls) (pre : List ExceptionTableEntry) (x : ExceptionTableEntry) (suf : List ExceptionTableEntry) (hsplit : c.exceptionTable.toList = pre ++ x :: suf)
    (hpass : ∀ z ∈ pre, covers z pc = false ∨ (z.catchType ≠ 0 ∧ ∃ nm : String, (Cond.classLink own z.catchType nm).before args s = true ∧ va_Nc E nm s)) (hx : covers x pc = true) (h0 : x.catchType ≠ 0)
    (hlink : (Cond.classLink own x.catchType name).before args s = true) (hcast : (Cond.castable E name).before args s = true) (hcell : H[q]? = some ce) (hv : ce.vm = .none) (hcl : s.vm.findClass E = some ce.cls)
    (kk : W p l e R s m args below meth c H locs cells slots Q (F0 m x.handlerPc ls [.ref q])) : vx_W p l e R s m args below meth c H locs cells slots Q (F0 m pc ls rest) q := by
  intro T hT X
  have hpl : e.platform.magicAccessors = ({} : Platform).magicAccessors := by rw [X.admits.platform]
  obtain ⟨c3, c4, hc3, hc4, hasg⟩ := Cond.castable_spec hcast
  cases Option.some.inj (hc3.symm.trans hcl)
  obtain ⟨c5, hc5, hcl5⟩ := Cond.classLink_spec hown hlink e.platform hpl
  cases Option.some.inj (hc4.symm.trans hc5)
  obtain ⟨vm', X', st⟩ := X.thenCaughtThrough q (g := F0 m pc ls rest) rfl (Steps.refl _) (by rw [hT]; exact hcell) (by rw [hv]; rfl) (by obtain ⟨k9, h9, -⟩ := Vm.findClass_spec hcl; exact ⟨k9, h9⟩) pre x suf hsplit
    (fun z hz => by
      rcases hpass z hz with h | ⟨hz0, nm, hl1, hn1⟩
      · exact Or.inl h
      · obtain ⟨c6, hc6, hcl6⟩ := Cond.classLink_spec hown hl1 e.platform hpl
        obtain ⟨a8, b8, h1, h2, h3⟩ := hn1
        cases Option.some.inj (h1.symm.trans hcl)
        cases Option.some.inj (h2.symm.trans hc6)
        exact Or.inr ⟨hz0, _, hcl6, h3⟩) hx (Or.inr ⟨h0, c4, hcl5, hasg⟩)
  obtain ⟨t, a1, b1⟩ := kk (T.setVm vm') hT X'
  exact ⟨t, st.trans a1, b1⟩
end Rows
section Ends
variable {p : Program} {l : Launch} {e : Env} {R : Room} {s : State} {m : MethodId} {args : Array Value} {below : List Frame} {meth : Method} {c : Code} {H : Heap} {locs : List Loc} {cells slots : Nat} {Q : State → Prop}
variable {mc ms : Nat} {free : Addr → Prop} {A0 A1 : Nat → Prop} {H0 : Heap} {a : Array Value} {ls : Array Slot} {st0 rest : List Value}
variable {Qc : Array Value → State → Outcome → State → Prop} {XC : String → State → State → Prop}
/-- what a body that may throw owes at its end -/
def vx_MQ (below : List Frame) (Qc : Array Value → State → Outcome → State → Prop) (XC : String → State → State → Prop) (a : Array Value) (s : State) (mc ms : Nat) (free : Addr → Prop) : State → Prop := fun t =>
  ∃ o, t.status = .running ∧ Ended t below o ∧ vx_Q Qc XC mc ms free a s o t
theorem vx_ret {g : JFrame} {mc ms : Nat} (k : W p l e R s m args below meth c H locs cells slots (MQ below Qc args s mc ms free) g) : W p l e R s m args below meth c H locs cells slots (vx_MQ below Qc XC args s mc ms free) g := by
  intro T hT X
  obtain ⟨t, a1, o, b1, b2, b3, b4⟩ := k T hT X
  exact ⟨t, a1, o, b1, b2, Or.inl ⟨b3, b4⟩⟩
/-- not caught here: it goes on to the caller -/
theorem vx_widen {g : JFrame} {q : Addr} {k n : Nat} (h1 : cells ≤ k) (h2 : slots ≤ n) (kk : vx_W p l e R s m args below meth c H locs k n Q g q) : vx_W p l e R s m args below meth c H locs cells slots Q g q := fun T hT X => kk T hT (stand_widen X h1 h2)
theorem vx_out {pc : Nat} {E : String} {ce : Cell} {q : Addr} {mc ms : Nat} (hout : ∀ x ∈ c.exceptionTable.toList, covers x pc = false) (hlocks : meth.locks = false) (hcell : H[q]? = some ce) (hv : ce.vm = .none) (hcl : s.vm.findClass E = some ce.cls)
    (hx : ∀ t : State, t.heap = H → s.vm.Alike t.vm → XC E s t) (hf : ∀ z ∈ locs, free z.base) (hc : cells ≤ mc) (hs : slots ≤ ms) :
    vx_W p l e R s m args below meth c H locs cells slots (vx_MQ below Qc XC args s mc ms free) (F0 m pc ls rest) q := by
  intro T hT X
  obtain ⟨st1, hrun, hend, hW, hsm⟩ := X.leaveThrown q (g := F0 m pc ls rest) rfl rfl rfl hout hlocks
  have hcell9 : (T.setFrames (.throwing q :: below)).heap[q]? = some ce := by
    show T.heap[q]? = some ce
    rw [hT]; exact hcell
  exact ⟨_, st1, .threw q, hrun, hend, Or.inr ⟨q, rfl, E, ce, locs, hx _ hT hW.alike, hcell9, hv, hcl, hW, hsm.mono hc hs, hf⟩⟩
theorem vx_frame {U : State} {k n : Nat} (h : s.sameButNew ({ U with vm := s.vm } : State) locs k n) : s.heap.size ≤ U.heap.size ∧ ∀ q : Nat, q < s.heap.size → (∀ z ∈ locs, z.base ≠ q) → U.heap[q]? = s.heap[q]? := by
  obtain ⟨-, h2, -, -, -, h6⟩ := h
  refine ⟨h2, fun q hq hz => ?_⟩
  obtain ⟨c9, e1, e2, e3, e4⟩ := h6 q _ (Array.getElem?_eq_getElem hq)
  have hs : c9.slots = (s.heap[q]).slots := Array.ext_getElem? fun i => e4 i fun hm => hz _ hm rfl
  have h9 : c9 = s.heap[q] := by
    rw [hs] at e2
    exact e2
  have e5 : U.heap[q]? = some c9 := e1
  rw [e5, h9, Array.getElem?_eq_getElem hq]
/-- the words of a throw but the four that speak of the heap -/
def vx_no (w : Cond) : Bool := decide (w ≠ .isRef (.static Bundle.tN "UNASSIGNED_STACK" Bundle.steD)) && decide (w ≠ .isRef (.static Bundle.tN "SUPPRESSED_SENTINEL" Bundle.listD)) && decide (w ≠ .laysStatic Bundle.tN "UNASSIGNED_STACK" Bundle.steD) && decide (w ≠ .laysStatic Bundle.tN "SUPPRESSED_SENTINEL" Bundle.listD)
def vx_at0 (own : String) (ic : Nat) (X : String) (names : List String) : List Cond := (Bundle.ownAtoms0 own ic X names).filter vx_no
def vx_atS (own : String) (ic : Nat) (X : String) (names : List String) : List Cond := (Bundle.ownAtoms own ic X names).filter vx_no
/-- a word that the tables alone decide, or a good one -/
def vx_ot (w : Cond) : Bool := w.onTables || goodWord w
theorem vx_ot_at {args a' : Array Value} {s U : State} {w : Cond} (hW : s.WarmedH U.vm) (hvm : s.vm = U.vm) (hg : vx_ot w = true) (h : w.before args s = true) : w.before a' U = true := by
  simp only [vx_ot, Bool.or_eq_true] at hg
  rcases hg with hg | hg
  · exact va_tabs hg hvm h
  · exact word_at hW (good_of_word hg) h
/-- a list's words: the good ones out of the method's own list, the others by premises of their own -/
theorem vx_hat {args : Array Value} {s : State} {L B : List Cond} (h1 : ∀ w ∈ L.filter goodWord, w.before args s = true) (h2 : ∀ w ∈ L.filter (fun w => !goodWord w), w ∈ B) (h3 : ∀ w ∈ B, w.before args s = true) : ∀ w ∈ L, w.before args s = true := by
  intro w hw
  by_cases g : goodWord w = true
  · exact h1 w (List.mem_filter.mpr ⟨hw, g⟩)
  · refine h3 w (h2 w (List.mem_filter.mpr ⟨hw, ?_⟩))
    show (!goodWord w) = true
    cases hgw : goodWord w
    · rfl
    · exact absurd hgw g
theorem vx_c {args : Array Value} {s : State} {w : Cond} {B : List Cond} (h : w.before args s = true) (t : ∀ w ∈ B, w.before args s = true) : ∀ w' ∈ w :: B, w'.before args s = true := fun w' h' => (List.mem_cons.mp h').elim (fun e => by rw [e]; exact h) (t w')
theorem vx_n {args : Array Value} {s : State} : ∀ w ∈ ([] : List Cond), w.before args s = true := fun _ h => nomatch h
theorem vx_own {args : Array Value} {s : State} {L : List Cond} (h1 : ∀ w ∈ L.filter vx_no, w.before args s = true)
    (hU : (Cond.isRef (.static Bundle.tN "UNASSIGNED_STACK" Bundle.steD)).before args s = true) (hN : (Cond.isRef (.static Bundle.tN "SUPPRESSED_SENTINEL" Bundle.listD)).before args s = true)
    (lU : (Cond.laysStatic Bundle.tN "UNASSIGNED_STACK" Bundle.steD).before args s = true) (lN : (Cond.laysStatic Bundle.tN "SUPPRESSED_SENTINEL" Bundle.listD).before args s = true) : ∀ w ∈ L, w.before args s = true := by
  intro w hw
  by_cases e1 : w = .isRef (.static Bundle.tN "UNASSIGNED_STACK" Bundle.steD)
  · rw [e1]; exact hU
  · by_cases e2 : w = .isRef (.static Bundle.tN "SUPPRESSED_SENTINEL" Bundle.listD)
    · rw [e2]; exact hN
    · by_cases e3 : w = .laysStatic Bundle.tN "UNASSIGNED_STACK" Bundle.steD
      · rw [e3]; exact lU
      · by_cases e4 : w = .laysStatic Bundle.tN "SUPPRESSED_SENTINEL" Bundle.listD
        · rw [e4]; exact lN
        · exact h1 w (List.mem_filter.mpr ⟨hw, by unfold vx_no; rw [decide_eq_true e1, decide_eq_true e2, decide_eq_true e3, decide_eq_true e4]; rfl⟩)
/-- where a static field lies, its class's statics cell in H -/
def vx_L (C n d : String) (A : Nat → Prop) (U : State) (H : Heap) : Prop := ∃ (c : ClassId) (k : Class) (i : Nat) (f : Field) (a : Nat) (cell : Cell), U.vm.findClass C = some c ∧ U.fieldFound? C n d = some (c, k, i, f) ∧ f.isStatic = true ∧ k.statics = some a ∧ H[a]? = some cell ∧ cell.vm.isStatics = true ∧ cell.cls = c ∧ f.slot < cell.slots.size ∧ k.staticTypes[f.slot]? = some f.type ∧ ¬ A a
theorem vx_L.moved {C n d : String} {A : Nat → Prop} {u U : State} {H : Heap} (hvm : u.vm.Alike U.vm) (h : vx_L C n d A u H) : vx_L C n d A U H := by
  obtain ⟨c, k, i, f, a, cell, h1, h2, h3, h4, h5, h6, h7, h8, h9, h10⟩ := h
  obtain ⟨k', hi', he⟩ := State.fieldFound?_setVm hvm h2
  exact ⟨c, k', i, f, a, cell, by rw [hvm.findClass]; exact h1, hi', h3, by rw [he]; exact h4, h5, h6, h7, h8, by rw [he]; exact h9, h10⟩
theorem vx_L.kept {C n d : String} {A : Nat → Prop} {U : State} {H H1 : Heap} (h : vx_L C n d A U H) (hq : ∀ a : Nat, a < H.size → ¬ A a → H1[a]? = H[a]?) : vx_L C n d A U H1 := by
  obtain ⟨c, k, i, f, a, cell, h1, h2, h3, h4, h5, h6, h7, h8, h9, h10⟩ := h
  exact ⟨c, k, i, f, a, cell, h1, h2, h3, h4, by rw [hq a (Array.getElem?_eq_some_iff.mp h5).1 h10]; exact h5, h6, h7, h8, h9, h10⟩
theorem vx_L.narrow {C n d : String} {A B : Nat → Prop} {U : State} {H : Heap} (h : vx_L C n d A U H) (hAB : ∀ q, B q → A q) : vx_L C n d B U H := by
  obtain ⟨c, k, i, f, a, cell, h1, h2, h3, h4, h5, h6, h7, h8, h9, h10⟩ := h
  exact ⟨c, k, i, f, a, cell, h1, h2, h3, h4, h5, h6, h7, h8, h9, fun z => h10 (hAB _ z)⟩
theorem vx_L.word {C n d : String} {A : Nat → Prop} {s : State} {args : Array Value} (h : vx_L C n d A s s.heap) : (Cond.laysStatic C n d).before args s = true := by
  obtain ⟨c, k, i, f, a, cell, h1, h2, h3, h4, h5, h6, h7, h8, h9, -⟩ := h
  show (Cond.laysStatic C n d).holds args s none s [] = true
  exact Cond.laysStatic_of h1 h2 h3 h4 h5 h6 h7 h8 h9
/-- .. and what it holds: null or some reference -/
def vx_Zq (C n d : String) (A : Nat → Prop) (U : State) (H : Heap) : Prop := va_Zq C n d A U H ∧ vx_L C n d A U H
theorem vx_Zq.moved {C n d : String} {A : Nat → Prop} {u U : State} {H : Heap} (hvm : u.vm.Alike U.vm) (h : vx_Zq C n d A u H) : vx_Zq C n d A U H := ⟨va_Zq.moved hvm h.1, vx_L.moved hvm h.2⟩
theorem vx_Zq.kept {C n d : String} {A : Nat → Prop} {U : State} {H H1 : Heap} (h : vx_Zq C n d A U H) (hq : ∀ a : Nat, a < H.size → ¬ A a → H1[a]? = H[a]?) : vx_Zq C n d A U H1 := ⟨va_Zq.kept h.1 hq, vx_L.kept h.2 hq⟩
theorem vx_Zq.narrow {C n d : String} {A B : Nat → Prop} {U : State} {H : Heap} (h : vx_Zq C n d A U H) (hAB : ∀ q, B q → A q) : vx_Zq C n d B U H := ⟨va_Zq.narrow h.1 hAB, vx_L.narrow h.2 hAB⟩
theorem vx_Zqof {args : Array Value} {s : State} {C n d : String} {A : Nat → Prop} (hl : (Cond.laysStatic C n d).before args s = true) (hini : (Cond.initialized C).before args s = true) (h : (Cond.isRef (.static C n d)).before args s = true) (hA : ∀ a : Nat, a < s.heap.size → ¬ A a) : vx_Zq C n d A s s.heap := by
  refine ⟨va_Zqof hl hini h hA, ?_⟩
  obtain ⟨c, k, i, f, a, cell, h1, h2, h3, h4, h5, h6, h7, h8, h9⟩ := Cond.laysStatic_spec hl
  exact ⟨c, k, i, f, a, cell, h1, h2, h3, h4, h5, h6, h7, h8, h9, hA a (Array.getElem?_eq_some_iff.mp h5).1⟩
theorem vx_isRef {C n d : String} {v : Value} {A : Nat → Prop} {s : State} {args : Array Value} (h : va_Z C n d v A s s.heap) (hv : v.isRef = true) : (Cond.isRef (.static C n d)).before args s = true := by
  obtain ⟨cf, kf, fi, f, a, cell, h1, h2, h3, h4, h5, h6, h7, -⟩ := h
  have he : (Term.static C n d).eval args s none [] s = some v := by
    simp [Term.eval, State.fieldNamed?, h1, h2, h4, h5, h6, h7]
  simp only [Cond.before, Cond.holds, Cond.value, he]
  cases v <;> simp_all [Value.isRef]
theorem vx_isRefq {C n d : String} {A : Nat → Prop} {s : State} {args : Array Value} (h : va_Zq C n d A s s.heap) : (Cond.isRef (.static C n d)).before args s = true := by
  rcases h with h | ⟨t, h⟩
  · exact vx_isRef h rfl
  · exact vx_isRef h rfl
/-- the same frame, seen from here: as if the method were called anew in this heap -/
theorem vx_rebase {T : State} (X : Stand p l e R s m args below meth c T locs cells slots) {R' : Room} (hf : R'.frames ≤ R.frames) (hl : R'.locals ≤ R.locals) (hc : cells + R'.cells ≤ R.cells) (hs : slots + R'.slots ≤ R.slots) :
    Stand p l e R' ((T.setVm s.vm).setFrames (.invoking m args :: below)) m args below meth c T [] 0 0 := by
  have htop : (T.setVm s.vm).topJava?.isSome := X.here.top
  have hF : ((T.setVm s.vm).setFrames (.invoking m args :: below)).frames = .invoking m args :: below := State.frames_setFrames _ (State.cur_lt_of_top htop)
  obtain ⟨g₀, hg0⟩ := Option.isSome_iff_exists.mp htop
  obtain ⟨r, hr⟩ := State.topJava?_eq_some.mp hg0
  have hl9 : e.platform.stackLimits (T.setVm s.vm).me = e.platform.stackLimits s.me := X.limits
  have hb9 : (T.setVm s.vm).me.stackBytes = s.me.stackBytes := X.bytes
  refine ⟨X.admits, X.cas, X.clock, hF, ?_, X.hears, X.method, X.code, X.here, X.tail, X.warmed, ?_, ?_, ?_⟩
  · have h := X.room
    have hU : ((T.setVm s.vm).setFrames (.invoking m args :: below)).localsInUse = s.localsInUse := by
      rw [State.localsInUse_invoking hF (meth := meth) (c := c) X.method X.code, State.localsInUse_invoking X.frames X.method X.code]
    simp only [State.hasRoom, Bool.and_eq_true, decide_eq_true_eq] at h ⊢
    obtain ⟨⟨⟨⟨h1, h2, h3, h4, h5, h6⟩, h7⟩, h8⟩, h9⟩ := h
    rw [X.frames, List.length_cons] at h2 h3
    have q1 := X.heapSize
    have q2 := X.used
    simp only [hF, hU, List.length_cons, State.stackLimits_setFrames, State.stackBytes_setFrames, hl9, hb9]
    refine ⟨⟨⟨⟨by omega, by omega, by omega, by omega, by omega, h6⟩, ?_⟩, ?_⟩, X.book⟩
    · show T.heap.size + R'.cells ≤ e.platform.maxCells
      omega
    · show T.slotsUsed + R'.slots ≤ e.platform.maxSlots
      omega
  · rw [State.stackLimits_setFrames]; rfl
  · rw [State.stackBytes_setFrames]; rfl
  · refine ⟨?_, Nat.le_refl _, Nat.le_refl _, ?_, ?_, fun a c9 h9 => ⟨c9, h9, rfl, rfl, fun _ _ => rfl⟩⟩
    · obtain ⟨t, ht, -⟩ := State.frames_cons hr
      show T.setVm s.vm = { ((T.setVm s.vm).setFrames (.invoking m args :: below)).setFrames (T.setVm s.vm).frames with heap := T.heap, slotsUsed := T.slotsUsed }
      rw [State.setFrames_setFrames, State.setFrames_self ht]
      rfl
    · show T.slotsUsed = T.slotsUsed + ((T.heap.toList.drop T.heap.size).map (·.slots.size)).sum
      rw [List.drop_eq_nil_of_le (Nat.le_of_eq Array.length_toList)]
      rfl
    · show ((T.heap.toList.drop T.heap.size).map (·.slots.size)).sum ≤ 0
      rw [List.drop_eq_nil_of_le (Nat.le_of_eq Array.length_toList)]
      exact Nat.le_refl _
/-- 'throw new E()': new; dup; invokespecial; athrow -/
theorem vx_throw0 {cc : ByteArray} {pc : Nat} (hexec : p.tables.exec = Jvm.exec) (hb : c.code = cc) (hl : l.stackTraces = false) {own cls : String} {names : List String} {ik ic mc ms : Nat} {A : Nat → Prop}
    (hown : s.vm.findClass own = some m.cls) (hcls : Bundle.fit cls = true) (hnames : ∀ n ∈ names, Bundle.fit n = true)
    (hk : (Cond.classLink own ik cls).before args s = true) (hini : (Cond.initialized cls).before args s = true) (hat : ∀ w ∈ vx_at0 own ic cls names, w.before args s = true)
    (hgood : ∀ w ∈ Cond.classLink own ik cls :: Cond.initialized cls :: vx_at0 own ic cls names, vx_ot w = true)
    (hU : vx_Zq Bundle.tN "UNASSIGNED_STACK" Bundle.steD A s s.heap) (hN : vx_Zq Bundle.tN "SUPPRESSED_SENTINEL" Bundle.listD A s s.heap) (hS : va_S A s.heap H locs) (hsize : ls.size = c.maxLocals)
    (d0 : decode cc pc = .ok (.new ik, 3)) (d3 : decode cc (pc + 3) = .ok (.dup, 1)) (d4 : decode cc (pc + 4) = .ok (.invokespecial ic, 3)) (d7 : decode cc (pc + 7) = .ok (.athrow, 1))
    (hout : ∀ x ∈ c.exceptionTable.toList, covers x (pc + 7) = false)
    (hRframes : names.length + 3 < R.frames) (hRlocals : (rest.map fun v => v.category).sum + (13 * (names.length + 1) + 42) ≤ R.locals) (hRcells : cells + 1 ≤ R.cells) (hRslots : slots + 6 ≤ R.slots) (hlocks : meth.locks = false)
    (hx : ∀ t : State, s.vm.Alike t.vm → H.size ≤ t.heap.size → (∀ q : Nat, q < H.size → t.heap[q]? = H[q]?) → XC cls s t)
    (hf : ∀ z ∈ locs, free z.base) (hc : cells + 1 ≤ mc) (hs : slots + 6 ≤ ms) :
    W p l e R s m args below meth c H locs cells slots (vx_MQ below Qc XC args s mc ms free) (F0 m pc ls rest) := by
  intro T hT X
  have htr : e.platform.stackTraces = false := (show e.platform.stackTraces = l.stackTraces by rw [X.admits.platform]).trans hl
  have Y := vx_rebase X (R' := { frames := R.frames, locals := R.locals, cells := 1, slots := 6 }) (Nat.le_refl _) (Nat.le_refl _) hRcells hRslots
  obtain ⟨s', hA⟩ : ∃ z, z = (T.setVm s.vm).setFrames (.invoking m args :: below) := ⟨_, rfl⟩
  rw [← hA] at Y
  have hvm : s'.vm = s.vm := by rw [hA]; rfl
  have hhp : s'.heap = H := by rw [hA]; exact hT
  have hW0 : s.WarmedH s'.vm := by rw [hvm]; exact State.WarmedH.refl s
  have hat' : ∀ w ∈ vx_at0 own ic cls names, w.before args s' = true := fun w hw => vx_ot_at hW0 hvm.symm (hgood w (List.mem_cons_of_mem _ (List.mem_cons_of_mem _ hw))) (hat w hw)
  have hk' : (Cond.classLink own ik cls).before args s' = true := vx_ot_at hW0 hvm.symm (hgood _ List.mem_cons_self) hk
  have hini' : (Cond.initialized cls).before args s' = true := vx_ot_at hW0 hvm.symm (hgood _ (List.mem_cons_of_mem _ List.mem_cons_self)) hini
  have hU' : vx_Zq Bundle.tN "UNASSIGNED_STACK" Bundle.steD A s' s'.heap := by rw [hhp]; exact vx_Zq.moved hW0.alike (hU.kept hS.2.1)
  have hN' : vx_Zq Bundle.tN "SUPPRESSED_SENTINEL" Bundle.listD A s' s'.heap := by rw [hhp]; exact vx_Zq.moved hW0.alike (hN.kept hS.2.1)
  have h : ∀ w ∈ Bundle.ownAtoms0 own ic cls names, w.before args s' = true := vx_own hat' (vx_isRefq hU'.1) (vx_isRefq hN'.1) hU'.2.word hN'.2.word
  have hown' : s'.vm.findClass own = some m.cls := by rw [hvm]; exact hown
  have hins : (Cond.instantiable cls 6).before args s' = true := h _ (by simp [Bundle.ownAtoms0])
  obtain ⟨vm₁, cX, kX, hfX, hkX, -, -, X₁, st1⟩ := Y.newCold hexec (own := own) (C := cls) (index := ik) (n := 6) hown' hk' hins hini'
    (g := F0 m pc ls rest) rfl (by rw [hb]; exact d0) (Nat.le_refl _) (Nat.le_refl _)
  generalize hT1 : (T.setVm vm₁).pushCell { cls := cX, slots := kX.instanceTypes.map defaultValue, vm := .none } = T1 at X₁ st1
  have hcat : (Value.ref T.heap.size).category = 1 := rfl
  have hcellA : T1.heap[T.heap.size]? = some (freshCell cX kX) := by rw [← hT1]; exact State.heap_pushCell_size _ _
  have d3' : decode c.code (pc + 3) = .ok (.dup, 1) := by rw [hb]; exact d3
  obtain ⟨U, hsteps, hrun, hend, hW, hsame, ce, hce, hO⟩ := X₁.ctorThrow0 hexec htr (own := own) (cls := cls) (names := names) (ic := ic) hown' hcls hnames h (fun x hx => nomatch hx) hfX hkX hcellA (by rw [hhp, hT]; exact Nat.le_refl _)
    (g := { method := m, pc := pc + 4, locals := ls, stack := .ref T.heap.size :: .ref T.heap.size :: rest, locked := none }) rfl hsize rfl rfl (rest := rest) rfl
    (by rw [hb]; exact d4) (by rw [hb]; exact d7) hout hRframes (by simp only [List.map_cons, List.sum_cons, hcat]; omega) hlocks
  obtain ⟨f1, f2⟩ := vx_frame hsame
  rw [hhp] at f1 f2
  have hWs : s.WarmedH U.vm := State.WarmedH.trans hW0 hW
  have hcl : s.vm.findClass cls = some ce.cls := by
    have h9 := hO.cls
    rw [hvm] at h9
    exact h9
  have hall : s.sameButNew ({ U with vm := s.vm } : State) locs mc ms := by
    subst hA
    obtain ⟨e1, e2⟩ := hsame
    rw [State.setFrames_setFrames] at e1
    have h2 : (T.setVm s.vm).sameButNew ({ U with vm := s.vm } : State) [] (0 + 1) (0 + 6) := ⟨e1, e2⟩
    have h3 := X.same.trans h2
    rw [List.append_nil] at h3
    exact h3.mono hc hs
  refine ⟨U, ?_, .threw T.heap.size, hrun, hend, Or.inr ⟨T.heap.size, rfl, cls, ce, locs, hx U hWs.alike f1 (fun q hq => f2 q hq (fun z hz => nomatch hz)), hce, hO.vm, hcl, hWs, hall, hf⟩⟩
  refine st1 _ ?_
  show Steps p.tables e below (T1.setTop { method := m, pc := pc + 3, locals := ls, stack := .ref T.heap.size :: rest, locked := none }) _
  jvm_step X₁.here [X₁.here.top, hexec, d3', Value.category]
  exact hsteps
/-- 'throw new E("text")': new; dup; ldc; invokespecial; athrow -/
theorem vx_throwS {cc : ByteArray} {pc : Nat} (hexec : p.tables.exec = Jvm.exec) (hb : c.code = cc) (hl : l.stackTraces = false) {own cls text : String} {names : List String} {ik is ic mc ms sa : Nat} {A : Nat → Prop}
    (hown : s.vm.findClass own = some m.cls) (hcls : Bundle.fit cls = true) (hnames : ∀ n ∈ names, Bundle.fit n = true)
    (hk : (Cond.classLink own ik cls).before args s = true) (hini : (Cond.initialized cls).before args s = true) (hstr : vk_R own is text sa s) (hat : ∀ w ∈ vx_atS own ic cls names, w.before args s = true)
    (hgood : ∀ w ∈ Cond.classLink own ik cls :: Cond.initialized cls :: vx_atS own ic cls names, vx_ot w = true)
    (hU : vx_Zq Bundle.tN "UNASSIGNED_STACK" Bundle.steD A s s.heap) (hN : vx_Zq Bundle.tN "SUPPRESSED_SENTINEL" Bundle.listD A s s.heap) (hS : va_S A s.heap H locs) (hsize : ls.size = c.maxLocals)
    (d0 : decode cc pc = .ok (.new ik, 3)) (d3 : decode cc (pc + 3) = .ok (.dup, 1)) (d4 : decode cc (pc + 4) = .ok (.ldc is, 2)) (d6 : decode cc (pc + 6) = .ok (.invokespecial ic, 3)) (d9 : decode cc (pc + 9) = .ok (.athrow, 1))
    (hout : ∀ x ∈ c.exceptionTable.toList, covers x (pc + 9) = false)
    (hRframes : names.length + 3 < R.frames) (hRlocals : (rest.map fun v => v.category).sum + (13 * (names.length + 1) + 43) ≤ R.locals) (hRcells : cells + 1 ≤ R.cells) (hRslots : slots + 6 ≤ R.slots) (hlocks : meth.locks = false)
    (hx : ∀ t : State, s.vm.Alike t.vm → H.size ≤ t.heap.size → (∀ q : Nat, q < H.size → t.heap[q]? = H[q]?) → XC cls s t)
    (hf : ∀ z ∈ locs, free z.base) (hc : cells + 1 ≤ mc) (hs : slots + 6 ≤ ms) :
    W p l e R s m args below meth c H locs cells slots (vx_MQ below Qc XC args s mc ms free) (F0 m pc ls rest) := by
  intro T hT X
  have htr : e.platform.stackTraces = false := (show e.platform.stackTraces = l.stackTraces by rw [X.admits.platform]).trans hl
  have Y := vx_rebase X (R' := { frames := R.frames, locals := R.locals, cells := 1, slots := 6 }) (Nat.le_refl _) (Nat.le_refl _) hRcells hRslots
  obtain ⟨s', hA⟩ : ∃ z, z = (T.setVm s.vm).setFrames (.invoking m args :: below) := ⟨_, rfl⟩
  rw [← hA] at Y
  have hvm : s'.vm = s.vm := by rw [hA]; rfl
  have hhp : s'.heap = H := by rw [hA]; exact hT
  have hW0 : s.WarmedH s'.vm := by rw [hvm]; exact State.WarmedH.refl s
  have hat' : ∀ w ∈ vx_atS own ic cls names, w.before args s' = true := fun w hw => vx_ot_at hW0 hvm.symm (hgood w (List.mem_cons_of_mem _ (List.mem_cons_of_mem _ hw))) (hat w hw)
  have hk' : (Cond.classLink own ik cls).before args s' = true := vx_ot_at hW0 hvm.symm (hgood _ List.mem_cons_self) hk
  have hini' : (Cond.initialized cls).before args s' = true := vx_ot_at hW0 hvm.symm (hgood _ (List.mem_cons_of_mem _ List.mem_cons_self)) hini
  have hU' : vx_Zq Bundle.tN "UNASSIGNED_STACK" Bundle.steD A s' s'.heap := by rw [hhp]; exact vx_Zq.moved hW0.alike (hU.kept hS.2.1)
  have hN' : vx_Zq Bundle.tN "SUPPRESSED_SENTINEL" Bundle.listD A s' s'.heap := by rw [hhp]; exact vx_Zq.moved hW0.alike (hN.kept hS.2.1)
  have h : ∀ w ∈ Bundle.ownAtoms own ic cls names, w.before args s' = true := vx_own hat' (vx_isRefq hU'.1) (vx_isRefq hN'.1) hU'.2.word hN'.2.word
  have hown' : s'.vm.findClass own = some m.cls := by rw [hvm]; exact hown
  have hins : (Cond.instantiable cls 6).before args s' = true := h _ (by simp [Bundle.ownAtoms])
  obtain ⟨vm₁, cX, kX, hfX, hkX, -, -, X₁, st1⟩ := Y.newCold hexec (own := own) (C := cls) (index := ik) (n := 6) hown' hk' hins hini'
    (g := F0 m pc ls rest) rfl (by rw [hb]; exact d0) (Nat.le_refl _) (Nat.le_refl _)
  generalize hT1 : (T.setVm vm₁).pushCell { cls := cX, slots := kX.instanceTypes.map defaultValue, vm := .none } = T1 at X₁ st1
  have hcat : (Value.ref T.heap.size).category = 1 := rfl
  have hcellA : T1.heap[T.heap.size]? = some (freshCell cX kX) := by rw [← hT1]; exact State.heap_pushCell_size _ _
  have d3' : decode c.code (pc + 3) = .ok (.dup, 1) := by rw [hb]; exact d3
  have d4' : decode c.code (pc + 4) = .ok (.ldc is, 2) := by rw [hb]; exact d4
  have hstr' : vk_R own is text sa s' := vk_R.warm hW0 hstr
  obtain ⟨U, hsteps, hrun, hend, hW, hsame, ce, hce, hO⟩ := X₁.ctorThrowS hexec htr (own := own) (cls := cls) (names := names) (ic := ic) hown' hcls hnames h (fun x hx => nomatch hx) hfX hkX hcellA (by rw [hhp, hT]; exact Nat.le_refl _) (msg := .ref sa) rfl
    (g := { method := m, pc := pc + 6, locals := ls, stack := .ref sa :: .ref T.heap.size :: .ref T.heap.size :: rest, locked := none }) rfl hsize rfl rfl (rest := rest) rfl
    (by rw [hb]; exact d6) (by rw [hb]; exact d9) hout hRframes (by simp only [List.map_cons, List.sum_cons, hcat]; omega) hlocks
  obtain ⟨f1, f2⟩ := vx_frame hsame
  rw [hhp] at f1 f2
  have hWs : s.WarmedH U.vm := State.WarmedH.trans hW0 hW
  have hcl : s.vm.findClass cls = some ce.cls := by
    have h9 := hO.cls
    rw [hvm] at h9
    exact h9
  have hall : s.sameButNew ({ U with vm := s.vm } : State) locs mc ms := by
    subst hA
    obtain ⟨e1, e2⟩ := hsame
    rw [State.setFrames_setFrames] at e1
    have h2 : (T.setVm s.vm).sameButNew ({ U with vm := s.vm } : State) [] (0 + 1) (0 + 6) := ⟨e1, e2⟩
    have h3 := X.same.trans h2
    rw [List.append_nil] at h3
    exact h3.mono hc hs
  refine ⟨U, ?_, .threw T.heap.size, hrun, hend, Or.inr ⟨T.heap.size, rfl, cls, ce, locs, hx U hWs.alike f1 (fun q hq => f2 q hq (fun z hz => nomatch hz)), hce, hO.vm, hcl, hWs, hall, hf⟩⟩
  refine st1 _ ?_
  show Steps p.tables e below (T1.setTop { method := m, pc := pc + 3, locals := ls, stack := .ref T.heap.size :: rest, locked := none }) _
  jvm_step X₁.here [X₁.here.top, hexec, d3', Value.category]
  exact X₁.ldcString hexec (own := own) (text := text) (index := is) (a := sa) hown' hstr'.1 hstr'.2
    (g := { method := m, pc := pc + 4, locals := ls, stack := .ref T.heap.size :: .ref T.heap.size :: rest, locked := none }) rfl d4' _ hsteps
/-- 'throw new E("text")', the text by a wide index -/
theorem vx_throwSW {cc : ByteArray} {pc : Nat} (hexec : p.tables.exec = Jvm.exec) (hb : c.code = cc) (hl : l.stackTraces = false) {own cls text : String} {names : List String} {ik is ic mc ms sa : Nat} {A : Nat → Prop}
    (hown : s.vm.findClass own = some m.cls) (hcls : Bundle.fit cls = true) (hnames : ∀ n ∈ names, Bundle.fit n = true)
    (hk : (Cond.classLink own ik cls).before args s = true) (hini : (Cond.initialized cls).before args s = true) (hstr : vk_R own is text sa s) (hat : ∀ w ∈ vx_atS own ic cls names, w.before args s = true)
    (hgood : ∀ w ∈ Cond.classLink own ik cls :: Cond.initialized cls :: vx_atS own ic cls names, vx_ot w = true)
    (hU : vx_Zq Bundle.tN "UNASSIGNED_STACK" Bundle.steD A s s.heap) (hN : vx_Zq Bundle.tN "SUPPRESSED_SENTINEL" Bundle.listD A s s.heap) (hS : va_S A s.heap H locs) (hsize : ls.size = c.maxLocals)
    (d0 : decode cc pc = .ok (.new ik, 3)) (d3 : decode cc (pc + 3) = .ok (.dup, 1)) (d4 : decode cc (pc + 4) = .ok (.ldc_w is, 3)) (d7 : decode cc (pc + 7) = .ok (.invokespecial ic, 3)) (d10 : decode cc (pc + 10) = .ok (.athrow, 1))
    (hout : ∀ x ∈ c.exceptionTable.toList, covers x (pc + 10) = false)
    (hRframes : names.length + 3 < R.frames) (hRlocals : (rest.map fun v => v.category).sum + (13 * (names.length + 1) + 43) ≤ R.locals) (hRcells : cells + 1 ≤ R.cells) (hRslots : slots + 6 ≤ R.slots) (hlocks : meth.locks = false)
    (hx : ∀ t : State, s.vm.Alike t.vm → H.size ≤ t.heap.size → (∀ q : Nat, q < H.size → t.heap[q]? = H[q]?) → XC cls s t)
    (hf : ∀ z ∈ locs, free z.base) (hc : cells + 1 ≤ mc) (hs : slots + 6 ≤ ms) :
    W p l e R s m args below meth c H locs cells slots (vx_MQ below Qc XC args s mc ms free) (F0 m pc ls rest) := by
  intro T hT X
  have htr : e.platform.stackTraces = false := (show e.platform.stackTraces = l.stackTraces by rw [X.admits.platform]).trans hl
  have Y := vx_rebase X (R' := { frames := R.frames, locals := R.locals, cells := 1, slots := 6 }) (Nat.le_refl _) (Nat.le_refl _) hRcells hRslots
  obtain ⟨s', hA⟩ : ∃ z, z = (T.setVm s.vm).setFrames (.invoking m args :: below) := ⟨_, rfl⟩
  rw [← hA] at Y
  have hvm : s'.vm = s.vm := by rw [hA]; rfl
  have hhp : s'.heap = H := by rw [hA]; exact hT
  have hW0 : s.WarmedH s'.vm := by rw [hvm]; exact State.WarmedH.refl s
  have hat' : ∀ w ∈ vx_atS own ic cls names, w.before args s' = true := fun w hw => vx_ot_at hW0 hvm.symm (hgood w (List.mem_cons_of_mem _ (List.mem_cons_of_mem _ hw))) (hat w hw)
  have hk' : (Cond.classLink own ik cls).before args s' = true := vx_ot_at hW0 hvm.symm (hgood _ List.mem_cons_self) hk
  have hini' : (Cond.initialized cls).before args s' = true := vx_ot_at hW0 hvm.symm (hgood _ (List.mem_cons_of_mem _ List.mem_cons_self)) hini
  have hU' : vx_Zq Bundle.tN "UNASSIGNED_STACK" Bundle.steD A s' s'.heap := by rw [hhp]; exact vx_Zq.moved hW0.alike (hU.kept hS.2.1)
  have hN' : vx_Zq Bundle.tN "SUPPRESSED_SENTINEL" Bundle.listD A s' s'.heap := by rw [hhp]; exact vx_Zq.moved hW0.alike (hN.kept hS.2.1)
  have h : ∀ w ∈ Bundle.ownAtoms own ic cls names, w.before args s' = true := vx_own hat' (vx_isRefq hU'.1) (vx_isRefq hN'.1) hU'.2.word hN'.2.word
  have hown' : s'.vm.findClass own = some m.cls := by rw [hvm]; exact hown
  have hins : (Cond.instantiable cls 6).before args s' = true := h _ (by simp [Bundle.ownAtoms])
  obtain ⟨vm₁, cX, kX, hfX, hkX, -, -, X₁, st1⟩ := Y.newCold hexec (own := own) (C := cls) (index := ik) (n := 6) hown' hk' hins hini'
    (g := F0 m pc ls rest) rfl (by rw [hb]; exact d0) (Nat.le_refl _) (Nat.le_refl _)
  generalize hT1 : (T.setVm vm₁).pushCell { cls := cX, slots := kX.instanceTypes.map defaultValue, vm := .none } = T1 at X₁ st1
  have hcat : (Value.ref T.heap.size).category = 1 := rfl
  have hcellA : T1.heap[T.heap.size]? = some (freshCell cX kX) := by rw [← hT1]; exact State.heap_pushCell_size _ _
  have d3' : decode c.code (pc + 3) = .ok (.dup, 1) := by rw [hb]; exact d3
  have d4' : decode c.code (pc + 4) = .ok (.ldc_w is, 3) := by rw [hb]; exact d4
  have hstr' : vk_R own is text sa s' := vk_R.warm hW0 hstr
  obtain ⟨U, hsteps, hrun, hend, hW, hsame, ce, hce, hO⟩ := X₁.ctorThrowS hexec htr (own := own) (cls := cls) (names := names) (ic := ic) hown' hcls hnames h (fun x hx => nomatch hx) hfX hkX hcellA (by rw [hhp, hT]; exact Nat.le_refl _) (msg := .ref sa) rfl
    (g := { method := m, pc := pc + 7, locals := ls, stack := .ref sa :: .ref T.heap.size :: .ref T.heap.size :: rest, locked := none }) rfl hsize rfl rfl (rest := rest) rfl
    (by rw [hb]; exact d7) (by rw [hb]; exact d10) hout hRframes (by simp only [List.map_cons, List.sum_cons, hcat]; omega) hlocks
  obtain ⟨f1, f2⟩ := vx_frame hsame
  rw [hhp] at f1 f2
  have hWs : s.WarmedH U.vm := State.WarmedH.trans hW0 hW
  have hcl : s.vm.findClass cls = some ce.cls := by
    have h9 := hO.cls
    rw [hvm] at h9
    exact h9
  have hall : s.sameButNew ({ U with vm := s.vm } : State) locs mc ms := by
    subst hA
    obtain ⟨e1, e2⟩ := hsame
    rw [State.setFrames_setFrames] at e1
    have h2 : (T.setVm s.vm).sameButNew ({ U with vm := s.vm } : State) [] (0 + 1) (0 + 6) := ⟨e1, e2⟩
    have h3 := X.same.trans h2
    rw [List.append_nil] at h3
    exact h3.mono hc hs
  refine ⟨U, ?_, .threw T.heap.size, hrun, hend, Or.inr ⟨T.heap.size, rfl, cls, ce, locs, hx U hWs.alike f1 (fun q hq => f2 q hq (fun z hz => nomatch hz)), hce, hO.vm, hcl, hWs, hall, hf⟩⟩
  refine st1 _ ?_
  show Steps p.tables e below (T1.setTop { method := m, pc := pc + 3, locals := ls, stack := .ref T.heap.size :: rest, locked := none }) _
  jvm_step X₁.here [X₁.here.top, hexec, d3', Value.category]
  exact X₁.ldcStringW hexec (own := own) (text := text) (index := is) (a := sa) hown' hstr'.1 hstr'.2
    (g := { method := m, pc := pc + 4, locals := ls, stack := .ref T.heap.size :: .ref T.heap.size :: rest, locked := none }) rfl d4' _ hsteps
end Ends
section Bodies
variable {l : Launch}
theorem vx_ofW {y : MethodName} {ws ws' : List Cond} {rm : Room} {Pc : Array Value → State → Prop} {Qc : Array Value → State → Outcome → State → Prop} {XC : String → State → State → Prop} {mc ms : Nat} {free : Addr → Prop} {cc : ByteArray} {maxL : Nat} {ret : Option FieldType}
    (hy : plainName y.cls = true) (hw : ws = Cond.code y cc maxL ret :: ws')
    (body : ∀ p e s m args below meth c s₁, BodyLoose p l y (headSpec ws rm) cc maxL ret e s m args below meth c s₁ → c.maxLocals = maxL → (∀ x ∈ c.exceptionTable.toList, False) → Pc args s →
      W p l e (headSpec ws rm).room s m args below meth c s.heap [] 0 0 (vx_MQ below Qc XC args s mc ms free) (entryFrame m args maxL)) : vx_Met l y ws rm Pc Qc XC mc ms free := by
  refine MetFree.of_bodyS (code := cc) (maxLocals := maxL) (ret := ret) hy ?_ ?_
  · intro args s m h hn
    obtain ⟨meth, c, h1, h2, h3, h4, h5, h6, -, -⟩ := Cond.code_spec hn (atoms_spec (ws := ws) h _ (by rw [hw]; exact List.mem_cons_self))
    exact ⟨meth, c, h1, h2, h3, h4, h5, h6⟩
  · intro p e s m args below meth c s₁ B hml hP _
    have hh0 : s₁.heap = s.heap := by rw [B.state]; rfl
    have ht : ∀ x ∈ c.exceptionTable.toList, False := by
      obtain ⟨meth9, c9, h1, h2, -, -, -, -, h7, -⟩ := Cond.code_spec B.named (atoms_spec (ws := ws) B.pre _ (by rw [hw]; exact List.mem_cons_self))
      cases Option.some.inj (h1.symm.trans B.method)
      cases Option.some.inj (h2.symm.trans (Stand.of_body B).code)
      intro x hx
      rw [Array.isEmpty_iff.mp h7] at hx
      cases hx
    obtain ⟨t, a1, o, b1, b2, b3⟩ := body p e s m args below meth c s₁ B hml ht hP s₁ hh0 (Stand.of_body B)
    exact ⟨t, o, a1, b1, b2, b3⟩
/-- the table of a body with handlers -/
theorem vx_table {p : Program} {x y : MethodName} {S : Spec} {cc bytes : ByteArray} {maxL maxL' : Nat} {ret ret' : Option FieldType} {e : Env} {s s₁ : State} {m : MethodId} {args : Array Value} {below : List Frame} {meth : Method} {c : Code} {hh : List (Nat × Nat × Nat × Nat)}
    (B : BodyLoose p l y S cc maxL ret e s m args below meth c s₁) (h : (Cond.codeWith y bytes maxL' ret' hh).before args s = true) : c.exceptionTable.toList = tableOf hh := by
  obtain ⟨m9, meth9, c9, hn9, h1, h2, -, -, h6, -⟩ := Cond.codeWith_spec h
  cases Option.some.inj (hn9.symm.trans B.named)
  cases Option.some.inj (h1.symm.trans B.method)
  cases Option.some.inj (h2.symm.trans (Stand.of_body B).code)
  rw [← h6, table_eq]
end Bodies
end VXA
/-! ===== END ===== -/
/-! ===== BEGIN a static call of a method with an exception table ===== -/
section VXS
variable {p : Program} {l : Launch} {e : Env} {R : Room} {s : State} {m : MethodId} {args : Array Value} {below : List Frame} {meth : Method} {c : Code} {T : State} {H : Heap} {locs : List Loc} {cells slots : Nat}
abbrev vx_CSW (R : Room) (s : State) (args : Array Value) (own : String) (index : Nat) (y : MethodName) (bytes : ByteArray) (maxL : Nat) (ret : Option FieldType) (hh : List (Nat × Nat × Nat × Nat)) (ws : List Cond) (rm : Room) (mc ms n : Nat) : Prop :=
  (rm.cells = mc ∧ rm.slots = ms ∧ rm.frames + 1 ≤ R.frames ∧ 8 + (maxL + 11) + rm.locals ≤ R.locals ∧ (∀ w ∈ ws, ∀ (a' : Array Value) (U : State), s.WarmedH U.vm → w.before a' U = true) ∧ Cond.codeWith y bytes maxL ret hh ∈ ws) ∧
  (Cond.codeWith y bytes maxL ret hh).before args s = true ∧ (Cond.initialized y.cls).before args s = true ∧ (y.cls ≠ "java/lang/invoke/MethodHandle" ∧ y.cls ≠ "java/lang/invoke/VarHandle") ∧
  (∀ sig, parseMethodDescriptor y.desc = some sig → n = sig.parameters.length) ∧ (Cond.methodLink own index y).before args s = true ∧ (Cond.static y).before args s = true
theorem vx_cwSW {own : String} {index maxL mc ms : Nat} {y : MethodName} {bytes : ByteArray} {ret : Option FieldType} {hh : List (Nat × Nat × Nat × Nat)} {Ts ws ws' : List Cond} {rm : Room} (n : Nat) (ht : ∀ w ∈ Ts, w.before args s = true) (hT : GoodIn Ts (va_wsS own index y ws)) (hw : ws = Cond.codeWith y bytes maxL ret hh :: ws') (hrc : rm.cells = mc) (hrs : rm.slots = ms)
    (hd : y.cls ≠ "java/lang/invoke/MethodHandle" ∧ y.cls ≠ "java/lang/invoke/VarHandle" ∧ (parseMethodDescriptor y.desc).map (fun d => d.parameters.length) = some n) (hR : rm.frames + 1 ≤ R.frames ∧ 8 + (maxL + 11) + rm.locals ≤ R.locals) :
    vx_CSW R s args own index y bytes maxL ret hh ws rm mc ms n := by
  have ok : ∀ w ∈ va_wsS own index y ws, w.before args s = true := fun w h => ht w (hT w h).1
  have hG : GoodIn Ts ws := fun w h => hT w (by unfold va_wsS; exact List.mem_append_right _ h)
  have hc : Cond.codeWith y bytes maxL ret hh ∈ ws := by rw [hw]; exact List.mem_cons_self
  refine ⟨⟨hrc, hrs, hR.1, hR.2, pay_in ht hG, hc⟩, ht _ (hG _ hc).1, ok _ (by simp [va_wsS]), ⟨hd.1, hd.2.1⟩, fun sig h => ?_, ok _ (by simp [va_wsS]), ok _ (by simp [va_wsS])⟩
  have h2 := hd.2.2
  rw [h] at h2
  exact (Option.some.inj h2).symm
theorem vx_callSW (X : Stand p l e R s m args below meth c T locs cells slots) (hexec : p.tables.exec = Jvm.exec) {own : String} {index : Nat} {y : MethodName} {bytes : ByteArray} {maxL : Nat} {ret : Option FieldType} {hh : List (Nat × Nat × Nat × Nat)}
    (hown : s.vm.findClass own = some m.cls) (hlink : (Cond.methodLink own index y).before args s = true) (hstat : (Cond.static y).before args s = true) (hinit : (Cond.initialized y.cls).before args s = true)
    (hcode : (Cond.codeWith y bytes maxL ret hh).before args s = true) (hy : y.cls ≠ "java/lang/invoke/MethodHandle" ∧ y.cls ≠ "java/lang/invoke/VarHandle")
    {W9 : Nat} {Pre : Pt → Array Value → Prop} {Post : Pt → Array Value → Option Value → Pt → Prop} (hK : Back l R p e below s args y 3 W9 Pre Post)
    {g : JFrame} (hg : g.method = m) (hsize : g.locals.size = c.maxLocals) {argsL rest : List Value} (hlen : ∀ sig, parseMethodDescriptor y.desc = some sig → argsL.length = sig.parameters.length)
    (hstack : g.stack = argsL.reverse ++ rest) (hW : 2 * g.monitorRoom + (rest.map fun v => v.category).sum ≤ W9) (hdg : decode c.code g.pc = .ok (.invokestatic index, 3))
    (hpre : ∀ vm₁, s.WarmedH vm₁ → Pre ⟨T.setVm vm₁, locs, cells, slots⟩ argsL.toArray) :
    ∃ (v : Option Value) (vm₁ : Vm) (B : Pt), s.WarmedH vm₁ ∧ Stand p l e R s m args below meth c B.U B.locs B.cells B.slots ∧ Post ⟨T.setVm vm₁, locs, cells, slots⟩ argsL.toArray v B ∧
      ∀ target, Steps p.tables e below (B.U.setTop { g with pc := g.pc + 3, stack := v.toList ++ rest }) target → Steps p.tables e below (T.setTop g) target := by
  obtain ⟨mk, methM, cM, hnamed, hmethM, -, -, -, -, -, -, hsigM⟩ := Cond.codeWith_spec hcode
  have hstatic : methM.isStatic = true := Cond.static_spec hnamed hmethM hstat
  obtain ⟨kP, hkP, -⟩ := className_of_methodNamed hnamed
  have hinitP : kP.init = .initialized := Cond.initialized_spec (findClass_of_methodNamed hnamed) hkP hinit
  obtain ⟨vm₁, X₁, hstep₁⟩ := X.invokestatic hexec hown hlink hnamed hmethM hstatic hkP hinitP hy (g := g) hg (argsL := argsL) (rest := rest) (hlen _ hsigM) hstack hdg
  obtain ⟨v, B, X', hpost, hsteps⟩ := hK m meth c ⟨T.setVm vm₁, locs, cells, slots⟩ { g with stack := rest } (.invokestatic index) mk argsL.toArray X₁ hg hsize hdg hW (X₁.named hnamed) (hpre vm₁ X₁.warmed)
  exact ⟨v, vm₁, B, X₁.warmed, X', hpost, fun target h => hstep₁ _ fun acts => by rw [doInvoke_state]; exact hsteps.trans h⟩
theorem vx_runSW {y : MethodName} {bytes cc : ByteArray} {maxL nL mc ms n index : Nat} {ret : Option FieldType} {hh : List (Nat × Nat × Nat × Nat)} {ws : List Cond} {rm : Room} {Pc : Array Value → State → Prop} {Qc : Array Value → State → Outcome → State → Prop} {free : Addr → Prop} {Ts : List Cond} {own : String} {As rest : List Value} {g : JFrame}
    (S : CallFix p m c cc nL s args Ts own) (hM : Met l y ws rm Pc Qc mc ms free) (cw : vx_CSW R s args own index y bytes maxL ret hh ws rm mc ms n) (hp : PreS s H Pc As)
    (hg : g.method = m) (hn : As.length = n) (hsize : g.locals.size = nL) (hstack : g.stack = As.reverse ++ rest) (hW : 2 * g.monitorRoom + (rest.map fun v => v.category).sum ≤ 8) (hdg : decode cc g.pc = .ok (.invokestatic index, 3)) (hf : cells + mc ≤ R.cells ∧ slots + ms ≤ R.slots) :
    va_Run p l e R s m args below meth c H locs cells slots mc ms g rest (Qc As.toArray) (free) := by
  obtain ⟨⟨hrc, hrs, hfr, hlo, hws, hcw⟩, hcode, hini, hy, hlen, hl, hstt⟩ := cw
  have hK : Back l R p e below s args y 3 8 (PreOf R mc ms Pc) (PostOf Qc mc ms free) := va_backW (hh := hh) (bytes := bytes) (maxL := maxL) (ret := ret) hM hp.1 hrc hrs hfr hlo hws hcw (fun a' U hW => word_at hW (Or.inl (by first | rfl | simp [Cond.onTables, Cond.keeps, Cond.steady])) hini)
  obtain ⟨hx, hb, hml, ho, -⟩ := S
  intro T hT X
  obtain ⟨v, vm₁, ⟨U', l2, c2, s2⟩, hW₁, X', ⟨g', mk, t, L, e1, e2, hq, h1, hL, h2, h3⟩, st⟩ := vx_callSW X hx (hh := hh) (bytes := bytes) (maxL := maxL) (ret := ret) ho hl hstt hini hcode hy hK hg (hsize.trans hml.symm) (argsL := As) (rest := rest) (fun sig h => hn.trans (hlen sig h)) hstack hW (by rw [hb]; exact hdg)
    (fun vm₁ hW₁ => ⟨hf.1, hf.2, hp.2 (T.setVm vm₁) hT hW₁⟩)
  dsimp only [Pt.U, Pt.locs, Pt.cells, Pt.slots] at X' e1 e2 h1 h2 h3 st
  subst h1; subst h2; subst h3
  exact ⟨v, (T.setVm vm₁).calling g' mk As.toArray, t, U', L, hT, X', hL, e1, e2, hq, st⟩
/-- not caught here, past rows that name other classes: it goes on to the caller -/
theorem vx_outP {p : Program} {l : Launch} {e : Env} {R : Room} {s : State} {m : MethodId} {args : Array Value} {below : List Frame} {meth : Method} {c : Code} {H : Heap} {locs : List Loc} {cells slots : Nat} {free : Addr → Prop} {ls : Array Slot} {rest : List Value} {Qc : Array Value → State → Outcome → State → Prop} {XC : String → State → State → Prop}
    {pc : Nat} {own E : String} {ce : Cell} {q : Addr} {mc ms : Nat} (hown : s.vm.findClass own = some m.cls) (hlocks : meth.locks = false)
    (hpass : ∀ z ∈ c.exceptionTable.toList, covers z pc = false ∨ (z.catchType ≠ 0 ∧ ∃ nm : String, (Cond.classLink own z.catchType nm).before args s = true ∧ va_Nc E nm s)) (hcell : H[q]? = some ce) (hv : ce.vm = .none) (hcl : s.vm.findClass E = some ce.cls)
    (hx : ∀ t : State, t.heap = H → s.vm.Alike t.vm → XC E s t) (hf : ∀ z ∈ locs, free z.base) (hc : cells ≤ mc) (hs : slots ≤ ms) :
    vx_W p l e R s m args below meth c H locs cells slots (vx_MQ below Qc XC args s mc ms free) (F0 m pc ls rest) q := by
  intro T hT X
  have hpl : e.platform.magicAccessors = ({} : Platform).magicAccessors := by rw [X.admits.platform]
  obtain ⟨vm', hW', X', st⟩ := X.outThrough hlocks q (g := F0 m pc ls rest) rfl rfl rfl (cell := ce) (by rw [hT]; exact hcell) (by rw [hv]; rfl)
    (by obtain ⟨k9, h9, -⟩ := Vm.findClass_spec hcl; exact ⟨k9, h9⟩) (fun z hz => by
      rcases hpass z hz with h | ⟨hz0, nm, hl1, hn1⟩
      · exact Or.inl h
      · obtain ⟨c6, hc6, hcl6⟩ := Cond.classLink_spec hown hl1 e.platform hpl
        obtain ⟨a8, b8, h1, h2, h3⟩ := hn1
        cases Option.some.inj (h1.symm.trans hcl)
        cases Option.some.inj (h2.symm.trans hc6)
        exact Or.inr ⟨hz0, _, hcl6, h3⟩)
  obtain ⟨g₀, hfr⟩ := X'.frames_eq
  have hcell9 : ((T.setVm vm').setFrames (.throwing q :: below)).heap[q]? = some ce := by
    show T.heap[q]? = some ce
    rw [hT]; exact hcell
  have hend : Ended ((T.setVm vm').setFrames (.throwing q :: below)) below (.threw q) := State.frames_setFrames _ (State.cur_lt_of_frames hfr)
  refine ⟨(T.setVm vm').setFrames (.throwing q :: below), ?_, .threw q, X'.here.running, hend, Or.inr ⟨q, rfl, E, ce, locs, hx _ hT (X'.ends _).1.alike, hcell9, hv, hcl, (X'.ends _).1, (X'.ends _).2.mono hc hs, hf⟩⟩
  rw [X.pushThrowing_eq]
  exact st
/-- a thing of a world lies in the heap -/
theorem vx_lt {D : va_G} {cl : List vw_C} {ws : va_W} {H1 : Heap} (h : va_P D cl ws H1) {k : Nat} {q : Nat × va_E} (hk : ws[k]? = some q) : q.1 < H1.size := (h k q hk).lt
end VXS
/-! ===== END ===== -/
/-! ===== BEGIN methods with a table of their own: called by a name, returning or throwing ===== -/
section VXH
/-! vx_backW, vx_callVX, vx_callSX, vx_callVW, vx_runVW, vx_runVX, vx_runSX, vx_ofWH follow the same proofs as their sisters above (Free/Laws.lean, Shelf42/LK1.lean); vx_outP calls Shelf42/NT130.lean (outThrough). -/
section
variable {l : Launch} {R : Room} {p : Program} {e : Env} {below : List Frame} {s : State} {sargs : Array Value} {y : MethodName} {len W9 : Nat}
theorem vx_backW {ws : List Cond} {rm : Room} {Pc : Array Value → State → Prop} {Qc : Array Value → State → Outcome → State → Prop} {XC : String → State → State → Prop} {mc ms : Nat} {free : Addr → Prop} {bytes : ByteArray} {maxL : Nat} {ret : Option FieldType} {hh : List (Nat × Nat × Nat × Nat)}
    (hM : vx_Met l y ws rm Pc Qc XC mc ms free) (hblind : FrameBlind Pc) (hrc : rm.cells = mc) (hrs : rm.slots = ms)
    (hframes : rm.frames + 1 ≤ R.frames) (hlocals : W9 + (maxL + 11) + rm.locals ≤ R.locals)
    (hws : ∀ w ∈ ws, ∀ a' U, s.WarmedH U.vm → w.before a' U = true) (hcode : Cond.codeWith y bytes maxL ret hh ∈ ws) (hinit : ∀ a' U, s.WarmedH U.vm → (Cond.initialized y.cls).before a' U = true) :
    vx_Back l R p e below s sargs y len W9 (PreOf R mc ms Pc) (PostOf Qc mc ms free) (vx_Post XC mc ms free) := by
  intro m meth c A g ig mk a X hg hsize hdg hW hn hp
  have h1 : (headSpec ws rm).pre.before a A.U = true := atoms_intro fun w hw => hws w hw _ _ X.warmed
  have h2 : (Cond.codeWith y bytes maxL ret hh).before a A.U = true := hws _ hcode _ _ X.warmed
  have h3 : (Cond.initialized y.cls).before a A.U = true := hinit _ _ X.warmed
  have h4 : A.cells + (headSpec ws rm).room.cells ≤ R.cells := by rw [show (headSpec ws rm).room.cells = mc from hrc]; exact hp.1
  have h5 : A.slots + (headSpec ws rm).room.slots ≤ R.slots := by rw [show (headSpec ws rm).room.slots = ms from hrs]; exact hp.2.1
  have hPc : Pc a (A.U.calling g mk a) := hblind _ _ _ _ hp.2.2
  obtain ⟨U, Ls, c0, s0⟩ := A
  dsimp only [Pt.U, Pt.locs, Pt.cells, Pt.slots] at h1 h2 h3 h4 h5 X hn hPc ⊢
  obtain ⟨m9, methY, cY, hn9, hmY, hcY, -, hlY, -⟩ := Cond.codeWith_spec h2
  cases Option.some.inj (hn9.symm.trans hn)
  obtain ⟨kY, hkY, -⟩ := className_of_methodNamed hn
  have hinitY : kY.init = .initialized := Cond.initialized_spec (findClass_of_methodNamed hn) hkY h3
  have h : At U g.method c below := by rw [hg]; exact X.here
  have hlocals9 : W9 + (maxL + 11) + (headSpec ws rm).room.locals ≤ R.locals := hlocals
  have happ : (headSpec ws rm).appliesLoose y e.platform (U.calling g mk a) = true :=
    Spec.appliesLoose_calling (g := g) h hdg hn hkY hinitY
      (X.room_calling (g := g) (R' := (headSpec ws rm).room) hsize hmY hcY hframes (by rw [hlY]; omega) h4 h5) h1
  obtain ⟨mid, hmid⟩ := h.above
  have hfr : (U.setTop g).frames = (.java g :: mid) ++ below := by rw [State.frames_setTop' g h.top, hmid]; rfl
  obtain ⟨o, s₂, hsteps, -, hend, hq⟩ := Steps.callFree hM p X.admits X.cas X.clock (acts := []) hfr happ hPc trivial
  have hq' : vx_Q Qc XC mc ms free a (U.calling g mk a) o s₂ := hq
  rw [State.frames_setTop' g h.top] at hend
  obtain ⟨g₀, hg0⟩ := Option.isSome_iff_exists.mp h.top
  obtain ⟨r, hr⟩ := State.topJava?_eq_some.mp hg0
  have hr' : (({ U with heap := s₂.heap, slotsUsed := s₂.slotsUsed } : State).setVm s₂.vm).frames = .java g₀ :: r := hr
  rcases hq' with ⟨hqc, L, hfe, hL⟩ | ⟨q, rfl, E, ce, L, hx, hce, hcv, hcl, hW₂, hsm, hL⟩
  · obtain ⟨⟨v, rfl⟩, hW₂, e2, q2, q3, q4, q5, q6⟩ := id hfe
    have e3 : s₂ = ({ (U.calling g mk a).setFrames s₂.frames with heap := s₂.heap, slotsUsed := s₂.slotsUsed } : State).setVm s₂.vm := by
      have : s₂ = ({ s₂ with vm := (U.calling g mk a).vm } : State).setVm s₂.vm := rfl
      rw [e2] at this
      exact this
    obtain ⟨c₂, i₂, len₂, hc₂, hd₂, hf₂⟩ := hend
    have hW' : U.WarmedH s₂.vm := hW₂
    have hcc : c₂ = c := by
      have h1 : s₂.code? g.method = U.code? g.method := by
        rw [State.code?_eq, State.code?_eq, hW'.alike.method?]
      exact Option.some.inj (hc₂.symm.trans (h1.trans h.code))
    subst hcc
    have hlen : len₂ = len := by rw [hdg] at hd₂; cases hd₂; rfl
    subst hlen
    have hs₂ : s₂ = (({ U with heap := s₂.heap, slotsUsed := s₂.slotsUsed } : State).setVm s₂.vm).setTop { g with pc := g.pc + len₂, stack := v.toList ++ g.stack } := by
      refine e3.trans ?_
      rw [hf₂, State.calling_eq h.top, State.setFrames_setFrames, State.setTop_of_frames _ hr', hr]
      rfl
    have hsame : U.sameButNew ({ U with heap := s₂.heap, slotsUsed := s₂.slotsUsed } : State) L mc ms := by
      refine ⟨?_, q2, q3, q4, q5, q6⟩
      obtain ⟨t, ht, -⟩ := State.frames_cons hr
      show ({ U with heap := s₂.heap, slotsUsed := s₂.slotsUsed } : State) = { U.setFrames U.frames with heap := s₂.heap, slotsUsed := s₂.slotsUsed }
      rw [State.setFrames_self ht]
    subst hg
    refine Or.inl ⟨v, ⟨(({ U with heap := s₂.heap, slotsUsed := s₂.slotsUsed } : State).setVm s₂.vm), Ls ++ L, c0 + mc, s0 + ms⟩,
      ⟨X.admits, X.cas, X.clock, X.frames, X.room, X.hears, X.method, X.code, (X.here.setHeapUsed s₂.heap s₂.slotsUsed).setVm hW'.alike, X.tail, State.WarmedH.trans X.warmed hW', X.limits, X.bytes, X.same.trans (hsame.setVm s.vm)⟩,
      ⟨g, mk, s₂, L, rfl, rfl, hqc, rfl, hL, rfl, rfl⟩, ?_⟩
    show Steps p.tables e below _ ((({ U with heap := s₂.heap, slotsUsed := s₂.slotsUsed } : State).setVm s₂.vm).setTop { g with pc := g.pc + len₂, stack := v.toList ++ g.stack })
    rw [← hs₂]
    exact hsteps
  · obtain ⟨e2, q2, q3, q4, q5, q6⟩ := id hsm
    have e3 : s₂ = ({ (U.calling g mk a).setFrames s₂.frames with heap := s₂.heap, slotsUsed := s₂.slotsUsed } : State).setVm s₂.vm := by
      have : s₂ = ({ s₂ with vm := (U.calling g mk a).vm } : State).setVm s₂.vm := rfl
      rw [e2] at this
      exact this
    have hf₂ : s₂.frames = .throwing q :: .java g :: U.frames.tail := hend
    have hW' : U.WarmedH s₂.vm := hW₂
    have hs₂ : s₂ = ((({ U with heap := s₂.heap, slotsUsed := s₂.slotsUsed } : State).setVm s₂.vm).setTop g).pushFrame (.throwing q) := by
      refine e3.trans ?_
      rw [hf₂, State.calling_eq h.top, State.setFrames_setFrames, State.pushFrame, State.frames_setTop _ hr', State.setTop_of_frames _ hr', State.setFrames_setFrames, hr]
      rfl
    have hsame : U.sameButNew ({ U with heap := s₂.heap, slotsUsed := s₂.slotsUsed } : State) L mc ms := by
      refine ⟨?_, q2, q3, q4, q5, q6⟩
      obtain ⟨t, ht, -⟩ := State.frames_cons hr
      show ({ U with heap := s₂.heap, slotsUsed := s₂.slotsUsed } : State) = { U.setFrames U.frames with heap := s₂.heap, slotsUsed := s₂.slotsUsed }
      rw [State.setFrames_self ht]
    subst hg
    refine Or.inr ⟨q, ⟨(({ U with heap := s₂.heap, slotsUsed := s₂.slotsUsed } : State).setVm s₂.vm), Ls ++ L, c0 + mc, s0 + ms⟩,
      ⟨X.admits, X.cas, X.clock, X.frames, X.room, X.hears, X.method, X.code, (X.here.setHeapUsed s₂.heap s₂.slotsUsed).setVm hW'.alike, X.tail, State.WarmedH.trans X.warmed hW', X.limits, X.bytes, X.same.trans (hsame.setVm s.vm)⟩,
      ⟨g, mk, s₂, L, E, ce, rfl, rfl, hx, hce, hcv, hcl, rfl, hL, rfl, rfl⟩, ?_⟩
    show Steps p.tables e below _ (((({ U with heap := s₂.heap, slotsUsed := s₂.slotsUsed } : State).setVm s₂.vm).setTop g).pushFrame (.throwing q))
    rw [← hs₂]
    exact hsteps
end
variable {p : Program} {l : Launch} {e : Env} {R : Room} {s : State} {m : MethodId} {args : Array Value} {below : List Frame} {meth : Method} {c : Code} {T : State} {H : Heap} {locs : List Loc} {cells slots : Nat}
theorem vx_callVX (X : Stand p l e R s m args below meth c T locs cells slots) (hexec : p.tables.exec = Jvm.exec) {own C : String} {index : Nat} {y : MethodName} {bytes : ByteArray} {maxL : Nat} {ret : Option FieldType} {hh : List (Nat × Nat × Nat × Nat)}
    (hown : s.vm.findClass own = some m.cls) (hlink : (Cond.methodLink own index y).before args s = true) (hinst : (Cond.instanceMethod y).before args s = true) (hsel : (Cond.selects C y y).before args s = true)
    (hcode : (Cond.codeWith y bytes maxL ret hh).before args s = true) (hy : y.cls ≠ "java/lang/invoke/MethodHandle" ∧ y.cls ≠ "java/lang/invoke/VarHandle")
    {W9 : Nat} {Pre : Pt → Array Value → Prop} {Post : Pt → Array Value → Option Value → Pt → Prop} {PostX : Pt → Array Value → Addr → Pt → Prop} (hK : vx_Back l R p e below s args y 3 W9 Pre Post PostX)
    {b : Addr} {cellB : Cell} (hcell : T.heap[b]? = some cellB) (hobj : cellB.vm.isStatics = false) (hcls : s.vm.findClass C = some cellB.cls)
    {g : JFrame} (hg : g.method = m) (hsize : g.locals.size = c.maxLocals) {argsL rest : List Value} (hlen : ∀ sig, parseMethodDescriptor y.desc = some sig → argsL.length = sig.parameters.length)
    (hstack : g.stack = argsL.reverse ++ .ref b :: rest) (hW : 2 * g.monitorRoom + (rest.map fun v => v.category).sum ≤ W9) (hdg : decode c.code g.pc = .ok (.invokevirtual index, 3))
    (hpre : ∀ vm₁, s.WarmedH vm₁ → Pre ⟨T.setVm vm₁, locs, cells, slots⟩ (Value.ref b :: argsL).toArray) :
    (∃ (v : Option Value) (vm₁ : Vm) (B : Pt), s.WarmedH vm₁ ∧ Stand p l e R s m args below meth c B.U B.locs B.cells B.slots ∧ Post ⟨T.setVm vm₁, locs, cells, slots⟩ (Value.ref b :: argsL).toArray v B ∧
      ∀ target, Steps p.tables e below (B.U.setTop { g with pc := g.pc + 3, stack := v.toList ++ rest }) target → Steps p.tables e below (T.setTop g) target) ∨
    (∃ (q : Addr) (vm₁ : Vm) (B : Pt), s.WarmedH vm₁ ∧ Stand p l e R s m args below meth c B.U B.locs B.cells B.slots ∧ PostX ⟨T.setVm vm₁, locs, cells, slots⟩ (Value.ref b :: argsL).toArray q B ∧
      Steps p.tables e below (T.setTop g) ((B.U.setTop { g with stack := rest }).pushFrame (.throwing q))) := by
  obtain ⟨mk, methM, hnamed, hmethM, hstM, habM⟩ := Cond.instanceMethod_spec hinst
  obtain ⟨m8, methM', cM, hn8, hmethM', -, -, -, -, -, -, hsigM⟩ := Cond.codeWith_spec hcode
  cases Option.some.inj (hn8.symm.trans hnamed)
  cases hmethM.symm.trans hmethM'
  obtain ⟨c2, r2, m2, q1, q2, q3, q4, kP, hkP, hkPi⟩ := Cond.selects_spec hsel
  cases hcls.symm.trans q1
  cases (State.methodFound?_of_named hnamed hy).symm.trans q2
  cases hnamed.symm.trans q3
  have hselP : selectMethod e.platform s.vm cellB.cls mk = .method mk := by rw [Launch.admits_selectMethod X.admits]; exact q4
  obtain ⟨vm₁, X₁, hstep₁⟩ := X.invokevirtual hexec hown hlink hnamed hmethM hstM hkP hkPi hy (a := b) (cell := cellB) hcell
    (fun z h => by rw [h] at hobj; cases hobj) hselP hmethM habM hkP hkPi (g := g) hg (argsL := argsL) (rest := rest) (hlen _ hsigM) hstack hdg
  rcases hK m meth c ⟨T.setVm vm₁, locs, cells, slots⟩ { g with stack := rest } (.invokevirtual index) mk (Value.ref b :: argsL).toArray X₁ hg hsize hdg hW (X₁.named hnamed) (hpre vm₁ X₁.warmed) with ⟨v, B, X', hpost, hsteps⟩ | ⟨q, B, X', hpost, hsteps⟩
  · exact Or.inl ⟨v, vm₁, B, X₁.warmed, X', hpost, fun target h => hstep₁ _ fun acts => by rw [doInvoke_state]; exact hsteps.trans h⟩
  · exact Or.inr ⟨q, vm₁, B, X₁.warmed, X', hpost, hstep₁ _ fun acts => by rw [doInvoke_state]; exact hsteps⟩
theorem vx_callSX (X : Stand p l e R s m args below meth c T locs cells slots) (hexec : p.tables.exec = Jvm.exec) {own : String} {index : Nat} {y : MethodName} {bytes : ByteArray} {maxL : Nat} {ret : Option FieldType} {hh : List (Nat × Nat × Nat × Nat)}
    (hown : s.vm.findClass own = some m.cls) (hlink : (Cond.methodLink own index y).before args s = true) (hstat : (Cond.static y).before args s = true) (hinit : (Cond.initialized y.cls).before args s = true)
    (hcode : (Cond.codeWith y bytes maxL ret hh).before args s = true) (hy : y.cls ≠ "java/lang/invoke/MethodHandle" ∧ y.cls ≠ "java/lang/invoke/VarHandle")
    {W9 : Nat} {Pre : Pt → Array Value → Prop} {Post : Pt → Array Value → Option Value → Pt → Prop} {PostX : Pt → Array Value → Addr → Pt → Prop} (hK : vx_Back l R p e below s args y 3 W9 Pre Post PostX)
    {g : JFrame} (hg : g.method = m) (hsize : g.locals.size = c.maxLocals) {argsL rest : List Value} (hlen : ∀ sig, parseMethodDescriptor y.desc = some sig → argsL.length = sig.parameters.length)
    (hstack : g.stack = argsL.reverse ++ rest) (hW : 2 * g.monitorRoom + (rest.map fun v => v.category).sum ≤ W9) (hdg : decode c.code g.pc = .ok (.invokestatic index, 3))
    (hpre : ∀ vm₁, s.WarmedH vm₁ → Pre ⟨T.setVm vm₁, locs, cells, slots⟩ argsL.toArray) :
    (∃ (v : Option Value) (vm₁ : Vm) (B : Pt), s.WarmedH vm₁ ∧ Stand p l e R s m args below meth c B.U B.locs B.cells B.slots ∧ Post ⟨T.setVm vm₁, locs, cells, slots⟩ argsL.toArray v B ∧
      ∀ target, Steps p.tables e below (B.U.setTop { g with pc := g.pc + 3, stack := v.toList ++ rest }) target → Steps p.tables e below (T.setTop g) target) ∨
    (∃ (q : Addr) (vm₁ : Vm) (B : Pt), s.WarmedH vm₁ ∧ Stand p l e R s m args below meth c B.U B.locs B.cells B.slots ∧ PostX ⟨T.setVm vm₁, locs, cells, slots⟩ argsL.toArray q B ∧
      Steps p.tables e below (T.setTop g) ((B.U.setTop { g with stack := rest }).pushFrame (.throwing q))) := by
  obtain ⟨mk, methM, cM, hnamed, hmethM, -, -, -, -, -, -, hsigM⟩ := Cond.codeWith_spec hcode
  have hstatic : methM.isStatic = true := Cond.static_spec hnamed hmethM hstat
  obtain ⟨kP, hkP, -⟩ := className_of_methodNamed hnamed
  have hinitP : kP.init = .initialized := Cond.initialized_spec (findClass_of_methodNamed hnamed) hkP hinit
  obtain ⟨vm₁, X₁, hstep₁⟩ := X.invokestatic hexec hown hlink hnamed hmethM hstatic hkP hinitP hy (g := g) hg (argsL := argsL) (rest := rest) (hlen _ hsigM) hstack hdg
  rcases hK m meth c ⟨T.setVm vm₁, locs, cells, slots⟩ { g with stack := rest } (.invokestatic index) mk argsL.toArray X₁ hg hsize hdg hW (X₁.named hnamed) (hpre vm₁ X₁.warmed) with ⟨v, B, X', hpost, hsteps⟩ | ⟨q, B, X', hpost, hsteps⟩
  · exact Or.inl ⟨v, vm₁, B, X₁.warmed, X', hpost, fun target h => hstep₁ _ fun acts => by rw [doInvoke_state]; exact hsteps.trans h⟩
  · exact Or.inr ⟨q, vm₁, B, X₁.warmed, X', hpost, hstep₁ _ fun acts => by rw [doInvoke_state]; exact hsteps⟩
theorem vx_callVW (X : Stand p l e R s m args below meth c T locs cells slots) (hexec : p.tables.exec = Jvm.exec) {own C : String} {index : Nat} {y : MethodName} {bytes : ByteArray} {maxL : Nat} {ret : Option FieldType} {hh : List (Nat × Nat × Nat × Nat)}
    (hown : s.vm.findClass own = some m.cls) (hlink : (Cond.methodLink own index y).before args s = true) (hinst : (Cond.instanceMethod y).before args s = true) (hsel : (Cond.selects C y y).before args s = true)
    (hcode : (Cond.codeWith y bytes maxL ret hh).before args s = true) (hy : y.cls ≠ "java/lang/invoke/MethodHandle" ∧ y.cls ≠ "java/lang/invoke/VarHandle")
    {W9 : Nat} {Pre : Pt → Array Value → Prop} {Post : Pt → Array Value → Option Value → Pt → Prop} (hK : Back l R p e below s args y 3 W9 Pre Post)
    {b : Addr} {cellB : Cell} (hcell : T.heap[b]? = some cellB) (hobj : cellB.vm.isStatics = false) (hcls : s.vm.findClass C = some cellB.cls)
    {g : JFrame} (hg : g.method = m) (hsize : g.locals.size = c.maxLocals) {argsL rest : List Value} (hlen : ∀ sig, parseMethodDescriptor y.desc = some sig → argsL.length = sig.parameters.length)
    (hstack : g.stack = argsL.reverse ++ .ref b :: rest) (hW : 2 * g.monitorRoom + (rest.map fun v => v.category).sum ≤ W9) (hdg : decode c.code g.pc = .ok (.invokevirtual index, 3))
    (hpre : ∀ vm₁, s.WarmedH vm₁ → Pre ⟨T.setVm vm₁, locs, cells, slots⟩ (Value.ref b :: argsL).toArray) :
    ∃ (v : Option Value) (vm₁ : Vm) (B : Pt), s.WarmedH vm₁ ∧ Stand p l e R s m args below meth c B.U B.locs B.cells B.slots ∧ Post ⟨T.setVm vm₁, locs, cells, slots⟩ (Value.ref b :: argsL).toArray v B ∧
      ∀ target, Steps p.tables e below (B.U.setTop { g with pc := g.pc + 3, stack := v.toList ++ rest }) target → Steps p.tables e below (T.setTop g) target := by
  obtain ⟨mk, methM, hnamed, hmethM, hstM, habM⟩ := Cond.instanceMethod_spec hinst
  obtain ⟨m8, methM', cM, hn8, hmethM', -, -, -, -, -, -, hsigM⟩ := Cond.codeWith_spec hcode
  cases Option.some.inj (hn8.symm.trans hnamed)
  cases hmethM.symm.trans hmethM'
  obtain ⟨c2, r2, m2, q1, q2, q3, q4, kP, hkP, hkPi⟩ := Cond.selects_spec hsel
  cases hcls.symm.trans q1
  cases (State.methodFound?_of_named hnamed hy).symm.trans q2
  cases hnamed.symm.trans q3
  have hselP : selectMethod e.platform s.vm cellB.cls mk = .method mk := by rw [Launch.admits_selectMethod X.admits]; exact q4
  obtain ⟨vm₁, X₁, hstep₁⟩ := X.invokevirtual hexec hown hlink hnamed hmethM hstM hkP hkPi hy (a := b) (cell := cellB) hcell
    (fun z h => by rw [h] at hobj; cases hobj) hselP hmethM habM hkP hkPi (g := g) hg (argsL := argsL) (rest := rest) (hlen _ hsigM) hstack hdg
  obtain ⟨v, B, X', hpost, hsteps⟩ := hK m meth c ⟨T.setVm vm₁, locs, cells, slots⟩ { g with stack := rest } (.invokevirtual index) mk (Value.ref b :: argsL).toArray X₁ hg hsize hdg hW (X₁.named hnamed) (hpre vm₁ X₁.warmed)
  exact ⟨v, vm₁, B, X₁.warmed, X', hpost, fun target h => hstep₁ _ fun acts => by rw [doInvoke_state]; exact hsteps.trans h⟩
abbrev vx_CVW (R : Room) (s : State) (args : Array Value) (own C : String) (index : Nat) (y : MethodName) (bytes : ByteArray) (maxL : Nat) (ret : Option FieldType) (hh : List (Nat × Nat × Nat × Nat)) (ws : List Cond) (rm : Room) (mc ms n : Nat) : Prop :=
  (rm.cells = mc ∧ rm.slots = ms ∧ rm.frames + 1 ≤ R.frames ∧ 8 + (maxL + 11) + rm.locals ≤ R.locals ∧ (∀ w ∈ ws, ∀ (a' : Array Value) (U : State), s.WarmedH U.vm → w.before a' U = true) ∧ Cond.codeWith y bytes maxL ret hh ∈ ws) ∧
  (Cond.codeWith y bytes maxL ret hh).before args s = true ∧ (Cond.initialized y.cls).before args s = true ∧ (y.cls ≠ "java/lang/invoke/MethodHandle" ∧ y.cls ≠ "java/lang/invoke/VarHandle") ∧
  (∀ sig, parseMethodDescriptor y.desc = some sig → n = sig.parameters.length) ∧ (Cond.methodLink own index y).before args s = true ∧ (Cond.instanceMethod y).before args s = true ∧ (Cond.selects C y y).before args s = true
theorem vx_cwVW {own C : String} {index maxL mc ms : Nat} {y : MethodName} {bytes : ByteArray} {ret : Option FieldType} {hh : List (Nat × Nat × Nat × Nat)} {Ts ws ws' : List Cond} {rm : Room} (n : Nat) (ht : ∀ w ∈ Ts, w.before args s = true) (hT : GoodIn Ts (wsV own index C y ws)) (hw : ws = Cond.codeWith y bytes maxL ret hh :: ws') (hrc : rm.cells = mc) (hrs : rm.slots = ms)
    (hd : y.cls = C ∧ y.cls ≠ "java/lang/invoke/MethodHandle" ∧ y.cls ≠ "java/lang/invoke/VarHandle" ∧ (parseMethodDescriptor y.desc).map (fun d => d.parameters.length) = some n) (hR : rm.frames + 1 ≤ R.frames ∧ 8 + (maxL + 11) + rm.locals ≤ R.locals) :
    vx_CVW R s args own C index y bytes maxL ret hh ws rm mc ms n := by
  obtain ⟨hC, hd⟩ := hd
  subst hC
  have ok : ∀ w ∈ wsV own index y.cls y ws, w.before args s = true := fun w h => ht w (hT w h).1
  have hG : GoodIn Ts ws := fun w h => hT w (by unfold wsV; exact List.mem_append_right _ h)
  have hc : Cond.codeWith y bytes maxL ret hh ∈ ws := by rw [hw]; exact List.mem_cons_self
  refine ⟨⟨hrc, hrs, hR.1, hR.2, pay_in ht hG, hc⟩, ht _ (hG _ hc).1, ok _ (by simp [wsV]), ⟨hd.1, hd.2.1⟩, fun sig h => ?_, ok _ (by simp [wsV]), ok _ (by simp [wsV]), ok _ (by simp [wsV])⟩
  have h2 := hd.2.2
  rw [h] at h2
  exact (Option.some.inj h2).symm
theorem vx_runVW {y : MethodName} {bytes cc : ByteArray} {maxL nL mc ms n index : Nat} {ret : Option FieldType} {hh : List (Nat × Nat × Nat × Nat)} {ws : List Cond} {rm : Room} {Pc : Array Value → State → Prop} {Qc : Array Value → State → Outcome → State → Prop} {free : Addr → Prop} {Ts : List Cond} {own C : String} {b : Addr} {As rest : List Value} {g : JFrame}
    (S : CallFix p m c cc nL s args Ts own) (hM : Met l y ws rm Pc Qc mc ms free) (cw : vx_CVW R s args own C index y bytes maxL ret hh ws rm mc ms n) (hp : PreV s H C b Pc As)
    (hg : g.method = m) (hn : As.length = n) (hsize : g.locals.size = nL) (hstack : g.stack = As.reverse ++ .ref b :: rest) (hW : 2 * g.monitorRoom + (rest.map fun v => v.category).sum ≤ 8) (hdg : decode cc g.pc = .ok (.invokevirtual index, 3)) (hf : cells + mc ≤ R.cells ∧ slots + ms ≤ R.slots) :
    va_Run p l e R s m args below meth c H locs cells slots mc ms g rest (Qc (Value.ref b :: As).toArray) free := by
  obtain ⟨⟨hrc, hrs, hfr, hlo, hws, hcw⟩, hcode, hini, hy, hlen, hl, hin, hse⟩ := cw
  have hK : Back l R p e below s args y 3 8 (PreOf R mc ms Pc) (PostOf Qc mc ms free) := va_backW (hh := hh) (bytes := bytes) (maxL := maxL) (ret := ret) hM hp.1 hrc hrs hfr hlo hws hcw (fun a' U hW => word_at hW (Or.inl (by first | rfl | simp [Cond.onTables, Cond.keeps, Cond.steady])) hini)
  obtain ⟨hx, hb, hml, ho, -⟩ := S
  obtain ⟨-, ⟨cellB, hcB, hoB, hclB⟩, hPc⟩ := hp
  intro T hT X
  obtain ⟨v, vm₁, ⟨U', l2, c2, s2⟩, hW₁, X', ⟨g', mk, t, L, e1, e2, hq, h1, hL, h2, h3⟩, st⟩ := vx_callVW X hx (C := C) (hh := hh) (bytes := bytes) (maxL := maxL) (ret := ret) ho hl hin hse hcode hy hK (by rw [hT]; exact hcB) hoB hclB hg (hsize.trans hml.symm) (argsL := As) (rest := rest) (fun sig h => hn.trans (hlen sig h)) hstack hW (by rw [hb]; exact hdg)
    (fun vm₁ hW₁ => ⟨hf.1, hf.2, hPc (T.setVm vm₁) hT hW₁⟩)
  dsimp only [Pt.U, Pt.locs, Pt.cells, Pt.slots] at X' e1 e2 h1 h2 h3 st
  subst h1; subst h2; subst h3
  exact ⟨v, (T.setVm vm₁).calling g' mk (Value.ref b :: As).toArray, t, U', L, hT, X', hL, e1, e2, hq, st⟩
section
variable {y : MethodName} {bytes cc : ByteArray} {maxL nL mc ms n index : Nat} {ret : Option FieldType} {ws : List Cond} {rm : Room} {Pc : Array Value → State → Prop} {Qc : Array Value → State → Outcome → State → Prop} {XC : String → State → State → Prop} {free : Addr → Prop} {Ts : List Cond} {own C : String} {b : Addr} {As rest : List Value} {g : JFrame}
theorem vx_runVX {hh : List (Nat × Nat × Nat × Nat)} (S : CallFix p m c cc nL s args Ts own) (hM : vx_Met l y ws rm Pc Qc XC mc ms free) (cw : vx_CVW R s args own C index y bytes maxL ret hh ws rm mc ms n) (hp : PreV s H C b Pc As)
    (hg : g.method = m) (hn : As.length = n) (hsize : g.locals.size = nL) (hstack : g.stack = As.reverse ++ .ref b :: rest) (hW : 2 * g.monitorRoom + (rest.map fun v => v.category).sum ≤ 8) (hdg : decode cc g.pc = .ok (.invokevirtual index, 3)) (hf : cells + mc ≤ R.cells ∧ slots + ms ≤ R.slots) :
    vx_Run p l e R s m args below meth c H locs cells slots mc ms g rest (Qc (Value.ref b :: As).toArray) XC free := by
  obtain ⟨⟨hrc, hrs, hfr, hlo, hws, hcw⟩, hcode, hini, hy, hlen, hl, hin, hse⟩ := cw
  have hK : vx_Back l R p e below s args y 3 8 (PreOf R mc ms Pc) (PostOf Qc mc ms free) (vx_Post XC mc ms free) := vx_backW (hh := hh) (bytes := bytes) (maxL := maxL) (ret := ret) hM hp.1 hrc hrs hfr hlo hws hcw (fun a' U hW => word_at hW (Or.inl (by first | rfl | simp [Cond.onTables, Cond.keeps, Cond.steady])) hini)
  obtain ⟨hx, hb, hml, ho, -⟩ := S
  obtain ⟨-, ⟨cellB, hcB, hoB, hclB⟩, hPc⟩ := hp
  intro T hT X
  rcases vx_callVX X hx (C := C) (hh := hh) (bytes := bytes) (maxL := maxL) (ret := ret) ho hl hin hse hcode hy hK (by rw [hT]; exact hcB) hoB hclB hg (hsize.trans hml.symm) (argsL := As) (rest := rest) (fun sig h => hn.trans (hlen sig h)) hstack hW (by rw [hb]; exact hdg)
    (fun vm₁ hW₁ => ⟨hf.1, hf.2, hPc (T.setVm vm₁) hT hW₁⟩) with ⟨v, vm₁, ⟨U', l2, c2, s2⟩, hW₁, X', ⟨g', mk, t, L, e1, e2, hq, h1, hL, h2, h3⟩, st⟩ | ⟨q, vm₁, ⟨U', l2, c2, s2⟩, hW₁, X', ⟨g', mk, t, L, E, ce, e1, e2, hq, hce, hcv, hcl, h1, hL, h2, h3⟩, st⟩
  · dsimp only [Pt.U, Pt.locs, Pt.cells, Pt.slots] at X' e1 e2 h1 h2 h3 st
    subst h1; subst h2; subst h3
    exact Or.inl ⟨v, (T.setVm vm₁).calling g' mk (Value.ref b :: As).toArray, t, U', L, hT, X', hL, e1, e2, hq, st⟩
  · dsimp only [Pt.U, Pt.locs, Pt.cells, Pt.slots] at X' e1 e2 h1 h2 h3 st hcl
    subst h1; subst h2; subst h3
    exact Or.inr ⟨q, (T.setVm vm₁).calling g' mk (Value.ref b :: As).toArray, t, U', L, E, ce, hT, X', hL, e1, e2, hq, hce, hcv, vx_cls hW₁ hcl, st⟩
theorem vx_runSX {hh : List (Nat × Nat × Nat × Nat)} (S : CallFix p m c cc nL s args Ts own) (hM : vx_Met l y ws rm Pc Qc XC mc ms free) (cw : vx_CSW R s args own index y bytes maxL ret hh ws rm mc ms n) (hp : PreS s H Pc As)
    (hg : g.method = m) (hn : As.length = n) (hsize : g.locals.size = nL) (hstack : g.stack = As.reverse ++ rest) (hW : 2 * g.monitorRoom + (rest.map fun v => v.category).sum ≤ 8) (hdg : decode cc g.pc = .ok (.invokestatic index, 3)) (hf : cells + mc ≤ R.cells ∧ slots + ms ≤ R.slots) :
    vx_Run p l e R s m args below meth c H locs cells slots mc ms g rest (Qc As.toArray) XC free := by
  obtain ⟨⟨hrc, hrs, hfr, hlo, hws, hcw⟩, hcode, hini, hy, hlen, hl, hstt⟩ := cw
  have hK : vx_Back l R p e below s args y 3 8 (PreOf R mc ms Pc) (PostOf Qc mc ms free) (vx_Post XC mc ms free) := vx_backW (hh := hh) (bytes := bytes) (maxL := maxL) (ret := ret) hM hp.1 hrc hrs hfr hlo hws hcw (fun a' U hW => word_at hW (Or.inl (by first | rfl | simp [Cond.onTables, Cond.keeps, Cond.steady])) hini)
  obtain ⟨hx, hb, hml, ho, -⟩ := S
  intro T hT X
  rcases vx_callSX X hx (hh := hh) (bytes := bytes) (maxL := maxL) (ret := ret) ho hl hstt hini hcode hy hK hg (hsize.trans hml.symm) (argsL := As) (rest := rest) (fun sig h => hn.trans (hlen sig h)) hstack hW (by rw [hb]; exact hdg)
    (fun vm₁ hW₁ => ⟨hf.1, hf.2, hp.2 (T.setVm vm₁) hT hW₁⟩) with ⟨v, vm₁, ⟨U', l2, c2, s2⟩, hW₁, X', ⟨g', mk, t, L, e1, e2, hq, h1, hL, h2, h3⟩, st⟩ | ⟨q, vm₁, ⟨U', l2, c2, s2⟩, hW₁, X', ⟨g', mk, t, L, E, ce, e1, e2, hq, hce, hcv, hcl, h1, hL, h2, h3⟩, st⟩
  · dsimp only [Pt.U, Pt.locs, Pt.cells, Pt.slots] at X' e1 e2 h1 h2 h3 st
    subst h1; subst h2; subst h3
    exact Or.inl ⟨v, (T.setVm vm₁).calling g' mk As.toArray, t, U', L, hT, X', hL, e1, e2, hq, st⟩
  · dsimp only [Pt.U, Pt.locs, Pt.cells, Pt.slots] at X' e1 e2 h1 h2 h3 st hcl
    subst h1; subst h2; subst h3
    exact Or.inr ⟨q, (T.setVm vm₁).calling g' mk As.toArray, t, U', L, E, ce, hT, X', hL, e1, e2, hq, hce, hcv, vx_cls hW₁ hcl, st⟩
end
end VXH
theorem vx_ofWH {l : Launch} {y : MethodName} {ws ws' : List Cond} {rm : Room} {Pc : Array Value → State → Prop} {Qc : Array Value → State → Outcome → State → Prop} {XC : String → State → State → Prop} {mc ms : Nat} {free : Addr → Prop} {cc : ByteArray} {maxL : Nat} {ret : Option FieldType} {hh : List (Nat × Nat × Nat × Nat)}
    (hy : plainName y.cls = true) (hw : ws = Cond.codeWith y cc maxL ret hh :: ws')
    (body : ∀ p e s m args below meth c s₁, BodyLoose p l y (headSpec ws rm) cc maxL ret e s m args below meth c s₁ → c.maxLocals = maxL → Pc args s →
      W p l e (headSpec ws rm).room s m args below meth c s.heap [] 0 0 (vx_MQ below Qc XC args s mc ms free) (entryFrame m args maxL)) : vx_Met l y ws rm Pc Qc XC mc ms free := by
  refine MetFree.of_bodyS (code := cc) (maxLocals := maxL) (ret := ret) hy ?_ ?_
  · intro args s m h hn
    obtain ⟨m9, meth, c, hn9, h1, h2, h3, h4, -, h5, h6, -⟩ := Cond.codeWith_spec (atoms_spec (ws := ws) h _ (by rw [hw]; exact List.mem_cons_self))
    cases hn.symm.trans hn9
    exact ⟨meth, c, h1, h2, h3, h4, h5, h6⟩
  · intro p e s m args below meth c s₁ B hml hP _
    have hh0 : s₁.heap = s.heap := by rw [B.state]; rfl
    obtain ⟨t, a1, o, b1, b2, b3⟩ := body p e s m args below meth c s₁ B hml hP s₁ hh0 (Stand.of_body B)
    exact ⟨t, o, a1, b1, b2, b3⟩
/-! ===== END ===== -/
end
section
/-! names of the seven members, their fields, their methods; the good words of the tables. Printed by wip/gen/gen03.py -/
abbrev jR_S : String := "KeyDistiller$Station"
def jF_S : u_T := fun k => match k with
  | 0 => ("KeyDistiller$Station", "noted", "[Z", true)
  | 1 => ("KeyDistiller$Station", "bases", "[I", true)
  | 2 => ("KeyDistiller$Station", "values", "[I", true)
  | 3 => ("KeyDistiller$Station", "seen", "[I", true)
  | 4 => ("KeyDistiller$Station", "string", "[I", true)
  | _ => ("KeyDistiller$Station", "notedInAll", "I", false)
def jt_S : Nat → FieldType := fun k => match k with
  | 0 => .array .boolean
  | 1 => .array .int
  | 2 => .array .int
  | 3 => .array .int
  | 4 => .array .int
  | _ => .int
theorem jn_S : ∀ a, a < 6 → ∀ b, b < 6 → a ≠ b → (jF_S a).2.1 ≠ (jF_S b).2.1 := by decide +kernel
theorem jo_S : ∀ k, k < 6 → parseFieldDescriptor (jF_S k).2.2.1 = some (jt_S k) := by decide +kernel
abbrev jR_G : String := "KeyDistiller$Drawing"
def jF_G : u_T := fun k => match k with
  | _ => ("KeyDistiller$Drawing", "state", "J", false)
def jt_G : Nat → FieldType := fun k => match k with
  | _ => .long
theorem jn_G : ∀ a, a < 1 → ∀ b, b < 1 → a ≠ b → (jF_G a).2.1 ≠ (jF_G b).2.1 := by decide +kernel
theorem jo_G : ∀ k, k < 1 → parseFieldDescriptor (jF_G k).2.2.1 = some (jt_G k) := by decide +kernel
abbrev jR_E : String := "KeyDistiller$Letters"
def jF_E : u_T := fun k => match k with
  | 0 => ("KeyDistiller$Letters", "kinds", "[I", true)
  | 1 => ("KeyDistiller$Letters", "numbers", "[I", true)
  | 2 => ("KeyDistiller$Letters", "parities", "[I", true)
  | _ => ("KeyDistiller$Letters", "count", "I", false)
def jt_E : Nat → FieldType := fun k => match k with
  | 0 => .array .int
  | 1 => .array .int
  | 2 => .array .int
  | _ => .int
theorem jn_E : ∀ a, a < 4 → ∀ b, b < 4 → a ≠ b → (jF_E a).2.1 ≠ (jF_E b).2.1 := by decide +kernel
theorem jo_E : ∀ k, k < 4 → parseFieldDescriptor (jF_E k).2.2.1 = some (jt_E k) := by decide +kernel
abbrev jR_D : String := "KeyDistiller$Dialogue"
def jF_D : u_T := fun k => match k with
  | 0 => ("KeyDistiller$Dialogue", "answerer", "LKeyDistiller$Station;", true)
  | 1 => ("KeyDistiller$Dialogue", "asker", "LKeyDistiller$Station;", true)
  | 2 => ("KeyDistiller$Dialogue", "letters", "LKeyDistiller$Letters;", true)
  | 3 => ("KeyDistiller$Dialogue", "orders", "[[I", true)
  | 4 => ("KeyDistiller$Dialogue", "known", "[[I", true)
  | 5 => ("KeyDistiller$Dialogue", "questions", "[I", true)
  | 6 => ("KeyDistiller$Dialogue", "newest", "I", false)
  | 7 => ("KeyDistiller$Dialogue", "newestMark", "I", false)
  | 8 => ("KeyDistiller$Dialogue", "disclosures", "I", false)
  | 9 => ("KeyDistiller$Dialogue", "current", "I", false)
  | 10 => ("KeyDistiller$Dialogue", "size", "I", false)
  | _ => ("KeyDistiller$Dialogue", "length", "I", false)
def jt_D : Nat → FieldType := fun k => match k with
  | 0 => .object "KeyDistiller$Station"
  | 1 => .object "KeyDistiller$Station"
  | 2 => .object "KeyDistiller$Letters"
  | 3 => .array (.array .int)
  | 4 => .array (.array .int)
  | 5 => .array .int
  | 6 => .int
  | 7 => .int
  | 8 => .int
  | 9 => .int
  | 10 => .int
  | _ => .int
theorem jn_D : ∀ a, a < 12 → ∀ b, b < 12 → a ≠ b → (jF_D a).2.1 ≠ (jF_D b).2.1 := by decide +kernel
theorem jo_D : ∀ k, k < 12 → parseFieldDescriptor (jF_D k).2.2.1 = some (jt_D k) := by decide +kernel
abbrev jR_K : String := "KeyDistiller"
def jF_K : u_T := fun k => match k with
  | 0 => ("KeyDistiller", "zero", "LKeyDistiller$Station;", true)
  | 1 => ("KeyDistiller", "one", "LKeyDistiller$Station;", true)
  | 2 => ("KeyDistiller", "drawing", "LKeyDistiller$Drawing;", true)
  | 3 => ("KeyDistiller", "dialogue", "LKeyDistiller$Dialogue;", true)
  | 4 => ("KeyDistiller", "shuffled", "[I", true)
  | 5 => ("KeyDistiller", "givenUp", "[I", true)
  | 6 => ("KeyDistiller", "keyDraws", "[I", true)
  | 7 => ("KeyDistiller", "length", "I", false)
  | 8 => ("KeyDistiller", "givenUpInAll", "I", false)
  | 9 => ("KeyDistiller", "differedInAll", "I", false)
  | _ => ("KeyDistiller", "keyLength", "I", false)
def jt_K : Nat → FieldType := fun k => match k with
  | 0 => .object "KeyDistiller$Station"
  | 1 => .object "KeyDistiller$Station"
  | 2 => .object "KeyDistiller$Drawing"
  | 3 => .object "KeyDistiller$Dialogue"
  | 4 => .array .int
  | 5 => .array .int
  | 6 => .array .int
  | 7 => .int
  | 8 => .int
  | 9 => .int
  | _ => .int
theorem jn_K : ∀ a, a < 11 → ∀ b, b < 11 → a ≠ b → (jF_K a).2.1 ≠ (jF_K b).2.1 := by decide +kernel
theorem jo_K : ∀ k, k < 11 → parseFieldDescriptor (jF_K k).2.2.1 = some (jt_K k) := by decide +kernel
abbrev jR_M : String := "KeyDistillerModel"
def jF_M : u_T := fun k => match k with
  | 0 => ("KeyDistillerModel", "thrown", "I", false)
  | 1 => ("KeyDistillerModel", "recorded", "[Z", true)
  | 2 => ("KeyDistillerModel", "basis", "[I", true)
  | 3 => ("KeyDistillerModel", "value", "[I", true)
  | 4 => ("KeyDistillerModel", "saw", "[Z", true)
  | 5 => ("KeyDistillerModel", "sifted", "Z", false)
  | 6 => ("KeyDistillerModel", "length", "I", false)
  | 7 => ("KeyDistillerModel", "string", "[I", true)
  | 8 => ("KeyDistillerModel", "given", "I", false)
  | 9 => ("KeyDistillerModel", "differed", "I", false)
  | 10 => ("KeyDistillerModel", "s", "J", false)
  | 11 => ("KeyDistillerModel", "shuffled", "[I", true)
  | 12 => ("KeyDistillerModel", "leaves", "[Z", true)
  | 13 => ("KeyDistillerModel", "begun", "Z", false)
  | 14 => ("KeyDistillerModel", "size", "I", false)
  | 15 => ("KeyDistillerModel", "inPass", "I", false)
  | 16 => ("KeyDistillerModel", "order", "[I", true)
  | 17 => ("KeyDistillerModel", "asked", "I", false)
  | 18 => ("KeyDistillerModel", "learned", "I", false)
  | 19 => ("KeyDistillerModel", "answers", "I", false)
  | 20 => ("KeyDistillerModel", "askedPass", "[I", true)
  | 21 => ("KeyDistillerModel", "askedFrom", "[I", true)
  | 22 => ("KeyDistillerModel", "askedTo", "[I", true)
  | 23 => ("KeyDistillerModel", "parity", "[I", true)
  | 24 => ("KeyDistillerModel", "letters", "I", false)
  | 25 => ("KeyDistillerModel", "isAnswer", "[Z", true)
  | 26 => ("KeyDistillerModel", "number", "[I", true)
  | 27 => ("KeyDistillerModel", "bitOf", "[I", true)
  | 28 => ("KeyDistillerModel", "keyLength", "I", false)
  | 29 => ("KeyDistillerModel", "keys", "[I", true)
  | _ => ("KeyDistillerModel", "drawn", "[I", true)
def jt_M : Nat → FieldType := fun k => match k with
  | 0 => .int
  | 1 => .array .boolean
  | 2 => .array .int
  | 3 => .array .int
  | 4 => .array .boolean
  | 5 => .boolean
  | 6 => .int
  | 7 => .array .int
  | 8 => .int
  | 9 => .int
  | 10 => .long
  | 11 => .array .int
  | 12 => .array .boolean
  | 13 => .boolean
  | 14 => .int
  | 15 => .int
  | 16 => .array .int
  | 17 => .int
  | 18 => .int
  | 19 => .int
  | 20 => .array .int
  | 21 => .array .int
  | 22 => .array .int
  | 23 => .array .int
  | 24 => .int
  | 25 => .array .boolean
  | 26 => .array .int
  | 27 => .array .int
  | 28 => .int
  | 29 => .array .int
  | _ => .array .int
theorem jn_M : ∀ a, a < 31 → ∀ b, b < 31 → a ≠ b → (jF_M a).2.1 ≠ (jF_M b).2.1 := by decide +kernel
theorem jo_M : ∀ k, k < 31 → parseFieldDescriptor (jF_M k).2.2.1 = some (jt_M k) := by decide +kernel
abbrev jR_L : String := "KeyDistillerLaw"
abbrev jCl : List vw_C := [(jR_S, jF_S, 6), (jR_G, jF_G, 1), (jR_E, jF_E, 4), (jR_D, jF_D, 12), (jR_K, jF_K, 11), (jR_M, jF_M, 31)]
abbrev jb_K_init : ByteArray := prog_1_method_1_code
abbrev jy_K_init : MethodName := ⟨"KeyDistiller", "<init>", "()V"⟩
abbrev jb_S_init : ByteArray := prog_5_method_1_code
abbrev jy_S_init : MethodName := ⟨"KeyDistiller$Station", "<init>", "()V"⟩
abbrev jb_G_init : ByteArray := prog_3_method_1_code
abbrev jy_G_init : MethodName := ⟨"KeyDistiller$Drawing", "<init>", "()V"⟩
abbrev jb_D_init : ByteArray := prog_2_method_1_code
abbrev jy_D_init : MethodName := ⟨"KeyDistiller$Dialogue", "<init>", "(LKeyDistiller$Station;LKeyDistiller$Station;)V"⟩
abbrev jb_E_init : ByteArray := prog_4_method_1_code
abbrev jy_E_init : MethodName := ⟨"KeyDistiller$Letters", "<init>", "()V"⟩
abbrev jb_K_length : ByteArray := prog_1_method_4_code
abbrev jy_K_length : MethodName := ⟨"KeyDistiller", "length", "()I"⟩
abbrev jb_K_sampled : ByteArray := prog_1_method_6_code
abbrev jy_K_sampled : MethodName := ⟨"KeyDistiller", "sampled", "(I)I"⟩
abbrev jb_K_told : ByteArray := prog_1_method_9_code
abbrev jy_K_told : MethodName := ⟨"KeyDistiller", "told", "(II)I"⟩
abbrev jb_E_has : ByteArray := prog_4_method_2_code
abbrev jy_E_has : MethodName := ⟨"KeyDistiller$Letters", "has", "(I)Z"⟩
abbrev jb_D_tell : ByteArray := prog_2_method_8_code
abbrev jy_D_tell : MethodName := ⟨"KeyDistiller$Dialogue", "tell", "(II)I"⟩
abbrev jb_D_passOf : ByteArray := prog_2_method_5_code
abbrev jy_D_passOf : MethodName := ⟨"KeyDistiller$Dialogue", "passOf", "(I)I"⟩
abbrev jb_D_fromOf : ByteArray := prog_2_method_6_code
abbrev jy_D_fromOf : MethodName := ⟨"KeyDistiller$Dialogue", "fromOf", "(I)I"⟩
abbrev jb_D_toOf : ByteArray := prog_2_method_7_code
abbrev jy_D_toOf : MethodName := ⟨"KeyDistiller$Dialogue", "toOf", "(I)I"⟩
abbrev jb_K_done : ByteArray := prog_1_method_11_code
abbrev jy_K_done : MethodName := ⟨"KeyDistiller", "done", "()Z"⟩
abbrev jb_D_isOver : ByteArray := prog_2_method_3_code
abbrev jy_D_isOver : MethodName := ⟨"KeyDistiller$Dialogue", "isOver", "()Z"⟩
abbrev jb_K_pass : ByteArray := prog_1_method_12_code
abbrev jy_K_pass : MethodName := ⟨"KeyDistiller", "pass", "()I"⟩
abbrev jb_K_disclosed : ByteArray := prog_1_method_13_code
abbrev jy_K_disclosed : MethodName := ⟨"KeyDistiller", "disclosed", "()I"⟩
abbrev jb_K_answered : ByteArray := prog_1_method_14_code
abbrev jy_K_answered : MethodName := ⟨"KeyDistiller", "answered", "(I)I"⟩
abbrev jb_L_record : ByteArray := method_3_code
abbrev jy_L_record : MethodName := ⟨"KeyDistillerLaw", "record", "(LKeyDistiller;IIIIII[J)I"⟩
abbrev jb_K_record : ByteArray := prog_1_method_2_code
abbrev jy_K_record : MethodName := ⟨"KeyDistiller", "record", "(IIIIII)I"⟩
abbrev jb_K_isStation : ByteArray := prog_1_method_21_code
abbrev jy_K_isStation : MethodName := ⟨"KeyDistiller", "isStation", "(I)Z"⟩
abbrev jb_K_stationOf : ByteArray := prog_1_method_22_code
abbrev jy_K_stationOf : MethodName := ⟨"KeyDistiller", "stationOf", "(I)LKeyDistiller$Station;"⟩
abbrev jb_K_isSifted : ByteArray := prog_1_method_20_code
abbrev jy_K_isSifted : MethodName := ⟨"KeyDistiller", "isSifted", "()Z"⟩
abbrev jb_S_hasAnyOf : ByteArray := prog_5_method_2_code
abbrev jy_S_hasAnyOf : MethodName := ⟨"KeyDistiller$Station", "hasAnyOf", "(II)Z"⟩
abbrev jb_S_note : ByteArray := prog_5_method_3_code
abbrev jy_S_note : MethodName := ⟨"KeyDistiller$Station", "note", "(IIIII)V"⟩
abbrev jb_L_sift : ByteArray := method_4_code
abbrev jy_L_sift : MethodName := ⟨"KeyDistillerLaw", "sift", "(LKeyDistiller;[J)I"⟩
abbrev jb_K_sift : ByteArray := prog_1_method_3_code
abbrev jy_K_sift : MethodName := ⟨"KeyDistiller", "sift", "()I"⟩
abbrev jb_K_isKept : ByteArray := prog_1_method_24_code
abbrev jy_K_isKept : MethodName := ⟨"KeyDistiller", "isKept", "(I)Z"⟩
abbrev jb_L_sample : ByteArray := method_5_code
abbrev jy_L_sample : MethodName := ⟨"KeyDistillerLaw", "sample", "(LKeyDistiller;JI[J)I"⟩
abbrev jb_K_sample : ByteArray := prog_1_method_5_code
abbrev jy_K_sample : MethodName := ⟨"KeyDistiller", "sample", "(JI)I"⟩
abbrev jb_D_isBegun : ByteArray := prog_2_method_2_code
abbrev jy_D_isBegun : MethodName := ⟨"KeyDistiller$Dialogue", "isBegun", "()Z"⟩
abbrev jb_G_shuffle : ByteArray := prog_3_method_6_code
abbrev jy_G_shuffle : MethodName := ⟨"KeyDistiller$Drawing", "shuffle", "(JI[I)V"⟩
abbrev jb_G_restart : ByteArray := prog_3_method_2_code
abbrev jy_G_restart : MethodName := ⟨"KeyDistiller$Drawing", "restart", "(J)V"⟩
abbrev jb_G_drawBelow : ByteArray := prog_3_method_5_code
abbrev jy_G_drawBelow : MethodName := ⟨"KeyDistiller$Drawing", "drawBelow", "(I)I"⟩
abbrev jb_G_advance : ByteArray := prog_3_method_3_code
abbrev jy_G_advance : MethodName := ⟨"KeyDistiller$Drawing", "advance", "()V"⟩
abbrev jb_Arrays_fill : ByteArray := prog_17_method_103_code
abbrev jy_Arrays_fill : MethodName := ⟨"java/util/Arrays", "fill", "([II)V"⟩
abbrev jb_S_leaveOut : ByteArray := prog_5_method_4_code
abbrev jy_S_leaveOut : MethodName := ⟨"KeyDistiller$Station", "leaveOut", "([II)V"⟩
abbrev jb_L_start : ByteArray := method_6_code
abbrev jy_L_start : MethodName := ⟨"KeyDistillerLaw", "start", "(LKeyDistiller;IJ[J)I"⟩
abbrev jb_K_start : ByteArray := prog_1_method_7_code
abbrev jy_K_start : MethodName := ⟨"KeyDistiller", "start", "(IJ)I"⟩
abbrev jb_D_begin : ByteArray := prog_2_method_4_code
abbrev jy_D_begin : MethodName := ⟨"KeyDistiller$Dialogue", "begin", "(II)V"⟩
abbrev jb_D_goOn : ByteArray := prog_2_method_14_code
abbrev jy_D_goOn : MethodName := ⟨"KeyDistiller$Dialogue", "goOn", "()V"⟩
abbrev jb_D_askForBlock : ByteArray := prog_2_method_15_code
abbrev jy_D_askForBlock : MethodName := ⟨"KeyDistiller$Dialogue", "askForBlock", "()Z"⟩
abbrev jb_D_blockCount : ByteArray := prog_2_method_21_code
abbrev jy_D_blockCount : MethodName := ⟨"KeyDistiller$Dialogue", "blockCount", "(I)I"⟩
abbrev jb_D_blockSize : ByteArray := prog_2_method_20_code
abbrev jy_D_blockSize : MethodName := ⟨"KeyDistiller$Dialogue", "blockSize", "(I)I"⟩
abbrev jb_D_blockEnd : ByteArray := prog_2_method_22_code
abbrev jy_D_blockEnd : MethodName := ⟨"KeyDistiller$Dialogue", "blockEnd", "(II)I"⟩
abbrev jb_D_ask : ByteArray := prog_2_method_13_code
abbrev jy_D_ask : MethodName := ⟨"KeyDistiller$Dialogue", "ask", "(IIII)V"⟩
abbrev jb_E_send : ByteArray := prog_4_method_3_code
abbrev jy_E_send : MethodName := ⟨"KeyDistiller$Letters", "send", "(III)V"⟩
abbrev jb_D_mendOrMoveOn : ByteArray := prog_2_method_16_code
abbrev jy_D_mendOrMoveOn : MethodName := ⟨"KeyDistiller$Dialogue", "mendOrMoveOn", "()Z"⟩
abbrev jb_D_smallestOddBlock : ByteArray := prog_2_method_17_code
abbrev jy_D_smallestOddBlock : MethodName := ⟨"KeyDistiller$Dialogue", "smallestOddBlock", "()I"⟩
abbrev jb_D_isOdd : ByteArray := prog_2_method_19_code
abbrev jy_D_isOdd : MethodName := ⟨"KeyDistiller$Dialogue", "isOdd", "(IIII)Z"⟩
abbrev jb_S_parity : ByteArray := prog_5_method_5_code
abbrev jy_S_parity : MethodName := ⟨"KeyDistiller$Station", "parity", "([III)I"⟩
abbrev jb_D_search : ByteArray := prog_2_method_18_code
abbrev jy_D_search : MethodName := ⟨"KeyDistiller$Dialogue", "search", "(II)Z"⟩
abbrev jb_L_letter : ByteArray := method_7_code
abbrev jy_L_letter : MethodName := ⟨"KeyDistillerLaw", "letter", "(LKeyDistiller;II[J)I"⟩
abbrev jb_K_letter : ByteArray := prog_1_method_8_code
abbrev jy_K_letter : MethodName := ⟨"KeyDistiller", "letter", "(II)I"⟩
abbrev jb_D_deliver : ByteArray := prog_2_method_9_code
abbrev jy_D_deliver : MethodName := ⟨"KeyDistiller$Dialogue", "deliver", "(I)V"⟩
abbrev jb_E_takeOut : ByteArray := prog_4_method_4_code
abbrev jy_E_takeOut : MethodName := ⟨"KeyDistiller$Letters", "takeOut", "(I)V"⟩
abbrev jb_D_answer : ByteArray := prog_2_method_10_code
abbrev jy_D_answer : MethodName := ⟨"KeyDistiller$Dialogue", "answer", "(I)V"⟩
abbrev jb_D_isNewestUnknown : ByteArray := prog_2_method_11_code
abbrev jy_D_isNewestUnknown : MethodName := ⟨"KeyDistiller$Dialogue", "isNewestUnknown", "()Z"⟩
abbrev jb_L_tick : ByteArray := method_8_code
abbrev jy_L_tick : MethodName := ⟨"KeyDistillerLaw", "tick", "(LKeyDistiller;[J)I"⟩
abbrev jb_K_tick : ByteArray := prog_1_method_10_code
abbrev jy_K_tick : MethodName := ⟨"KeyDistiller", "tick", "()I"⟩
abbrev jb_D_askAgain : ByteArray := prog_2_method_12_code
abbrev jy_D_askAgain : MethodName := ⟨"KeyDistiller$Dialogue", "askAgain", "()V"⟩
abbrev jb_L_bit : ByteArray := method_9_code
abbrev jy_L_bit : MethodName := ⟨"KeyDistillerLaw", "bit", "(LKeyDistiller;II[J)I"⟩
abbrev jb_K_bit : ByteArray := prog_1_method_15_code
abbrev jy_K_bit : MethodName := ⟨"KeyDistiller", "bit", "(II)I"⟩
abbrev jb_L_item : ByteArray := method_10_code
abbrev jy_L_item : MethodName := ⟨"KeyDistillerLaw", "item", "(LKeyDistiller;II[J)I"⟩
abbrev jb_K_item : ByteArray := prog_1_method_16_code
abbrev jy_K_item : MethodName := ⟨"KeyDistiller", "item", "(II)I"⟩
abbrev jb_L_tag : ByteArray := method_11_code
abbrev jy_L_tag : MethodName := ⟨"KeyDistillerLaw", "tag", "(LKeyDistiller;II[J)I"⟩
abbrev jb_K_tag : ByteArray := prog_1_method_17_code
abbrev jy_K_tag : MethodName := ⟨"KeyDistiller", "tag", "(II)I"⟩
abbrev jb_K_isTagNumber : ByteArray := prog_1_method_23_code
abbrev jy_K_isTagNumber : MethodName := ⟨"KeyDistiller", "isTagNumber", "(I)Z"⟩
abbrev jb_S_tagWith : ByteArray := prog_5_method_6_code
abbrev jy_S_tagWith : MethodName := ⟨"KeyDistiller$Station", "tagWith", "(II)I"⟩
abbrev jb_S_word : ByteArray := prog_5_method_7_code
abbrev jy_S_word : MethodName := ⟨"KeyDistiller$Station", "word", "(II)I"⟩
abbrev jb_S_product : ByteArray := prog_5_method_8_code
abbrev jy_S_product : MethodName := ⟨"KeyDistiller$Station", "product", "(II)I"⟩
abbrev jb_L_shorten : ByteArray := method_12_code
abbrev jy_L_shorten : MethodName := ⟨"KeyDistillerLaw", "shorten", "(LKeyDistiller;JII[J)I"⟩
abbrev jb_K_shorten : ByteArray := prog_1_method_18_code
abbrev jy_K_shorten : MethodName := ⟨"KeyDistiller", "shorten", "(JII)I"⟩
abbrev jb_G_drawBit : ByteArray := prog_3_method_4_code
abbrev jy_G_drawBit : MethodName := ⟨"KeyDistiller$Drawing", "drawBit", "()I"⟩
abbrev jb_L_key : ByteArray := method_13_code
abbrev jy_L_key : MethodName := ⟨"KeyDistillerLaw", "key", "(LKeyDistiller;II[J)I"⟩
abbrev jb_K_key : ByteArray := prog_1_method_19_code
abbrev jy_K_key : MethodName := ⟨"KeyDistiller", "key", "(II)I"⟩
abbrev jb_M_init : ByteArray := prog_7_method_1_code
abbrev jy_M_init : MethodName := ⟨"KeyDistillerModel", "<init>", "()V"⟩
abbrev jb_M_thrown : ByteArray := prog_7_method_2_code
abbrev jy_M_thrown : MethodName := ⟨"KeyDistillerModel", "thrown", "()I"⟩
abbrev jb_M_record : ByteArray := prog_7_method_6_code
abbrev jy_M_record : MethodName := ⟨"KeyDistillerModel", "record", "(IIIIII)I"⟩
abbrev jb_M_isStation : ByteArray := prog_7_method_5_code
abbrev jy_M_isStation : MethodName := ⟨"KeyDistillerModel", "isStation", "(I)Z"⟩
abbrev jb_M_within : ByteArray := prog_7_method_4_code
abbrev jy_M_within : MethodName := ⟨"KeyDistillerModel", "within", "(III)Z"⟩
abbrev jb_M_refuse : ByteArray := prog_7_method_3_code
abbrev jy_M_refuse : MethodName := ⟨"KeyDistillerModel", "refuse", "(I)I"⟩
abbrev jb_M_sift : ByteArray := prog_7_method_7_code
abbrev jy_M_sift : MethodName := ⟨"KeyDistillerModel", "sift", "()I"⟩
abbrev jb_M_length : ByteArray := prog_7_method_8_code
abbrev jy_M_length : MethodName := ⟨"KeyDistillerModel", "length", "()I"⟩
abbrev jb_M_sample : ByteArray := prog_7_method_12_code
abbrev jy_M_sample : MethodName := ⟨"KeyDistillerModel", "sample", "(JI)I"⟩
abbrev jb_M_shuffle : ByteArray := prog_7_method_11_code
abbrev jy_M_shuffle : MethodName := ⟨"KeyDistillerModel", "shuffle", "(IJ)V"⟩
abbrev jb_M_draw : ByteArray := prog_7_method_10_code
abbrev jy_M_draw : MethodName := ⟨"KeyDistillerModel", "draw", "(I)I"⟩
abbrev jb_M_turn : ByteArray := prog_7_method_9_code
abbrev jy_M_turn : MethodName := ⟨"KeyDistillerModel", "turn", "()V"⟩
abbrev jb_M_sampled : ByteArray := prog_7_method_13_code
abbrev jy_M_sampled : MethodName := ⟨"KeyDistillerModel", "sampled", "(I)I"⟩
abbrev jb_M_start : ByteArray := prog_7_method_14_code
abbrev jy_M_start : MethodName := ⟨"KeyDistillerModel", "start", "(IJ)I"⟩
abbrev jb_M_goOn : ByteArray := prog_7_method_23_code
abbrev jy_M_goOn : MethodName := ⟨"KeyDistillerModel", "goOn", "()V"⟩
abbrev jb_M_asksForBlock : ByteArray := prog_7_method_21_code
abbrev jy_M_asksForBlock : MethodName := ⟨"KeyDistillerModel", "asksForBlock", "()Z"⟩
abbrev jb_M_end : ByteArray := prog_7_method_20_code
abbrev jy_M_end : MethodName := ⟨"KeyDistillerModel", "end", "(II)I"⟩
abbrev jb_M_blockSize : ByteArray := prog_7_method_19_code
abbrev jy_M_blockSize : MethodName := ⟨"KeyDistillerModel", "blockSize", "(I)I"⟩
abbrev jb_M_known : ByteArray := prog_7_method_16_code
abbrev jy_M_known : MethodName := ⟨"KeyDistillerModel", "known", "(III)I"⟩
abbrev jb_M_ask : ByteArray := prog_7_method_17_code
abbrev jy_M_ask : MethodName := ⟨"KeyDistillerModel", "ask", "(III)V"⟩
abbrev jb_M_send : ByteArray := prog_7_method_18_code
abbrev jy_M_send : MethodName := ⟨"KeyDistillerModel", "send", "(ZII)V"⟩
abbrev jb_M_search : ByteArray := prog_7_method_22_code
abbrev jy_M_search : MethodName := ⟨"KeyDistillerModel", "search", "()I"⟩
abbrev jb_M_parityAt : ByteArray := prog_7_method_15_code
abbrev jy_M_parityAt : MethodName := ⟨"KeyDistillerModel", "parityAt", "(IIII)I"⟩
abbrev jb_M_letter : ByteArray := prog_7_method_24_code
abbrev jy_M_letter : MethodName := ⟨"KeyDistillerModel", "letter", "(II)I"⟩
abbrev jb_M_comes : ByteArray := prog_7_method_25_code
abbrev jy_M_comes : MethodName := ⟨"KeyDistillerModel", "comes", "(ZII)V"⟩
abbrev jb_M_told : ByteArray := prog_7_method_26_code
abbrev jy_M_told : MethodName := ⟨"KeyDistillerModel", "told", "(II)I"⟩
abbrev jb_M_tick : ByteArray := prog_7_method_27_code
abbrev jy_M_tick : MethodName := ⟨"KeyDistillerModel", "tick", "()I"⟩
abbrev jb_M_done : ByteArray := prog_7_method_28_code
abbrev jy_M_done : MethodName := ⟨"KeyDistillerModel", "done", "()Z"⟩
abbrev jb_M_pass : ByteArray := prog_7_method_29_code
abbrev jy_M_pass : MethodName := ⟨"KeyDistillerModel", "pass", "()I"⟩
abbrev jb_M_disclosed : ByteArray := prog_7_method_30_code
abbrev jy_M_disclosed : MethodName := ⟨"KeyDistillerModel", "disclosed", "()I"⟩
abbrev jb_M_answered : ByteArray := prog_7_method_31_code
abbrev jy_M_answered : MethodName := ⟨"KeyDistillerModel", "answered", "(I)I"⟩
abbrev jb_M_bit : ByteArray := prog_7_method_32_code
abbrev jy_M_bit : MethodName := ⟨"KeyDistillerModel", "bit", "(II)I"⟩
abbrev jb_M_item : ByteArray := prog_7_method_33_code
abbrev jy_M_item : MethodName := ⟨"KeyDistillerModel", "item", "(II)I"⟩
abbrev jb_M_tag : ByteArray := prog_7_method_36_code
abbrev jy_M_tag : MethodName := ⟨"KeyDistillerModel", "tag", "(II)I"⟩
abbrev jb_M_tagOf : ByteArray := prog_7_method_35_code
abbrev jy_M_tagOf : MethodName := ⟨"KeyDistillerModel", "tagOf", "(II)I"⟩
abbrev jb_M_product : ByteArray := prog_7_method_34_code
abbrev jy_M_product : MethodName := ⟨"KeyDistillerModel", "product", "(II)I"⟩
abbrev jb_M_shorten : ByteArray := prog_7_method_37_code
abbrev jy_M_shorten : MethodName := ⟨"KeyDistillerModel", "shorten", "(JII)I"⟩
abbrev jb_M_key : ByteArray := prog_7_method_38_code
abbrev jy_M_key : MethodName := ⟨"KeyDistillerModel", "key", "(II)I"⟩
/-- the good words of the tables -/
def jT : List Cond := lw_tbl.filter (fun w => goodWord w)
theorem jG {x y : Cond} (hy : y ∈ jT) : GoodIn (x :: jT) (y :: jT) := by
  intro w h
  rcases List.mem_cons.mp h with rfl | h
  · exact ⟨List.mem_cons_of_mem _ hy, good_of_word (List.mem_filter.mp hy).2⟩
  · exact ⟨List.mem_cons_of_mem _ h, good_of_word (List.mem_filter.mp h).2⟩
theorem jm_i {w : Cond} (i : Nat) (h : tables_1[i]? = some w) (hg : goodWord w = true) : w ∈ jT := List.mem_filter.mpr ⟨List.mem_append_right _ (List.mem_of_getElem? h), hg⟩
theorem jm_s {w : Cond} (i : Nat) (h : (k2_sels lw_privs)[i]? = some w) (hg : goodWord w = true) : w ∈ jT := List.mem_filter.mpr ⟨List.mem_append_left _ (List.mem_of_getElem? h), hg⟩
theorem jm_0 : (Cond.initialized "KeyDistillerLaw") ∈ jT := jm_i 0 (by decide +kernel) (by decide +kernel)
theorem jm_1 : (Cond.initialized "KeyDistiller") ∈ jT := jm_i 1 (by decide +kernel) (by decide +kernel)
theorem jm_2 : (Cond.initialized "KeyDistiller$Station") ∈ jT := jm_i 2 (by decide +kernel) (by decide +kernel)
theorem jm_3 : (Cond.initialized "KeyDistiller$Drawing") ∈ jT := jm_i 3 (by decide +kernel) (by decide +kernel)
theorem jm_4 : (Cond.initialized "KeyDistiller$Dialogue") ∈ jT := jm_i 4 (by decide +kernel) (by decide +kernel)
theorem jm_5 : (Cond.initialized "KeyDistiller$Letters") ∈ jT := jm_i 5 (by decide +kernel) (by decide +kernel)
theorem jm_6 : (Cond.initialized "KeyDistillerModel") ∈ jT := jm_i 6 (by decide +kernel) (by decide +kernel)
theorem jm_7 : (Cond.initialized "java/lang/Throwable") ∈ jT := jm_i 7 (by decide +kernel) (by decide +kernel)
theorem jm_8 : (Cond.initialized "java/lang/Exception") ∈ jT := jm_i 8 (by decide +kernel) (by decide +kernel)
theorem jm_9 : (Cond.initialized "java/lang/RuntimeException") ∈ jT := jm_i 9 (by decide +kernel) (by decide +kernel)
theorem jm_10 : (Cond.initialized "java/lang/IllegalArgumentException") ∈ jT := jm_i 10 (by decide +kernel) (by decide +kernel)
theorem jm_11 : (Cond.initialized "java/lang/IllegalStateException") ∈ jT := jm_i 11 (by decide +kernel) (by decide +kernel)
theorem jm_12 : (Cond.initialized "java/util/Arrays") ∈ jT := jm_i 12 (by decide +kernel) (by decide +kernel)
theorem jm_13 : (Cond.initialized "java/lang/Math") ∈ jT := jm_i 13 (by decide +kernel) (by decide +kernel)
theorem jm_14 : (Cond.initialized "java/lang/IndexOutOfBoundsException") ∈ jT := jm_i 14 (by decide +kernel) (by decide +kernel)
theorem jm_15 : (Cond.initialized "java/lang/UnsupportedOperationException") ∈ jT := jm_i 15 (by decide +kernel) (by decide +kernel)
theorem jm_16 : (Cond.classLink "KeyDistillerLaw" 8 "KeyDistiller") ∈ jT := jm_i 16 (by decide +kernel) (by decide +kernel)
theorem jm_17 : (Cond.instantiable "KeyDistiller" 11) ∈ jT := jm_i 17 (by decide +kernel) (by decide +kernel)
theorem jm_18 : (Cond.methodLink "KeyDistillerLaw" 56 ⟨"KeyDistiller", "<init>", "()V"⟩) ∈ jT := jm_i 18 (by decide +kernel) (by decide +kernel)
theorem jm_19 : (Cond.instanceMethod ⟨"KeyDistiller", "<init>", "()V"⟩) ∈ jT := jm_i 19 (by decide +kernel) (by decide +kernel)
theorem jm_20 : (Cond.code ⟨"KeyDistiller", "<init>", "()V"⟩ prog_1_method_1_code 1 none) ∈ jT := jm_i 20 (by decide +kernel) (by decide +kernel)
theorem jm_21 : (Cond.methodLink "KeyDistiller" 1 ⟨"java/lang/Object", "<init>", "()V"⟩) ∈ jT := jm_i 21 (by decide +kernel) (by decide +kernel)
theorem jm_22 : (Cond.instanceMethod ⟨"java/lang/Object", "<init>", "()V"⟩) ∈ jT := jm_i 22 (by decide +kernel) (by decide +kernel)
theorem jm_23 : (Cond.code ⟨"java/lang/Object", "<init>", "()V"⟩ object_method_1_code 1 none) ∈ jT := jm_i 23 (by decide +kernel) (by decide +kernel)
theorem jm_24 : (Cond.classLink "KeyDistiller" 7 "KeyDistiller$Station") ∈ jT := jm_i 24 (by decide +kernel) (by decide +kernel)
theorem jm_25 : (Cond.instantiable "KeyDistiller$Station" 6) ∈ jT := jm_i 25 (by decide +kernel) (by decide +kernel)
theorem jm_27 : (Cond.instanceMethod ⟨"KeyDistiller$Station", "<init>", "()V"⟩) ∈ jT := jm_i 27 (by decide +kernel) (by decide +kernel)
theorem jm_28 : (Cond.code ⟨"KeyDistiller$Station", "<init>", "()V"⟩ prog_5_method_1_code 1 none) ∈ jT := jm_i 28 (by decide +kernel) (by decide +kernel)
theorem jm_29 : (Cond.methodLink "KeyDistiller$Station" 3 ⟨"java/lang/Object", "<init>", "()V"⟩) ∈ jT := jm_i 29 (by decide +kernel) (by decide +kernel)
theorem jm_30 : (Cond.fieldLink "KeyDistiller$Station" 9 "KeyDistiller$Station" "noted" "[Z") ∈ jT := jm_i 30 (by decide +kernel) (by decide +kernel)
theorem jm_32 : (Cond.fieldLink "KeyDistiller$Station" 15 "KeyDistiller$Station" "bases" "[I") ∈ jT := jm_i 32 (by decide +kernel) (by decide +kernel)
theorem jm_34 : (Cond.fieldLink "KeyDistiller$Station" 19 "KeyDistiller$Station" "values" "[I") ∈ jT := jm_i 34 (by decide +kernel) (by decide +kernel)
theorem jm_36 : (Cond.fieldLink "KeyDistiller$Station" 22 "KeyDistiller$Station" "seen" "[I") ∈ jT := jm_i 36 (by decide +kernel) (by decide +kernel)
theorem jm_38 : (Cond.fieldLink "KeyDistiller$Station" 25 "KeyDistiller$Station" "string" "[I") ∈ jT := jm_i 38 (by decide +kernel) (by decide +kernel)
theorem jm_42 : (Cond.fieldLink "KeyDistiller$Station" 28 "KeyDistiller$Station" "notedInAll" "I") ∈ jT := jm_i 42 (by decide +kernel) (by decide +kernel)
theorem jm_56 : (Cond.arrayClass .boolean) ∈ jT := jm_i 56 (by decide +kernel) (by decide +kernel)
theorem jm_57 : (Cond.arrayClass .int) ∈ jT := jm_i 57 (by decide +kernel) (by decide +kernel)
theorem jm_58 : (Cond.classLink "KeyDistiller" 19 "KeyDistiller$Drawing") ∈ jT := jm_i 58 (by decide +kernel) (by decide +kernel)
theorem jm_59 : (Cond.instantiable "KeyDistiller$Drawing" 1) ∈ jT := jm_i 59 (by decide +kernel) (by decide +kernel)
theorem jm_61 : (Cond.instanceMethod ⟨"KeyDistiller$Drawing", "<init>", "()V"⟩) ∈ jT := jm_i 61 (by decide +kernel) (by decide +kernel)
theorem jm_62 : (Cond.code ⟨"KeyDistiller$Drawing", "<init>", "()V"⟩ prog_3_method_1_code 1 none) ∈ jT := jm_i 62 (by decide +kernel) (by decide +kernel)
theorem jm_63 : (Cond.methodLink "KeyDistiller$Drawing" 1 ⟨"java/lang/Object", "<init>", "()V"⟩) ∈ jT := jm_i 63 (by decide +kernel) (by decide +kernel)
theorem jm_64 : (Cond.fieldLink "KeyDistiller$Drawing" 7 "KeyDistiller$Drawing" "state" "J") ∈ jT := jm_i 64 (by decide +kernel) (by decide +kernel)
theorem jm_68 : (Cond.classLink "KeyDistiller" 26 "KeyDistiller$Dialogue") ∈ jT := jm_i 68 (by decide +kernel) (by decide +kernel)
theorem jm_69 : (Cond.instantiable "KeyDistiller$Dialogue" 12) ∈ jT := jm_i 69 (by decide +kernel) (by decide +kernel)
theorem jm_71 : (Cond.instanceMethod ⟨"KeyDistiller$Dialogue", "<init>", "(LKeyDistiller$Station;LKeyDistiller$Station;)V"⟩) ∈ jT := jm_i 71 (by decide +kernel) (by decide +kernel)
theorem jm_72 : (Cond.code ⟨"KeyDistiller$Dialogue", "<init>", "(LKeyDistiller$Station;LKeyDistiller$Station;)V"⟩ prog_2_method_1_code 3 none) ∈ jT := jm_i 72 (by decide +kernel) (by decide +kernel)
theorem jm_73 : (Cond.methodLink "KeyDistiller$Dialogue" 3 ⟨"java/lang/Object", "<init>", "()V"⟩) ∈ jT := jm_i 73 (by decide +kernel) (by decide +kernel)
theorem jm_74 : (Cond.classLink "KeyDistiller$Dialogue" 9 "KeyDistiller$Letters") ∈ jT := jm_i 74 (by decide +kernel) (by decide +kernel)
theorem jm_75 : (Cond.instantiable "KeyDistiller$Letters" 4) ∈ jT := jm_i 75 (by decide +kernel) (by decide +kernel)
theorem jm_77 : (Cond.instanceMethod ⟨"KeyDistiller$Letters", "<init>", "()V"⟩) ∈ jT := jm_i 77 (by decide +kernel) (by decide +kernel)
theorem jm_78 : (Cond.code ⟨"KeyDistiller$Letters", "<init>", "()V"⟩ prog_4_method_1_code 1 none) ∈ jT := jm_i 78 (by decide +kernel) (by decide +kernel)
theorem jm_79 : (Cond.methodLink "KeyDistiller$Letters" 3 ⟨"java/lang/Object", "<init>", "()V"⟩) ∈ jT := jm_i 79 (by decide +kernel) (by decide +kernel)
theorem jm_80 : (Cond.fieldLink "KeyDistiller$Letters" 9 "KeyDistiller$Letters" "kinds" "[I") ∈ jT := jm_i 80 (by decide +kernel) (by decide +kernel)
theorem jm_83 : (Cond.fieldLink "KeyDistiller$Letters" 15 "KeyDistiller$Letters" "numbers" "[I") ∈ jT := jm_i 83 (by decide +kernel) (by decide +kernel)
theorem jm_86 : (Cond.fieldLink "KeyDistiller$Letters" 18 "KeyDistiller$Letters" "parities" "[I") ∈ jT := jm_i 86 (by decide +kernel) (by decide +kernel)
theorem jm_89 : (Cond.fieldLink "KeyDistiller$Letters" 21 "KeyDistiller$Letters" "count" "I") ∈ jT := jm_i 89 (by decide +kernel) (by decide +kernel)
theorem jm_100 : (Cond.classLink "KeyDistiller$Dialogue" 18 "[[I") ∈ jT := jm_i 100 (by decide +kernel) (by decide +kernel)
theorem jm_102 : (Cond.fieldLink "KeyDistiller$Dialogue" 34 "KeyDistiller$Dialogue" "answerer" "LKeyDistiller$Station;") ∈ jT := jm_i 102 (by decide +kernel) (by decide +kernel)
theorem jm_103 : (Cond.fieldLink "KeyDistiller$Dialogue" 38 "KeyDistiller$Dialogue" "asker" "LKeyDistiller$Station;") ∈ jT := jm_i 103 (by decide +kernel) (by decide +kernel)
theorem jm_104 : (Cond.fieldLink "KeyDistiller$Dialogue" 12 "KeyDistiller$Dialogue" "letters" "LKeyDistiller$Letters;") ∈ jT := jm_i 104 (by decide +kernel) (by decide +kernel)
theorem jm_106 : (Cond.fieldLink "KeyDistiller$Dialogue" 20 "KeyDistiller$Dialogue" "orders" "[[I") ∈ jT := jm_i 106 (by decide +kernel) (by decide +kernel)
theorem jm_108 : (Cond.fieldLink "KeyDistiller$Dialogue" 23 "KeyDistiller$Dialogue" "known" "[[I") ∈ jT := jm_i 108 (by decide +kernel) (by decide +kernel)
theorem jm_109 : (Cond.fieldLink "KeyDistiller$Dialogue" 26 "KeyDistiller$Dialogue" "questions" "[I") ∈ jT := jm_i 109 (by decide +kernel) (by decide +kernel)
theorem jm_111 : (Cond.fieldLink "KeyDistiller$Dialogue" 82 "KeyDistiller$Dialogue" "newest" "I") ∈ jT := jm_i 111 (by decide +kernel) (by decide +kernel)
theorem jm_112 : (Cond.fieldLink "KeyDistiller$Dialogue" 89 "KeyDistiller$Dialogue" "newestMark" "I") ∈ jT := jm_i 112 (by decide +kernel) (by decide +kernel)
theorem jm_113 : (Cond.fieldLink "KeyDistiller$Dialogue" 92 "KeyDistiller$Dialogue" "disclosures" "I") ∈ jT := jm_i 113 (by decide +kernel) (by decide +kernel)
theorem jm_115 : (Cond.fieldLink "KeyDistiller$Dialogue" 30 "KeyDistiller$Dialogue" "current" "I") ∈ jT := jm_i 115 (by decide +kernel) (by decide +kernel)
theorem jm_117 : (Cond.fieldLink "KeyDistiller$Dialogue" 41 "KeyDistiller$Dialogue" "size" "I") ∈ jT := jm_i 117 (by decide +kernel) (by decide +kernel)
theorem jm_118 : (Cond.fieldLink "KeyDistiller$Dialogue" 44 "KeyDistiller$Dialogue" "length" "I") ∈ jT := jm_i 118 (by decide +kernel) (by decide +kernel)
theorem jm_144 : (Cond.fieldLink "KeyDistiller" 10 "KeyDistiller" "zero" "LKeyDistiller$Station;") ∈ jT := jm_i 144 (by decide +kernel) (by decide +kernel)
theorem jm_145 : (Cond.fieldLink "KeyDistiller" 16 "KeyDistiller" "one" "LKeyDistiller$Station;") ∈ jT := jm_i 145 (by decide +kernel) (by decide +kernel)
theorem jm_146 : (Cond.fieldLink "KeyDistiller" 22 "KeyDistiller" "drawing" "LKeyDistiller$Drawing;") ∈ jT := jm_i 146 (by decide +kernel) (by decide +kernel)
theorem jm_147 : (Cond.fieldLink "KeyDistiller" 31 "KeyDistiller" "dialogue" "LKeyDistiller$Dialogue;") ∈ jT := jm_i 147 (by decide +kernel) (by decide +kernel)
theorem jm_148 : (Cond.fieldLink "KeyDistiller" 35 "KeyDistiller" "shuffled" "[I") ∈ jT := jm_i 148 (by decide +kernel) (by decide +kernel)
theorem jm_149 : (Cond.fieldLink "KeyDistiller" 39 "KeyDistiller" "givenUp" "[I") ∈ jT := jm_i 149 (by decide +kernel) (by decide +kernel)
theorem jm_150 : (Cond.fieldLink "KeyDistiller" 42 "KeyDistiller" "keyDraws" "[I") ∈ jT := jm_i 150 (by decide +kernel) (by decide +kernel)
theorem jm_151 : (Cond.fieldLink "KeyDistiller" 45 "KeyDistiller" "length" "I") ∈ jT := jm_i 151 (by decide +kernel) (by decide +kernel)
theorem jm_152 : (Cond.fieldLink "KeyDistiller" 115 "KeyDistiller" "givenUpInAll" "I") ∈ jT := jm_i 152 (by decide +kernel) (by decide +kernel)
theorem jm_153 : (Cond.fieldLink "KeyDistiller" 118 "KeyDistiller" "differedInAll" "I") ∈ jT := jm_i 153 (by decide +kernel) (by decide +kernel)
theorem jm_154 : (Cond.fieldLink "KeyDistiller" 226 "KeyDistiller" "keyLength" "I") ∈ jT := jm_i 154 (by decide +kernel) (by decide +kernel)
theorem jm_178 : (Cond.methodLink "KeyDistillerLaw" 73 ⟨"KeyDistiller", "length", "()I"⟩) ∈ jT := jm_i 178 (by decide +kernel) (by decide +kernel)
theorem jm_179 : (Cond.instanceMethod ⟨"KeyDistiller", "length", "()I"⟩) ∈ jT := jm_i 179 (by decide +kernel) (by decide +kernel)
theorem jm_180 : (Cond.selects "KeyDistiller" ⟨"KeyDistiller", "length", "()I"⟩ ⟨"KeyDistiller", "length", "()I"⟩) ∈ jT := jm_i 180 (by decide +kernel) (by decide +kernel)
theorem jm_181 : (Cond.code ⟨"KeyDistiller", "length", "()I"⟩ prog_1_method_4_code 1 (some .int)) ∈ jT := jm_i 181 (by decide +kernel) (by decide +kernel)
theorem jm_182 : (Cond.methodLink "KeyDistillerLaw" 83 ⟨"KeyDistiller", "sampled", "(I)I"⟩) ∈ jT := jm_i 182 (by decide +kernel) (by decide +kernel)
theorem jm_183 : (Cond.instanceMethod ⟨"KeyDistiller", "sampled", "(I)I"⟩) ∈ jT := jm_i 183 (by decide +kernel) (by decide +kernel)
theorem jm_184 : (Cond.selects "KeyDistiller" ⟨"KeyDistiller", "sampled", "(I)I"⟩ ⟨"KeyDistiller", "sampled", "(I)I"⟩) ∈ jT := jm_i 184 (by decide +kernel) (by decide +kernel)
theorem jm_185 : (Cond.code ⟨"KeyDistiller", "sampled", "(I)I"⟩ prog_1_method_6_code 2 (some .int)) ∈ jT := jm_i 185 (by decide +kernel) (by decide +kernel)
theorem jm_186 : (Cond.methodLink "KeyDistillerLaw" 96 ⟨"KeyDistiller", "told", "(II)I"⟩) ∈ jT := jm_i 186 (by decide +kernel) (by decide +kernel)
theorem jm_187 : (Cond.instanceMethod ⟨"KeyDistiller", "told", "(II)I"⟩) ∈ jT := jm_i 187 (by decide +kernel) (by decide +kernel)
theorem jm_188 : (Cond.selects "KeyDistiller" ⟨"KeyDistiller", "told", "(II)I"⟩ ⟨"KeyDistiller", "told", "(II)I"⟩) ∈ jT := jm_i 188 (by decide +kernel) (by decide +kernel)
theorem jm_189 : (Cond.code ⟨"KeyDistiller", "told", "(II)I"⟩ prog_1_method_9_code 3 (some .int)) ∈ jT := jm_i 189 (by decide +kernel) (by decide +kernel)
theorem jm_192 : (Cond.instanceMethod ⟨"KeyDistiller$Letters", "has", "(I)Z"⟩) ∈ jT := jm_i 192 (by decide +kernel) (by decide +kernel)
theorem jm_193 : (Cond.code ⟨"KeyDistiller$Letters", "has", "(I)Z"⟩ prog_4_method_2_code 2 (some .boolean)) ∈ jT := jm_i 193 (by decide +kernel) (by decide +kernel)
theorem jm_196 : (Cond.instanceMethod ⟨"KeyDistiller$Dialogue", "tell", "(II)I"⟩) ∈ jT := jm_i 196 (by decide +kernel) (by decide +kernel)
theorem jm_197 : (Cond.code ⟨"KeyDistiller$Dialogue", "tell", "(II)I"⟩ prog_2_method_8_code 5 (some .int)) ∈ jT := jm_i 197 (by decide +kernel) (by decide +kernel)
theorem jm_198 : (Cond.methodLink "KeyDistiller$Dialogue" 62 ⟨"KeyDistiller$Dialogue", "passOf", "(I)I"⟩) ∈ jT := jm_i 198 (by decide +kernel) (by decide +kernel)
theorem jm_200 : (Cond.instanceMethod ⟨"KeyDistiller$Dialogue", "passOf", "(I)I"⟩) ∈ jT := jm_i 200 (by decide +kernel) (by decide +kernel)
theorem jm_201 : (Cond.code ⟨"KeyDistiller$Dialogue", "passOf", "(I)I"⟩ prog_2_method_5_code 2 (some .int)) ∈ jT := jm_i 201 (by decide +kernel) (by decide +kernel)
theorem jm_202 : (Cond.methodLink "KeyDistiller$Dialogue" 69 ⟨"KeyDistiller$Dialogue", "fromOf", "(I)I"⟩) ∈ jT := jm_i 202 (by decide +kernel) (by decide +kernel)
theorem jm_204 : (Cond.instanceMethod ⟨"KeyDistiller$Dialogue", "fromOf", "(I)I"⟩) ∈ jT := jm_i 204 (by decide +kernel) (by decide +kernel)
theorem jm_205 : (Cond.code ⟨"KeyDistiller$Dialogue", "fromOf", "(I)I"⟩ prog_2_method_6_code 2 (some .int)) ∈ jT := jm_i 205 (by decide +kernel) (by decide +kernel)
theorem jm_206 : (Cond.methodLink "KeyDistiller$Dialogue" 72 ⟨"KeyDistiller$Dialogue", "toOf", "(I)I"⟩) ∈ jT := jm_i 206 (by decide +kernel) (by decide +kernel)
theorem jm_208 : (Cond.instanceMethod ⟨"KeyDistiller$Dialogue", "toOf", "(I)I"⟩) ∈ jT := jm_i 208 (by decide +kernel) (by decide +kernel)
theorem jm_209 : (Cond.code ⟨"KeyDistiller$Dialogue", "toOf", "(I)I"⟩ prog_2_method_7_code 2 (some .int)) ∈ jT := jm_i 209 (by decide +kernel) (by decide +kernel)
theorem jm_210 : (Cond.methodLink "KeyDistillerLaw" 103 ⟨"KeyDistiller", "done", "()Z"⟩) ∈ jT := jm_i 210 (by decide +kernel) (by decide +kernel)
theorem jm_211 : (Cond.instanceMethod ⟨"KeyDistiller", "done", "()Z"⟩) ∈ jT := jm_i 211 (by decide +kernel) (by decide +kernel)
theorem jm_212 : (Cond.selects "KeyDistiller" ⟨"KeyDistiller", "done", "()Z"⟩ ⟨"KeyDistiller", "done", "()Z"⟩) ∈ jT := jm_i 212 (by decide +kernel) (by decide +kernel)
theorem jm_213 : (Cond.code ⟨"KeyDistiller", "done", "()Z"⟩ prog_1_method_11_code 1 (some .boolean)) ∈ jT := jm_i 213 (by decide +kernel) (by decide +kernel)
theorem jm_216 : (Cond.instanceMethod ⟨"KeyDistiller$Dialogue", "isOver", "()Z"⟩) ∈ jT := jm_i 216 (by decide +kernel) (by decide +kernel)
theorem jm_217 : (Cond.code ⟨"KeyDistiller$Dialogue", "isOver", "()Z"⟩ prog_2_method_3_code 1 (some .boolean)) ∈ jT := jm_i 217 (by decide +kernel) (by decide +kernel)
theorem jm_218 : (Cond.methodLink "KeyDistillerLaw" 108 ⟨"KeyDistiller", "pass", "()I"⟩) ∈ jT := jm_i 218 (by decide +kernel) (by decide +kernel)
theorem jm_219 : (Cond.instanceMethod ⟨"KeyDistiller", "pass", "()I"⟩) ∈ jT := jm_i 219 (by decide +kernel) (by decide +kernel)
theorem jm_220 : (Cond.selects "KeyDistiller" ⟨"KeyDistiller", "pass", "()I"⟩ ⟨"KeyDistiller", "pass", "()I"⟩) ∈ jT := jm_i 220 (by decide +kernel) (by decide +kernel)
theorem jm_221 : (Cond.code ⟨"KeyDistiller", "pass", "()I"⟩ prog_1_method_12_code 1 (some .int)) ∈ jT := jm_i 221 (by decide +kernel) (by decide +kernel)
theorem jm_222 : (Cond.methodLink "KeyDistillerLaw" 112 ⟨"KeyDistiller", "disclosed", "()I"⟩) ∈ jT := jm_i 222 (by decide +kernel) (by decide +kernel)
theorem jm_223 : (Cond.instanceMethod ⟨"KeyDistiller", "disclosed", "()I"⟩) ∈ jT := jm_i 223 (by decide +kernel) (by decide +kernel)
theorem jm_224 : (Cond.selects "KeyDistiller" ⟨"KeyDistiller", "disclosed", "()I"⟩ ⟨"KeyDistiller", "disclosed", "()I"⟩) ∈ jT := jm_i 224 (by decide +kernel) (by decide +kernel)
theorem jm_225 : (Cond.code ⟨"KeyDistiller", "disclosed", "()I"⟩ prog_1_method_13_code 1 (some .int)) ∈ jT := jm_i 225 (by decide +kernel) (by decide +kernel)
theorem jm_226 : (Cond.methodLink "KeyDistillerLaw" 116 ⟨"KeyDistiller", "answered", "(I)I"⟩) ∈ jT := jm_i 226 (by decide +kernel) (by decide +kernel)
theorem jm_227 : (Cond.instanceMethod ⟨"KeyDistiller", "answered", "(I)I"⟩) ∈ jT := jm_i 227 (by decide +kernel) (by decide +kernel)
theorem jm_228 : (Cond.selects "KeyDistiller" ⟨"KeyDistiller", "answered", "(I)I"⟩ ⟨"KeyDistiller", "answered", "(I)I"⟩) ∈ jT := jm_i 228 (by decide +kernel) (by decide +kernel)
theorem jm_229 : (Cond.code ⟨"KeyDistiller", "answered", "(I)I"⟩ prog_1_method_14_code 2 (some .int)) ∈ jT := jm_i 229 (by decide +kernel) (by decide +kernel)
theorem jm_230 : (Cond.methodLink "KeyDistillerLaw" 60 ⟨"KeyDistillerLaw", "record", "(LKeyDistiller;IIIIII[J)I"⟩) ∈ jT := jm_i 230 (by decide +kernel) (by decide +kernel)
theorem jm_231 : (Cond.static ⟨"KeyDistillerLaw", "record", "(LKeyDistiller;IIIIII[J)I"⟩) ∈ jT := jm_i 231 (by decide +kernel) (by decide +kernel)
theorem jm_232 : (Cond.codeWith ⟨"KeyDistillerLaw", "record", "(LKeyDistiller;IIIIII[J)I"⟩ method_3_code 9 (some .int) [(0, 18, 21, 13), (0, 18, 25, 15)]) ∈ jT := jm_i 232 (by decide +kernel) (by decide +kernel)
theorem jm_233 : (Cond.classLink "KeyDistillerLaw" 13 "java/lang/IllegalArgumentException") ∈ jT := jm_i 233 (by decide +kernel) (by decide +kernel)
theorem jm_234 : (Cond.classLink "KeyDistillerLaw" 15 "java/lang/IllegalStateException") ∈ jT := jm_i 234 (by decide +kernel) (by decide +kernel)
theorem jm_235 : (Cond.methodLink "KeyDistillerLaw" 7 ⟨"KeyDistiller", "record", "(IIIIII)I"⟩) ∈ jT := jm_i 235 (by decide +kernel) (by decide +kernel)
theorem jm_236 : (Cond.instanceMethod ⟨"KeyDistiller", "record", "(IIIIII)I"⟩) ∈ jT := jm_i 236 (by decide +kernel) (by decide +kernel)
theorem jm_237 : (Cond.selects "KeyDistiller" ⟨"KeyDistiller", "record", "(IIIIII)I"⟩ ⟨"KeyDistiller", "record", "(IIIIII)I"⟩) ∈ jT := jm_i 237 (by decide +kernel) (by decide +kernel)
theorem jm_238 : (Cond.code ⟨"KeyDistiller", "record", "(IIIIII)I"⟩ prog_1_method_2_code 8 (some .int)) ∈ jT := jm_i 238 (by decide +kernel) (by decide +kernel)
theorem jm_239 : (Cond.methodLink "KeyDistiller" 49 ⟨"KeyDistiller", "isStation", "(I)Z"⟩) ∈ jT := jm_i 239 (by decide +kernel) (by decide +kernel)
theorem jm_240 : (Cond.static ⟨"KeyDistiller", "isStation", "(I)Z"⟩) ∈ jT := jm_i 240 (by decide +kernel) (by decide +kernel)
theorem jm_241 : (Cond.code ⟨"KeyDistiller", "isStation", "(I)Z"⟩ prog_1_method_21_code 1 (some .boolean)) ∈ jT := jm_i 241 (by decide +kernel) (by decide +kernel)
theorem jm_242 : (Cond.classLink "KeyDistiller" 53 "java/lang/IllegalArgumentException") ∈ jT := jm_i 242 (by decide +kernel) (by decide +kernel)
theorem jm_243 : (Cond.instantiable "java/lang/IllegalArgumentException" 6) ∈ jT := jm_i 243 (by decide +kernel) (by decide +kernel)
theorem jm_251 : (Cond.selects "java/lang/IllegalArgumentException" ⟨"java/lang/Throwable", "fillInStackTrace", "(I)Ljava/lang/Throwable;"⟩ ⟨"java/lang/Throwable", "fillInStackTrace", "(I)Ljava/lang/Throwable;"⟩) ∈ jT := jm_i 251 (by decide +kernel) (by decide +kernel)
theorem jm_252 : (Cond.selects "java/lang/IllegalArgumentException" ⟨"java/lang/Throwable", "fillInStackTrace", "()Ljava/lang/Throwable;"⟩ ⟨"java/lang/Throwable", "fillInStackTrace", "()Ljava/lang/Throwable;"⟩) ∈ jT := jm_i 252 (by decide +kernel) (by decide +kernel)
theorem jm_263 : (Cond.fieldLink "java/lang/Throwable" 198 "java/lang/Throwable" "backtrace" "Ljava/lang/Object;") ∈ jT := jm_i 263 (by decide +kernel) (by decide +kernel)
theorem jm_265 : (Cond.instanceMethod ⟨"java/lang/Throwable", "<init>", "()V"⟩) ∈ jT := jm_i 265 (by decide +kernel) (by decide +kernel)
theorem jm_266 : (Cond.code ⟨"java/lang/Throwable", "<init>", "()V"⟩ prog_15_method_1_code 1 none) ∈ jT := jm_i 266 (by decide +kernel) (by decide +kernel)
theorem jm_267 : (Cond.methodLink "java/lang/Throwable" 1 ⟨"java/lang/Object", "<init>", "()V"⟩) ∈ jT := jm_i 267 (by decide +kernel) (by decide +kernel)
theorem jm_268 : (Cond.fieldLink "java/lang/Throwable" 13 "java/lang/Throwable" "UNASSIGNED_STACK" "[Ljava/lang/StackTraceElement;") ∈ jT := jm_i 268 (by decide +kernel) (by decide +kernel)
theorem jm_270 : (Cond.fieldLink "java/lang/Throwable" 20 "java/lang/Throwable" "SUPPRESSED_SENTINEL" "Ljava/util/List;") ∈ jT := jm_i 270 (by decide +kernel) (by decide +kernel)
theorem jm_272 : (Cond.methodLink "java/lang/Throwable" 27 ⟨"java/lang/Throwable", "fillInStackTrace", "()Ljava/lang/Throwable;"⟩) ∈ jT := jm_i 272 (by decide +kernel) (by decide +kernel)
theorem jm_273 : (Cond.instanceMethod ⟨"java/lang/Throwable", "fillInStackTrace", "()Ljava/lang/Throwable;"⟩) ∈ jT := jm_i 273 (by decide +kernel) (by decide +kernel)
theorem jm_275 : (Cond.selects "java/lang/IllegalStateException" ⟨"java/lang/Throwable", "fillInStackTrace", "()Ljava/lang/Throwable;"⟩ ⟨"java/lang/Throwable", "fillInStackTrace", "()Ljava/lang/Throwable;"⟩) ∈ jT := jm_i 275 (by decide +kernel) (by decide +kernel)
theorem jm_276 : (Cond.selects "java/lang/IndexOutOfBoundsException" ⟨"java/lang/Throwable", "fillInStackTrace", "()Ljava/lang/Throwable;"⟩ ⟨"java/lang/Throwable", "fillInStackTrace", "()Ljava/lang/Throwable;"⟩) ∈ jT := jm_i 276 (by decide +kernel) (by decide +kernel)
theorem jm_277 : (Cond.selects "java/lang/UnsupportedOperationException" ⟨"java/lang/Throwable", "fillInStackTrace", "()Ljava/lang/Throwable;"⟩ ⟨"java/lang/Throwable", "fillInStackTrace", "()Ljava/lang/Throwable;"⟩) ∈ jT := jm_i 277 (by decide +kernel) (by decide +kernel)
theorem jm_279 : (Cond.methodLink "java/lang/Throwable" 202 ⟨"java/lang/Throwable", "fillInStackTrace", "(I)Ljava/lang/Throwable;"⟩) ∈ jT := jm_i 279 (by decide +kernel) (by decide +kernel)
theorem jm_281 : (Cond.instanceMethod ⟨"java/lang/Throwable", "fillInStackTrace", "(I)Ljava/lang/Throwable;"⟩) ∈ jT := jm_i 281 (by decide +kernel) (by decide +kernel)
theorem jm_282 : (Cond.instantiable "java/lang/Throwable" 6) ∈ jT := jm_i 282 (by decide +kernel) (by decide +kernel)
theorem jm_285 : (Cond.methodLink "KeyDistiller" 57 ⟨"java/lang/IllegalArgumentException", "<init>", "(Ljava/lang/String;)V"⟩) ∈ jT := jm_i 285 (by decide +kernel) (by decide +kernel)
theorem jm_286 : (Cond.instanceMethod ⟨"java/lang/IllegalArgumentException", "<init>", "(Ljava/lang/String;)V"⟩) ∈ jT := jm_i 286 (by decide +kernel) (by decide +kernel)
theorem jm_287 : (Cond.code ⟨"java/lang/IllegalArgumentException", "<init>", "(Ljava/lang/String;)V"⟩ prog_9_method_2_code 2 none) ∈ jT := jm_i 287 (by decide +kernel) (by decide +kernel)
theorem jm_288 : (Cond.methodLink "java/lang/IllegalArgumentException" 7 ⟨"java/lang/RuntimeException", "<init>", "(Ljava/lang/String;)V"⟩) ∈ jT := jm_i 288 (by decide +kernel) (by decide +kernel)
theorem jm_289 : (Cond.instanceMethod ⟨"java/lang/RuntimeException", "<init>", "(Ljava/lang/String;)V"⟩) ∈ jT := jm_i 289 (by decide +kernel) (by decide +kernel)
theorem jm_290 : (Cond.code ⟨"java/lang/RuntimeException", "<init>", "(Ljava/lang/String;)V"⟩ prog_13_method_2_code 2 none) ∈ jT := jm_i 290 (by decide +kernel) (by decide +kernel)
theorem jm_291 : (Cond.methodLink "java/lang/RuntimeException" 7 ⟨"java/lang/Exception", "<init>", "(Ljava/lang/String;)V"⟩) ∈ jT := jm_i 291 (by decide +kernel) (by decide +kernel)
theorem jm_292 : (Cond.instanceMethod ⟨"java/lang/Exception", "<init>", "(Ljava/lang/String;)V"⟩) ∈ jT := jm_i 292 (by decide +kernel) (by decide +kernel)
theorem jm_293 : (Cond.code ⟨"java/lang/Exception", "<init>", "(Ljava/lang/String;)V"⟩ prog_8_method_2_code 2 none) ∈ jT := jm_i 293 (by decide +kernel) (by decide +kernel)
theorem jm_294 : (Cond.methodLink "java/lang/Exception" 7 ⟨"java/lang/Throwable", "<init>", "(Ljava/lang/String;)V"⟩) ∈ jT := jm_i 294 (by decide +kernel) (by decide +kernel)
theorem jm_295 : (Cond.instanceMethod ⟨"java/lang/Throwable", "<init>", "(Ljava/lang/String;)V"⟩) ∈ jT := jm_i 295 (by decide +kernel) (by decide +kernel)
theorem jm_296 : (Cond.code ⟨"java/lang/Throwable", "<init>", "(Ljava/lang/String;)V"⟩ prog_15_method_2_code 2 none) ∈ jT := jm_i 296 (by decide +kernel) (by decide +kernel)
theorem jm_297 : (Cond.fieldLink "java/lang/Throwable" 198 "java/lang/Throwable" "backtrace" "Ljava/lang/Object;") ∈ jT := jm_i 297 (by decide +kernel) (by decide +kernel)
theorem jm_298 : (Cond.fieldLink "java/lang/Throwable" 31 "java/lang/Throwable" "detailMessage" "Ljava/lang/String;") ∈ jT := jm_i 298 (by decide +kernel) (by decide +kernel)
theorem jm_299 : (Cond.fieldLink "java/lang/Throwable" 7 "java/lang/Throwable" "cause" "Ljava/lang/Throwable;") ∈ jT := jm_i 299 (by decide +kernel) (by decide +kernel)
theorem jm_300 : (Cond.fieldLink "java/lang/Throwable" 17 "java/lang/Throwable" "stackTrace" "[Ljava/lang/StackTraceElement;") ∈ jT := jm_i 300 (by decide +kernel) (by decide +kernel)
theorem jm_301 : (Cond.fieldLink "java/lang/Throwable" 24 "java/lang/Throwable" "suppressedExceptions" "Ljava/util/List;") ∈ jT := jm_i 301 (by decide +kernel) (by decide +kernel)
theorem jm_310 : (Cond.arrayClass .byte) ∈ jT := jm_i 310 (by decide +kernel) (by decide +kernel)
theorem jm_311 : (Cond.methodLink "KeyDistiller" 60 ⟨"KeyDistiller", "stationOf", "(I)LKeyDistiller$Station;"⟩) ∈ jT := jm_i 311 (by decide +kernel) (by decide +kernel)
theorem jm_313 : (Cond.instanceMethod ⟨"KeyDistiller", "stationOf", "(I)LKeyDistiller$Station;"⟩) ∈ jT := jm_i 313 (by decide +kernel) (by decide +kernel)
theorem jm_314 : (Cond.code ⟨"KeyDistiller", "stationOf", "(I)LKeyDistiller$Station;"⟩ prog_1_method_22_code 2 (some (.object "KeyDistiller$Station"))) ∈ jT := jm_i 314 (by decide +kernel) (by decide +kernel)
theorem jm_315 : (Cond.methodLink "KeyDistiller" 64 ⟨"KeyDistiller", "isSifted", "()Z"⟩) ∈ jT := jm_i 315 (by decide +kernel) (by decide +kernel)
theorem jm_317 : (Cond.instanceMethod ⟨"KeyDistiller", "isSifted", "()Z"⟩) ∈ jT := jm_i 317 (by decide +kernel) (by decide +kernel)
theorem jm_318 : (Cond.code ⟨"KeyDistiller", "isSifted", "()Z"⟩ prog_1_method_20_code 1 (some .boolean)) ∈ jT := jm_i 318 (by decide +kernel) (by decide +kernel)
theorem jm_321 : (Cond.instanceMethod ⟨"KeyDistiller$Station", "hasAnyOf", "(II)Z"⟩) ∈ jT := jm_i 321 (by decide +kernel) (by decide +kernel)
theorem jm_322 : (Cond.code ⟨"KeyDistiller$Station", "hasAnyOf", "(II)Z"⟩ prog_5_method_2_code 4 (some .boolean)) ∈ jT := jm_i 322 (by decide +kernel) (by decide +kernel)
theorem jm_323 : (Cond.classLink "KeyDistiller" 72 "java/lang/IllegalStateException") ∈ jT := jm_i 323 (by decide +kernel) (by decide +kernel)
theorem jm_324 : (Cond.instantiable "java/lang/IllegalStateException" 6) ∈ jT := jm_i 324 (by decide +kernel) (by decide +kernel)
theorem jm_326 : (Cond.selects "java/lang/IllegalStateException" ⟨"java/lang/Throwable", "fillInStackTrace", "(I)Ljava/lang/Throwable;"⟩ ⟨"java/lang/Throwable", "fillInStackTrace", "(I)Ljava/lang/Throwable;"⟩) ∈ jT := jm_i 326 (by decide +kernel) (by decide +kernel)
theorem jm_333 : (Cond.methodLink "KeyDistiller" 76 ⟨"java/lang/IllegalStateException", "<init>", "(Ljava/lang/String;)V"⟩) ∈ jT := jm_i 333 (by decide +kernel) (by decide +kernel)
theorem jm_334 : (Cond.instanceMethod ⟨"java/lang/IllegalStateException", "<init>", "(Ljava/lang/String;)V"⟩) ∈ jT := jm_i 334 (by decide +kernel) (by decide +kernel)
theorem jm_335 : (Cond.code ⟨"java/lang/IllegalStateException", "<init>", "(Ljava/lang/String;)V"⟩ prog_10_method_2_code 2 none) ∈ jT := jm_i 335 (by decide +kernel) (by decide +kernel)
theorem jm_336 : (Cond.methodLink "java/lang/IllegalStateException" 7 ⟨"java/lang/RuntimeException", "<init>", "(Ljava/lang/String;)V"⟩) ∈ jT := jm_i 336 (by decide +kernel) (by decide +kernel)
theorem jm_341 : (Cond.instanceMethod ⟨"KeyDistiller$Station", "note", "(IIIII)V"⟩) ∈ jT := jm_i 341 (by decide +kernel) (by decide +kernel)
theorem jm_342 : (Cond.code ⟨"KeyDistiller$Station", "note", "(IIIII)V"⟩ prog_5_method_3_code 7 none) ∈ jT := jm_i 342 (by decide +kernel) (by decide +kernel)
theorem jm_343 : (Cond.methodLink "KeyDistillerLaw" 69 ⟨"KeyDistillerLaw", "sift", "(LKeyDistiller;[J)I"⟩) ∈ jT := jm_i 343 (by decide +kernel) (by decide +kernel)
theorem jm_344 : (Cond.static ⟨"KeyDistillerLaw", "sift", "(LKeyDistiller;[J)I"⟩) ∈ jT := jm_i 344 (by decide +kernel) (by decide +kernel)
theorem jm_345 : (Cond.codeWith ⟨"KeyDistillerLaw", "sift", "(LKeyDistiller;[J)I"⟩ method_4_code 3 (some .int) [(0, 8, 11, 15)]) ∈ jT := jm_i 345 (by decide +kernel) (by decide +kernel)
theorem jm_346 : (Cond.methodLink "KeyDistillerLaw" 17 ⟨"KeyDistiller", "sift", "()I"⟩) ∈ jT := jm_i 346 (by decide +kernel) (by decide +kernel)
theorem jm_347 : (Cond.instanceMethod ⟨"KeyDistiller", "sift", "()I"⟩) ∈ jT := jm_i 347 (by decide +kernel) (by decide +kernel)
theorem jm_348 : (Cond.selects "KeyDistiller" ⟨"KeyDistiller", "sift", "()I"⟩ ⟨"KeyDistiller", "sift", "()I"⟩) ∈ jT := jm_i 348 (by decide +kernel) (by decide +kernel)
theorem jm_349 : (Cond.code ⟨"KeyDistiller", "sift", "()I"⟩ prog_1_method_3_code 3 (some .int)) ∈ jT := jm_i 349 (by decide +kernel) (by decide +kernel)
theorem jm_351 : (Cond.methodLink "KeyDistiller" 86 ⟨"KeyDistiller", "isKept", "(I)Z"⟩) ∈ jT := jm_i 351 (by decide +kernel) (by decide +kernel)
theorem jm_353 : (Cond.instanceMethod ⟨"KeyDistiller", "isKept", "(I)Z"⟩) ∈ jT := jm_i 353 (by decide +kernel) (by decide +kernel)
theorem jm_354 : (Cond.code ⟨"KeyDistiller", "isKept", "(I)Z"⟩ prog_1_method_24_code 2 (some .boolean)) ∈ jT := jm_i 354 (by decide +kernel) (by decide +kernel)
theorem jm_355 : (Cond.methodLink "KeyDistillerLaw" 79 ⟨"KeyDistillerLaw", "sample", "(LKeyDistiller;JI[J)I"⟩) ∈ jT := jm_i 355 (by decide +kernel) (by decide +kernel)
theorem jm_356 : (Cond.static ⟨"KeyDistillerLaw", "sample", "(LKeyDistiller;JI[J)I"⟩) ∈ jT := jm_i 356 (by decide +kernel) (by decide +kernel)
theorem jm_357 : (Cond.codeWith ⟨"KeyDistillerLaw", "sample", "(LKeyDistiller;JI[J)I"⟩ method_5_code 6 (some .int) [(0, 11, 14, 15), (0, 11, 18, 13)]) ∈ jT := jm_i 357 (by decide +kernel) (by decide +kernel)
theorem jm_358 : (Cond.methodLink "KeyDistillerLaw" 21 ⟨"KeyDistiller", "sample", "(JI)I"⟩) ∈ jT := jm_i 358 (by decide +kernel) (by decide +kernel)
theorem jm_359 : (Cond.instanceMethod ⟨"KeyDistiller", "sample", "(JI)I"⟩) ∈ jT := jm_i 359 (by decide +kernel) (by decide +kernel)
theorem jm_360 : (Cond.selects "KeyDistiller" ⟨"KeyDistiller", "sample", "(JI)I"⟩ ⟨"KeyDistiller", "sample", "(JI)I"⟩) ∈ jT := jm_i 360 (by decide +kernel) (by decide +kernel)
theorem jm_361 : (Cond.code ⟨"KeyDistiller", "sample", "(JI)I"⟩ prog_1_method_5_code 7 (some .int)) ∈ jT := jm_i 361 (by decide +kernel) (by decide +kernel)
theorem jm_364 : (Cond.instanceMethod ⟨"KeyDistiller$Dialogue", "isBegun", "()Z"⟩) ∈ jT := jm_i 364 (by decide +kernel) (by decide +kernel)
theorem jm_365 : (Cond.code ⟨"KeyDistiller$Dialogue", "isBegun", "()Z"⟩ prog_2_method_2_code 1 (some .boolean)) ∈ jT := jm_i 365 (by decide +kernel) (by decide +kernel)
theorem jm_370 : (Cond.instanceMethod ⟨"KeyDistiller$Drawing", "shuffle", "(JI[I)V"⟩) ∈ jT := jm_i 370 (by decide +kernel) (by decide +kernel)
theorem jm_371 : (Cond.code ⟨"KeyDistiller$Drawing", "shuffle", "(JI[I)V"⟩ prog_3_method_6_code 8 none) ∈ jT := jm_i 371 (by decide +kernel) (by decide +kernel)
theorem jm_372 : (Cond.methodLink "KeyDistiller$Drawing" 23 ⟨"KeyDistiller$Drawing", "restart", "(J)V"⟩) ∈ jT := jm_i 372 (by decide +kernel) (by decide +kernel)
theorem jm_374 : (Cond.instanceMethod ⟨"KeyDistiller$Drawing", "restart", "(J)V"⟩) ∈ jT := jm_i 374 (by decide +kernel) (by decide +kernel)
theorem jm_375 : (Cond.code ⟨"KeyDistiller$Drawing", "restart", "(J)V"⟩ prog_3_method_2_code 3 none) ∈ jT := jm_i 375 (by decide +kernel) (by decide +kernel)
theorem jm_376 : (Cond.methodLink "KeyDistiller$Drawing" 27 ⟨"KeyDistiller$Drawing", "drawBelow", "(I)I"⟩) ∈ jT := jm_i 376 (by decide +kernel) (by decide +kernel)
theorem jm_378 : (Cond.instanceMethod ⟨"KeyDistiller$Drawing", "drawBelow", "(I)I"⟩) ∈ jT := jm_i 378 (by decide +kernel) (by decide +kernel)
theorem jm_379 : (Cond.code ⟨"KeyDistiller$Drawing", "drawBelow", "(I)I"⟩ prog_3_method_5_code 7 (some .int)) ∈ jT := jm_i 379 (by decide +kernel) (by decide +kernel)
theorem jm_380 : (Cond.constantLong "KeyDistiller$Drawing" 20 (2147483648)) ∈ jT := jm_i 380 (by decide +kernel) (by decide +kernel)
theorem jm_381 : (Cond.constant "KeyDistiller$Drawing" 22 (1000000)) ∈ jT := jm_i 381 (by decide +kernel) (by decide +kernel)
theorem jm_382 : (Cond.methodLink "KeyDistiller$Drawing" 17 ⟨"KeyDistiller$Drawing", "advance", "()V"⟩) ∈ jT := jm_i 382 (by decide +kernel) (by decide +kernel)
theorem jm_384 : (Cond.instanceMethod ⟨"KeyDistiller$Drawing", "advance", "()V"⟩) ∈ jT := jm_i 384 (by decide +kernel) (by decide +kernel)
theorem jm_385 : (Cond.code ⟨"KeyDistiller$Drawing", "advance", "()V"⟩ prog_3_method_3_code 1 none) ∈ jT := jm_i 385 (by decide +kernel) (by decide +kernel)
theorem jm_386 : (Cond.constantLong "KeyDistiller$Drawing" 13 (6364136223846793005)) ∈ jT := jm_i 386 (by decide +kernel) (by decide +kernel)
theorem jm_387 : (Cond.constantLong "KeyDistiller$Drawing" 15 (1442695040888963407)) ∈ jT := jm_i 387 (by decide +kernel) (by decide +kernel)
theorem jm_388 : (Cond.methodLink "KeyDistiller" 106 ⟨"java/util/Arrays", "fill", "([II)V"⟩) ∈ jT := jm_i 388 (by decide +kernel) (by decide +kernel)
theorem jm_389 : (Cond.static ⟨"java/util/Arrays", "fill", "([II)V"⟩) ∈ jT := jm_i 389 (by decide +kernel) (by decide +kernel)
theorem jm_390 : (Cond.code ⟨"java/util/Arrays", "fill", "([II)V"⟩ prog_17_method_103_code 4 none) ∈ jT := jm_i 390 (by decide +kernel) (by decide +kernel)
theorem jm_393 : (Cond.instanceMethod ⟨"KeyDistiller$Station", "leaveOut", "([II)V"⟩) ∈ jT := jm_i 393 (by decide +kernel) (by decide +kernel)
theorem jm_394 : (Cond.code ⟨"KeyDistiller$Station", "leaveOut", "([II)V"⟩ prog_5_method_4_code 5 none) ∈ jT := jm_i 394 (by decide +kernel) (by decide +kernel)
theorem jm_395 : (Cond.methodLink "KeyDistillerLaw" 88 ⟨"KeyDistillerLaw", "start", "(LKeyDistiller;IJ[J)I"⟩) ∈ jT := jm_i 395 (by decide +kernel) (by decide +kernel)
theorem jm_396 : (Cond.static ⟨"KeyDistillerLaw", "start", "(LKeyDistiller;IJ[J)I"⟩) ∈ jT := jm_i 396 (by decide +kernel) (by decide +kernel)
theorem jm_397 : (Cond.codeWith ⟨"KeyDistillerLaw", "start", "(LKeyDistiller;IJ[J)I"⟩ method_6_code 6 (some .int) [(0, 11, 14, 15), (0, 11, 18, 13)]) ∈ jT := jm_i 397 (by decide +kernel) (by decide +kernel)
theorem jm_398 : (Cond.methodLink "KeyDistillerLaw" 25 ⟨"KeyDistiller", "start", "(IJ)I"⟩) ∈ jT := jm_i 398 (by decide +kernel) (by decide +kernel)
theorem jm_399 : (Cond.instanceMethod ⟨"KeyDistiller", "start", "(IJ)I"⟩) ∈ jT := jm_i 399 (by decide +kernel) (by decide +kernel)
theorem jm_400 : (Cond.selects "KeyDistiller" ⟨"KeyDistiller", "start", "(IJ)I"⟩ ⟨"KeyDistiller", "start", "(IJ)I"⟩) ∈ jT := jm_i 400 (by decide +kernel) (by decide +kernel)
theorem jm_401 : (Cond.code ⟨"KeyDistiller", "start", "(IJ)I"⟩ prog_1_method_7_code 5 (some .int)) ∈ jT := jm_i 401 (by decide +kernel) (by decide +kernel)
theorem jm_406 : (Cond.instanceMethod ⟨"KeyDistiller$Dialogue", "begin", "(II)V"⟩) ∈ jT := jm_i 406 (by decide +kernel) (by decide +kernel)
theorem jm_407 : (Cond.code ⟨"KeyDistiller$Dialogue", "begin", "(II)V"⟩ prog_2_method_4_code 4 none) ∈ jT := jm_i 407 (by decide +kernel) (by decide +kernel)
theorem jm_408 : (Cond.methodLink "KeyDistiller$Dialogue" 47 ⟨"java/util/Arrays", "fill", "([II)V"⟩) ∈ jT := jm_i 408 (by decide +kernel) (by decide +kernel)
theorem jm_409 : (Cond.methodLink "KeyDistiller$Dialogue" 53 ⟨"KeyDistiller$Dialogue", "goOn", "()V"⟩) ∈ jT := jm_i 409 (by decide +kernel) (by decide +kernel)
theorem jm_411 : (Cond.instanceMethod ⟨"KeyDistiller$Dialogue", "goOn", "()V"⟩) ∈ jT := jm_i 411 (by decide +kernel) (by decide +kernel)
theorem jm_412 : (Cond.code ⟨"KeyDistiller$Dialogue", "goOn", "()V"⟩ prog_2_method_14_code 3 none) ∈ jT := jm_i 412 (by decide +kernel) (by decide +kernel)
theorem jm_413 : (Cond.methodLink "KeyDistiller$Dialogue" 111 ⟨"KeyDistiller$Dialogue", "isOver", "()Z"⟩) ∈ jT := jm_i 413 (by decide +kernel) (by decide +kernel)
theorem jm_414 : (Cond.methodLink "KeyDistiller$Dialogue" 114 ⟨"KeyDistiller$Dialogue", "askForBlock", "()Z"⟩) ∈ jT := jm_i 414 (by decide +kernel) (by decide +kernel)
theorem jm_416 : (Cond.instanceMethod ⟨"KeyDistiller$Dialogue", "askForBlock", "()Z"⟩) ∈ jT := jm_i 416 (by decide +kernel) (by decide +kernel)
theorem jm_417 : (Cond.code ⟨"KeyDistiller$Dialogue", "askForBlock", "()Z"⟩ prog_2_method_15_code 4 (some .boolean)) ∈ jT := jm_i 417 (by decide +kernel) (by decide +kernel)
theorem jm_418 : (Cond.methodLink "KeyDistiller$Dialogue" 120 ⟨"KeyDistiller$Dialogue", "blockCount", "(I)I"⟩) ∈ jT := jm_i 418 (by decide +kernel) (by decide +kernel)
theorem jm_420 : (Cond.instanceMethod ⟨"KeyDistiller$Dialogue", "blockCount", "(I)I"⟩) ∈ jT := jm_i 420 (by decide +kernel) (by decide +kernel)
theorem jm_421 : (Cond.code ⟨"KeyDistiller$Dialogue", "blockCount", "(I)I"⟩ prog_2_method_21_code 2 (some .int)) ∈ jT := jm_i 421 (by decide +kernel) (by decide +kernel)
theorem jm_422 : (Cond.methodLink "KeyDistiller$Dialogue" 123 ⟨"KeyDistiller$Dialogue", "blockSize", "(I)I"⟩) ∈ jT := jm_i 422 (by decide +kernel) (by decide +kernel)
theorem jm_424 : (Cond.instanceMethod ⟨"KeyDistiller$Dialogue", "blockSize", "(I)I"⟩) ∈ jT := jm_i 424 (by decide +kernel) (by decide +kernel)
theorem jm_425 : (Cond.code ⟨"KeyDistiller$Dialogue", "blockSize", "(I)I"⟩ prog_2_method_20_code 2 (some .int)) ∈ jT := jm_i 425 (by decide +kernel) (by decide +kernel)
theorem jm_426 : (Cond.methodLink "KeyDistiller$Dialogue" 126 ⟨"KeyDistiller$Dialogue", "blockEnd", "(II)I"⟩) ∈ jT := jm_i 426 (by decide +kernel) (by decide +kernel)
theorem jm_428 : (Cond.instanceMethod ⟨"KeyDistiller$Dialogue", "blockEnd", "(II)I"⟩) ∈ jT := jm_i 428 (by decide +kernel) (by decide +kernel)
theorem jm_429 : (Cond.code ⟨"KeyDistiller$Dialogue", "blockEnd", "(II)I"⟩ prog_2_method_22_code 3 (some .int)) ∈ jT := jm_i 429 (by decide +kernel) (by decide +kernel)
theorem jm_430 : (Cond.methodLink "KeyDistiller$Dialogue" 148 ⟨"java/lang/Math", "min", "(II)I"⟩) ∈ jT := jm_i 430 (by decide +kernel) (by decide +kernel)
theorem jm_431 : (Cond.static ⟨"java/lang/Math", "min", "(II)I"⟩) ∈ jT := jm_i 431 (by decide +kernel) (by decide +kernel)
theorem jm_432 : (Cond.code ⟨"java/lang/Math", "min", "(II)I"⟩ prog_12_method_69_code 2 (some .int)) ∈ jT := jm_i 432 (by decide +kernel) (by decide +kernel)
theorem jm_433 : (Cond.methodLink "KeyDistiller$Dialogue" 129 ⟨"KeyDistiller$Dialogue", "ask", "(IIII)V"⟩) ∈ jT := jm_i 433 (by decide +kernel) (by decide +kernel)
theorem jm_435 : (Cond.instanceMethod ⟨"KeyDistiller$Dialogue", "ask", "(IIII)V"⟩) ∈ jT := jm_i 435 (by decide +kernel) (by decide +kernel)
theorem jm_436 : (Cond.code ⟨"KeyDistiller$Dialogue", "ask", "(IIII)V"⟩ prog_2_method_13_code 5 none) ∈ jT := jm_i 436 (by decide +kernel) (by decide +kernel)
theorem jm_439 : (Cond.instanceMethod ⟨"KeyDistiller$Letters", "send", "(III)V"⟩) ∈ jT := jm_i 439 (by decide +kernel) (by decide +kernel)
theorem jm_440 : (Cond.code ⟨"KeyDistiller$Letters", "send", "(III)V"⟩ prog_4_method_3_code 4 none) ∈ jT := jm_i 440 (by decide +kernel) (by decide +kernel)
theorem jm_441 : (Cond.methodLink "KeyDistiller$Dialogue" 117 ⟨"KeyDistiller$Dialogue", "mendOrMoveOn", "()Z"⟩) ∈ jT := jm_i 441 (by decide +kernel) (by decide +kernel)
theorem jm_443 : (Cond.instanceMethod ⟨"KeyDistiller$Dialogue", "mendOrMoveOn", "()Z"⟩) ∈ jT := jm_i 443 (by decide +kernel) (by decide +kernel)
theorem jm_444 : (Cond.code ⟨"KeyDistiller$Dialogue", "mendOrMoveOn", "()Z"⟩ prog_2_method_16_code 2 (some .boolean)) ∈ jT := jm_i 444 (by decide +kernel) (by decide +kernel)
theorem jm_445 : (Cond.methodLink "KeyDistiller$Dialogue" 133 ⟨"KeyDistiller$Dialogue", "smallestOddBlock", "()I"⟩) ∈ jT := jm_i 445 (by decide +kernel) (by decide +kernel)
theorem jm_447 : (Cond.instanceMethod ⟨"KeyDistiller$Dialogue", "smallestOddBlock", "()I"⟩) ∈ jT := jm_i 447 (by decide +kernel) (by decide +kernel)
theorem jm_448 : (Cond.code ⟨"KeyDistiller$Dialogue", "smallestOddBlock", "()I"⟩ prog_2_method_17_code 8 (some .int)) ∈ jT := jm_i 448 (by decide +kernel) (by decide +kernel)
theorem jm_449 : (Cond.methodLink "KeyDistiller$Dialogue" 141 ⟨"KeyDistiller$Dialogue", "isOdd", "(IIII)Z"⟩) ∈ jT := jm_i 449 (by decide +kernel) (by decide +kernel)
theorem jm_451 : (Cond.instanceMethod ⟨"KeyDistiller$Dialogue", "isOdd", "(IIII)Z"⟩) ∈ jT := jm_i 451 (by decide +kernel) (by decide +kernel)
theorem jm_452 : (Cond.code ⟨"KeyDistiller$Dialogue", "isOdd", "(IIII)Z"⟩ prog_2_method_19_code 5 (some .boolean)) ∈ jT := jm_i 452 (by decide +kernel) (by decide +kernel)
theorem jm_455 : (Cond.instanceMethod ⟨"KeyDistiller$Station", "parity", "([III)I"⟩) ∈ jT := jm_i 455 (by decide +kernel) (by decide +kernel)
theorem jm_456 : (Cond.code ⟨"KeyDistiller$Station", "parity", "([III)I"⟩ prog_5_method_5_code 6 (some .int)) ∈ jT := jm_i 456 (by decide +kernel) (by decide +kernel)
theorem jm_457 : (Cond.methodLink "KeyDistiller$Dialogue" 137 ⟨"KeyDistiller$Dialogue", "search", "(II)Z"⟩) ∈ jT := jm_i 457 (by decide +kernel) (by decide +kernel)
theorem jm_459 : (Cond.instanceMethod ⟨"KeyDistiller$Dialogue", "search", "(II)Z"⟩) ∈ jT := jm_i 459 (by decide +kernel) (by decide +kernel)
theorem jm_460 : (Cond.code ⟨"KeyDistiller$Dialogue", "search", "(II)Z"⟩ prog_2_method_18_code 7 (some .boolean)) ∈ jT := jm_i 460 (by decide +kernel) (by decide +kernel)
theorem jm_461 : (Cond.methodLink "KeyDistillerLaw" 92 ⟨"KeyDistillerLaw", "letter", "(LKeyDistiller;II[J)I"⟩) ∈ jT := jm_i 461 (by decide +kernel) (by decide +kernel)
theorem jm_462 : (Cond.static ⟨"KeyDistillerLaw", "letter", "(LKeyDistiller;II[J)I"⟩) ∈ jT := jm_i 462 (by decide +kernel) (by decide +kernel)
theorem jm_463 : (Cond.codeWith ⟨"KeyDistillerLaw", "letter", "(LKeyDistiller;II[J)I"⟩ method_7_code 5 (some .int) [(0, 10, 13, 13), (0, 10, 17, 33), (0, 10, 21, 15)]) ∈ jT := jm_i 463 (by decide +kernel) (by decide +kernel)
theorem jm_464 : (Cond.classLink "KeyDistillerLaw" 33 "java/lang/IndexOutOfBoundsException") ∈ jT := jm_i 464 (by decide +kernel) (by decide +kernel)
theorem jm_465 : (Cond.methodLink "KeyDistillerLaw" 29 ⟨"KeyDistiller", "letter", "(II)I"⟩) ∈ jT := jm_i 465 (by decide +kernel) (by decide +kernel)
theorem jm_466 : (Cond.instanceMethod ⟨"KeyDistiller", "letter", "(II)I"⟩) ∈ jT := jm_i 466 (by decide +kernel) (by decide +kernel)
theorem jm_467 : (Cond.selects "KeyDistiller" ⟨"KeyDistiller", "letter", "(II)I"⟩ ⟨"KeyDistiller", "letter", "(II)I"⟩) ∈ jT := jm_i 467 (by decide +kernel) (by decide +kernel)
theorem jm_468 : (Cond.code ⟨"KeyDistiller", "letter", "(II)I"⟩ prog_1_method_8_code 4 (some .int)) ∈ jT := jm_i 468 (by decide +kernel) (by decide +kernel)
theorem jm_470 : (Cond.classLink "KeyDistiller" 147 "java/lang/IndexOutOfBoundsException") ∈ jT := jm_i 470 (by decide +kernel) (by decide +kernel)
theorem jm_471 : (Cond.instantiable "java/lang/IndexOutOfBoundsException" 6) ∈ jT := jm_i 471 (by decide +kernel) (by decide +kernel)
theorem jm_473 : (Cond.selects "java/lang/IndexOutOfBoundsException" ⟨"java/lang/Throwable", "fillInStackTrace", "(I)Ljava/lang/Throwable;"⟩ ⟨"java/lang/Throwable", "fillInStackTrace", "(I)Ljava/lang/Throwable;"⟩) ∈ jT := jm_i 473 (by decide +kernel) (by decide +kernel)
theorem jm_480 : (Cond.methodLink "KeyDistiller" 151 ⟨"java/lang/IndexOutOfBoundsException", "<init>", "(Ljava/lang/String;)V"⟩) ∈ jT := jm_i 480 (by decide +kernel) (by decide +kernel)
theorem jm_481 : (Cond.instanceMethod ⟨"java/lang/IndexOutOfBoundsException", "<init>", "(Ljava/lang/String;)V"⟩) ∈ jT := jm_i 481 (by decide +kernel) (by decide +kernel)
theorem jm_482 : (Cond.code ⟨"java/lang/IndexOutOfBoundsException", "<init>", "(Ljava/lang/String;)V"⟩ prog_11_method_2_code 2 none) ∈ jT := jm_i 482 (by decide +kernel) (by decide +kernel)
theorem jm_483 : (Cond.methodLink "java/lang/IndexOutOfBoundsException" 7 ⟨"java/lang/RuntimeException", "<init>", "(Ljava/lang/String;)V"⟩) ∈ jT := jm_i 483 (by decide +kernel) (by decide +kernel)
theorem jm_489 : (Cond.instanceMethod ⟨"KeyDistiller$Dialogue", "deliver", "(I)V"⟩) ∈ jT := jm_i 489 (by decide +kernel) (by decide +kernel)
theorem jm_490 : (Cond.code ⟨"KeyDistiller$Dialogue", "deliver", "(I)V"⟩ prog_2_method_9_code 5 none) ∈ jT := jm_i 490 (by decide +kernel) (by decide +kernel)
theorem jm_493 : (Cond.instanceMethod ⟨"KeyDistiller$Letters", "takeOut", "(I)V"⟩) ∈ jT := jm_i 493 (by decide +kernel) (by decide +kernel)
theorem jm_494 : (Cond.code ⟨"KeyDistiller$Letters", "takeOut", "(I)V"⟩ prog_4_method_4_code 3 none) ∈ jT := jm_i 494 (by decide +kernel) (by decide +kernel)
theorem jm_495 : (Cond.methodLink "KeyDistiller$Dialogue" 79 ⟨"KeyDistiller$Dialogue", "answer", "(I)V"⟩) ∈ jT := jm_i 495 (by decide +kernel) (by decide +kernel)
theorem jm_497 : (Cond.instanceMethod ⟨"KeyDistiller$Dialogue", "answer", "(I)V"⟩) ∈ jT := jm_i 497 (by decide +kernel) (by decide +kernel)
theorem jm_498 : (Cond.code ⟨"KeyDistiller$Dialogue", "answer", "(I)V"⟩ prog_2_method_10_code 3 none) ∈ jT := jm_i 498 (by decide +kernel) (by decide +kernel)
theorem jm_499 : (Cond.methodLink "KeyDistiller$Dialogue" 95 ⟨"java/lang/Math", "max", "(II)I"⟩) ∈ jT := jm_i 499 (by decide +kernel) (by decide +kernel)
theorem jm_500 : (Cond.static ⟨"java/lang/Math", "max", "(II)I"⟩) ∈ jT := jm_i 500 (by decide +kernel) (by decide +kernel)
theorem jm_501 : (Cond.code ⟨"java/lang/Math", "max", "(II)I"⟩ prog_12_method_65_code 2 (some .int)) ∈ jT := jm_i 501 (by decide +kernel) (by decide +kernel)
theorem jm_502 : (Cond.methodLink "KeyDistiller$Dialogue" 85 ⟨"KeyDistiller$Dialogue", "isNewestUnknown", "()Z"⟩) ∈ jT := jm_i 502 (by decide +kernel) (by decide +kernel)
theorem jm_504 : (Cond.instanceMethod ⟨"KeyDistiller$Dialogue", "isNewestUnknown", "()Z"⟩) ∈ jT := jm_i 504 (by decide +kernel) (by decide +kernel)
theorem jm_505 : (Cond.code ⟨"KeyDistiller$Dialogue", "isNewestUnknown", "()Z"⟩ prog_2_method_11_code 1 (some .boolean)) ∈ jT := jm_i 505 (by decide +kernel) (by decide +kernel)
theorem jm_508 : (Cond.methodLink "KeyDistillerLaw" 100 ⟨"KeyDistillerLaw", "tick", "(LKeyDistiller;[J)I"⟩) ∈ jT := jm_i 508 (by decide +kernel) (by decide +kernel)
theorem jm_509 : (Cond.static ⟨"KeyDistillerLaw", "tick", "(LKeyDistiller;[J)I"⟩) ∈ jT := jm_i 509 (by decide +kernel) (by decide +kernel)
theorem jm_510 : (Cond.codeWith ⟨"KeyDistillerLaw", "tick", "(LKeyDistiller;[J)I"⟩ method_8_code 3 (some .int) [(0, 8, 11, 15)]) ∈ jT := jm_i 510 (by decide +kernel) (by decide +kernel)
theorem jm_511 : (Cond.methodLink "KeyDistillerLaw" 35 ⟨"KeyDistiller", "tick", "()I"⟩) ∈ jT := jm_i 511 (by decide +kernel) (by decide +kernel)
theorem jm_512 : (Cond.instanceMethod ⟨"KeyDistiller", "tick", "()I"⟩) ∈ jT := jm_i 512 (by decide +kernel) (by decide +kernel)
theorem jm_513 : (Cond.selects "KeyDistiller" ⟨"KeyDistiller", "tick", "()I"⟩ ⟨"KeyDistiller", "tick", "()I"⟩) ∈ jT := jm_i 513 (by decide +kernel) (by decide +kernel)
theorem jm_514 : (Cond.code ⟨"KeyDistiller", "tick", "()I"⟩ prog_1_method_10_code 1 (some .int)) ∈ jT := jm_i 514 (by decide +kernel) (by decide +kernel)
theorem jm_518 : (Cond.instanceMethod ⟨"KeyDistiller$Dialogue", "askAgain", "()V"⟩) ∈ jT := jm_i 518 (by decide +kernel) (by decide +kernel)
theorem jm_519 : (Cond.code ⟨"KeyDistiller$Dialogue", "askAgain", "()V"⟩ prog_2_method_12_code 1 none) ∈ jT := jm_i 519 (by decide +kernel) (by decide +kernel)
theorem jm_520 : (Cond.methodLink "KeyDistillerLaw" 120 ⟨"KeyDistillerLaw", "bit", "(LKeyDistiller;II[J)I"⟩) ∈ jT := jm_i 520 (by decide +kernel) (by decide +kernel)
theorem jm_521 : (Cond.static ⟨"KeyDistillerLaw", "bit", "(LKeyDistiller;II[J)I"⟩) ∈ jT := jm_i 521 (by decide +kernel) (by decide +kernel)
theorem jm_522 : (Cond.codeWith ⟨"KeyDistillerLaw", "bit", "(LKeyDistiller;II[J)I"⟩ method_9_code 5 (some .int) [(0, 10, 13, 15), (0, 10, 17, 33)]) ∈ jT := jm_i 522 (by decide +kernel) (by decide +kernel)
theorem jm_523 : (Cond.methodLink "KeyDistillerLaw" 38 ⟨"KeyDistiller", "bit", "(II)I"⟩) ∈ jT := jm_i 523 (by decide +kernel) (by decide +kernel)
theorem jm_524 : (Cond.instanceMethod ⟨"KeyDistiller", "bit", "(II)I"⟩) ∈ jT := jm_i 524 (by decide +kernel) (by decide +kernel)
theorem jm_525 : (Cond.selects "KeyDistiller" ⟨"KeyDistiller", "bit", "(II)I"⟩ ⟨"KeyDistiller", "bit", "(II)I"⟩) ∈ jT := jm_i 525 (by decide +kernel) (by decide +kernel)
theorem jm_526 : (Cond.code ⟨"KeyDistiller", "bit", "(II)I"⟩ prog_1_method_15_code 3 (some .int)) ∈ jT := jm_i 526 (by decide +kernel) (by decide +kernel)
theorem jm_529 : (Cond.methodLink "KeyDistillerLaw" 123 ⟨"KeyDistillerLaw", "item", "(LKeyDistiller;II[J)I"⟩) ∈ jT := jm_i 529 (by decide +kernel) (by decide +kernel)
theorem jm_530 : (Cond.static ⟨"KeyDistillerLaw", "item", "(LKeyDistiller;II[J)I"⟩) ∈ jT := jm_i 530 (by decide +kernel) (by decide +kernel)
theorem jm_531 : (Cond.codeWith ⟨"KeyDistillerLaw", "item", "(LKeyDistiller;II[J)I"⟩ method_10_code 5 (some .int) [(0, 10, 13, 15), (0, 10, 17, 33)]) ∈ jT := jm_i 531 (by decide +kernel) (by decide +kernel)
theorem jm_532 : (Cond.methodLink "KeyDistillerLaw" 41 ⟨"KeyDistiller", "item", "(II)I"⟩) ∈ jT := jm_i 532 (by decide +kernel) (by decide +kernel)
theorem jm_533 : (Cond.instanceMethod ⟨"KeyDistiller", "item", "(II)I"⟩) ∈ jT := jm_i 533 (by decide +kernel) (by decide +kernel)
theorem jm_534 : (Cond.selects "KeyDistiller" ⟨"KeyDistiller", "item", "(II)I"⟩ ⟨"KeyDistiller", "item", "(II)I"⟩) ∈ jT := jm_i 534 (by decide +kernel) (by decide +kernel)
theorem jm_535 : (Cond.code ⟨"KeyDistiller", "item", "(II)I"⟩ prog_1_method_16_code 3 (some .int)) ∈ jT := jm_i 535 (by decide +kernel) (by decide +kernel)
theorem jm_537 : (Cond.methodLink "KeyDistillerLaw" 126 ⟨"KeyDistillerLaw", "tag", "(LKeyDistiller;II[J)I"⟩) ∈ jT := jm_i 537 (by decide +kernel) (by decide +kernel)
theorem jm_538 : (Cond.static ⟨"KeyDistillerLaw", "tag", "(LKeyDistiller;II[J)I"⟩) ∈ jT := jm_i 538 (by decide +kernel) (by decide +kernel)
theorem jm_539 : (Cond.codeWith ⟨"KeyDistillerLaw", "tag", "(LKeyDistiller;II[J)I"⟩ method_11_code 5 (some .int) [(0, 10, 13, 15), (0, 10, 17, 13)]) ∈ jT := jm_i 539 (by decide +kernel) (by decide +kernel)
theorem jm_540 : (Cond.methodLink "KeyDistillerLaw" 44 ⟨"KeyDistiller", "tag", "(II)I"⟩) ∈ jT := jm_i 540 (by decide +kernel) (by decide +kernel)
theorem jm_541 : (Cond.instanceMethod ⟨"KeyDistiller", "tag", "(II)I"⟩) ∈ jT := jm_i 541 (by decide +kernel) (by decide +kernel)
theorem jm_542 : (Cond.selects "KeyDistiller" ⟨"KeyDistiller", "tag", "(II)I"⟩ ⟨"KeyDistiller", "tag", "(II)I"⟩) ∈ jT := jm_i 542 (by decide +kernel) (by decide +kernel)
theorem jm_543 : (Cond.code ⟨"KeyDistiller", "tag", "(II)I"⟩ prog_1_method_17_code 3 (some .int)) ∈ jT := jm_i 543 (by decide +kernel) (by decide +kernel)
theorem jm_544 : (Cond.methodLink "KeyDistiller" 201 ⟨"KeyDistiller", "isTagNumber", "(I)Z"⟩) ∈ jT := jm_i 544 (by decide +kernel) (by decide +kernel)
theorem jm_545 : (Cond.static ⟨"KeyDistiller", "isTagNumber", "(I)Z"⟩) ∈ jT := jm_i 545 (by decide +kernel) (by decide +kernel)
theorem jm_546 : (Cond.code ⟨"KeyDistiller", "isTagNumber", "(I)Z"⟩ prog_1_method_23_code 1 (some .boolean)) ∈ jT := jm_i 546 (by decide +kernel) (by decide +kernel)
theorem jm_547 : (Cond.constant "KeyDistiller" 229 (65535)) ∈ jT := jm_i 547 (by decide +kernel) (by decide +kernel)
theorem jm_551 : (Cond.instanceMethod ⟨"KeyDistiller$Station", "tagWith", "(II)I"⟩) ∈ jT := jm_i 551 (by decide +kernel) (by decide +kernel)
theorem jm_552 : (Cond.code ⟨"KeyDistiller$Station", "tagWith", "(II)I"⟩ prog_5_method_6_code 5 (some .int)) ∈ jT := jm_i 552 (by decide +kernel) (by decide +kernel)
theorem jm_553 : (Cond.methodLink "KeyDistiller$Station" 32 ⟨"java/lang/Math", "min", "(II)I"⟩) ∈ jT := jm_i 553 (by decide +kernel) (by decide +kernel)
theorem jm_554 : (Cond.methodLink "KeyDistiller$Station" 38 ⟨"KeyDistiller$Station", "word", "(II)I"⟩) ∈ jT := jm_i 554 (by decide +kernel) (by decide +kernel)
theorem jm_556 : (Cond.instanceMethod ⟨"KeyDistiller$Station", "word", "(II)I"⟩) ∈ jT := jm_i 556 (by decide +kernel) (by decide +kernel)
theorem jm_557 : (Cond.code ⟨"KeyDistiller$Station", "word", "(II)I"⟩ prog_5_method_7_code 5 (some .int)) ∈ jT := jm_i 557 (by decide +kernel) (by decide +kernel)
theorem jm_558 : (Cond.methodLink "KeyDistiller$Station" 41 ⟨"KeyDistiller$Station", "product", "(II)I"⟩) ∈ jT := jm_i 558 (by decide +kernel) (by decide +kernel)
theorem jm_559 : (Cond.static ⟨"KeyDistiller$Station", "product", "(II)I"⟩) ∈ jT := jm_i 559 (by decide +kernel) (by decide +kernel)
theorem jm_560 : (Cond.code ⟨"KeyDistiller$Station", "product", "(II)I"⟩ prog_5_method_8_code 5 (some .int)) ∈ jT := jm_i 560 (by decide +kernel) (by decide +kernel)
theorem jm_561 : (Cond.constant "KeyDistiller$Station" 44 (65535)) ∈ jT := jm_i 561 (by decide +kernel) (by decide +kernel)
theorem jm_562 : (Cond.constant "KeyDistiller$Station" 45 (65579)) ∈ jT := jm_i 562 (by decide +kernel) (by decide +kernel)
theorem jm_563 : (Cond.methodLink "KeyDistillerLaw" 129 ⟨"KeyDistillerLaw", "shorten", "(LKeyDistiller;JII[J)I"⟩) ∈ jT := jm_i 563 (by decide +kernel) (by decide +kernel)
theorem jm_564 : (Cond.static ⟨"KeyDistillerLaw", "shorten", "(LKeyDistiller;JII[J)I"⟩) ∈ jT := jm_i 564 (by decide +kernel) (by decide +kernel)
theorem jm_565 : (Cond.codeWith ⟨"KeyDistillerLaw", "shorten", "(LKeyDistiller;JII[J)I"⟩ method_12_code 7 (some .int) [(0, 13, 16, 15), (0, 13, 20, 13), (0, 13, 24, 51)]) ∈ jT := jm_i 565 (by decide +kernel) (by decide +kernel)
theorem jm_566 : (Cond.classLink "KeyDistillerLaw" 51 "java/lang/UnsupportedOperationException") ∈ jT := jm_i 566 (by decide +kernel) (by decide +kernel)
theorem jm_567 : (Cond.methodLink "KeyDistillerLaw" 47 ⟨"KeyDistiller", "shorten", "(JII)I"⟩) ∈ jT := jm_i 567 (by decide +kernel) (by decide +kernel)
theorem jm_568 : (Cond.instanceMethod ⟨"KeyDistiller", "shorten", "(JII)I"⟩) ∈ jT := jm_i 568 (by decide +kernel) (by decide +kernel)
theorem jm_569 : (Cond.selects "KeyDistiller" ⟨"KeyDistiller", "shorten", "(JII)I"⟩ ⟨"KeyDistiller", "shorten", "(JII)I"⟩) ∈ jT := jm_i 569 (by decide +kernel) (by decide +kernel)
theorem jm_570 : (Cond.code ⟨"KeyDistiller", "shorten", "(JII)I"⟩ prog_1_method_18_code 7 (some .int)) ∈ jT := jm_i 570 (by decide +kernel) (by decide +kernel)
theorem jm_573 : (Cond.classLink "KeyDistiller" 213 "java/lang/UnsupportedOperationException") ∈ jT := jm_i 573 (by decide +kernel) (by decide +kernel)
theorem jm_574 : (Cond.instantiable "java/lang/UnsupportedOperationException" 6) ∈ jT := jm_i 574 (by decide +kernel) (by decide +kernel)
theorem jm_576 : (Cond.selects "java/lang/UnsupportedOperationException" ⟨"java/lang/Throwable", "fillInStackTrace", "(I)Ljava/lang/Throwable;"⟩ ⟨"java/lang/Throwable", "fillInStackTrace", "(I)Ljava/lang/Throwable;"⟩) ∈ jT := jm_i 576 (by decide +kernel) (by decide +kernel)
theorem jm_583 : (Cond.methodLink "KeyDistiller" 217 ⟨"java/lang/UnsupportedOperationException", "<init>", "(Ljava/lang/String;)V"⟩) ∈ jT := jm_i 583 (by decide +kernel) (by decide +kernel)
theorem jm_584 : (Cond.instanceMethod ⟨"java/lang/UnsupportedOperationException", "<init>", "(Ljava/lang/String;)V"⟩) ∈ jT := jm_i 584 (by decide +kernel) (by decide +kernel)
theorem jm_585 : (Cond.code ⟨"java/lang/UnsupportedOperationException", "<init>", "(Ljava/lang/String;)V"⟩ prog_16_method_2_code 2 none) ∈ jT := jm_i 585 (by decide +kernel) (by decide +kernel)
theorem jm_586 : (Cond.methodLink "java/lang/UnsupportedOperationException" 7 ⟨"java/lang/RuntimeException", "<init>", "(Ljava/lang/String;)V"⟩) ∈ jT := jm_i 586 (by decide +kernel) (by decide +kernel)
theorem jm_592 : (Cond.instanceMethod ⟨"KeyDistiller$Drawing", "drawBit", "()I"⟩) ∈ jT := jm_i 592 (by decide +kernel) (by decide +kernel)
theorem jm_593 : (Cond.code ⟨"KeyDistiller$Drawing", "drawBit", "()I"⟩ prog_3_method_4_code 1 (some .int)) ∈ jT := jm_i 593 (by decide +kernel) (by decide +kernel)
theorem jm_594 : (Cond.methodLink "KeyDistillerLaw" 133 ⟨"KeyDistillerLaw", "key", "(LKeyDistiller;II[J)I"⟩) ∈ jT := jm_i 594 (by decide +kernel) (by decide +kernel)
theorem jm_595 : (Cond.static ⟨"KeyDistillerLaw", "key", "(LKeyDistiller;II[J)I"⟩) ∈ jT := jm_i 595 (by decide +kernel) (by decide +kernel)
theorem jm_596 : (Cond.codeWith ⟨"KeyDistillerLaw", "key", "(LKeyDistiller;II[J)I"⟩ method_13_code 5 (some .int) [(0, 10, 13, 33)]) ∈ jT := jm_i 596 (by decide +kernel) (by decide +kernel)
theorem jm_597 : (Cond.methodLink "KeyDistillerLaw" 53 ⟨"KeyDistiller", "key", "(II)I"⟩) ∈ jT := jm_i 597 (by decide +kernel) (by decide +kernel)
theorem jm_598 : (Cond.instanceMethod ⟨"KeyDistiller", "key", "(II)I"⟩) ∈ jT := jm_i 598 (by decide +kernel) (by decide +kernel)
theorem jm_599 : (Cond.selects "KeyDistiller" ⟨"KeyDistiller", "key", "(II)I"⟩ ⟨"KeyDistiller", "key", "(II)I"⟩) ∈ jT := jm_i 599 (by decide +kernel) (by decide +kernel)
theorem jm_600 : (Cond.code ⟨"KeyDistiller", "key", "(II)I"⟩ prog_1_method_19_code 6 (some .int)) ∈ jT := jm_i 600 (by decide +kernel) (by decide +kernel)
theorem jm_601 : (Cond.classLink "KeyDistillerLaw" 57 "KeyDistillerModel") ∈ jT := jm_i 601 (by decide +kernel) (by decide +kernel)
theorem jm_602 : (Cond.instantiable "KeyDistillerModel" 31) ∈ jT := jm_i 602 (by decide +kernel) (by decide +kernel)
theorem jm_603 : (Cond.methodLink "KeyDistillerLaw" 59 ⟨"KeyDistillerModel", "<init>", "()V"⟩) ∈ jT := jm_i 603 (by decide +kernel) (by decide +kernel)
theorem jm_604 : (Cond.instanceMethod ⟨"KeyDistillerModel", "<init>", "()V"⟩) ∈ jT := jm_i 604 (by decide +kernel) (by decide +kernel)
theorem jm_605 : (Cond.code ⟨"KeyDistillerModel", "<init>", "()V"⟩ prog_7_method_1_code 1 none) ∈ jT := jm_i 605 (by decide +kernel) (by decide +kernel)
theorem jm_606 : (Cond.methodLink "KeyDistillerModel" 1 ⟨"java/lang/Object", "<init>", "()V"⟩) ∈ jT := jm_i 606 (by decide +kernel) (by decide +kernel)
theorem jm_607 : (Cond.fieldLink "KeyDistillerModel" 66 "KeyDistillerModel" "thrown" "I") ∈ jT := jm_i 607 (by decide +kernel) (by decide +kernel)
theorem jm_608 : (Cond.fieldLink "KeyDistillerModel" 7 "KeyDistillerModel" "recorded" "[Z") ∈ jT := jm_i 608 (by decide +kernel) (by decide +kernel)
theorem jm_609 : (Cond.fieldLink "KeyDistillerModel" 13 "KeyDistillerModel" "basis" "[I") ∈ jT := jm_i 609 (by decide +kernel) (by decide +kernel)
theorem jm_610 : (Cond.fieldLink "KeyDistillerModel" 17 "KeyDistillerModel" "value" "[I") ∈ jT := jm_i 610 (by decide +kernel) (by decide +kernel)
theorem jm_611 : (Cond.fieldLink "KeyDistillerModel" 20 "KeyDistillerModel" "saw" "[Z") ∈ jT := jm_i 611 (by decide +kernel) (by decide +kernel)
theorem jm_612 : (Cond.fieldLink "KeyDistillerModel" 77 "KeyDistillerModel" "sifted" "Z") ∈ jT := jm_i 612 (by decide +kernel) (by decide +kernel)
theorem jm_613 : (Cond.fieldLink "KeyDistillerModel" 85 "KeyDistillerModel" "length" "I") ∈ jT := jm_i 613 (by decide +kernel) (by decide +kernel)
theorem jm_614 : (Cond.fieldLink "KeyDistillerModel" 23 "KeyDistillerModel" "string" "[I") ∈ jT := jm_i 614 (by decide +kernel) (by decide +kernel)
theorem jm_615 : (Cond.fieldLink "KeyDistillerModel" 111 "KeyDistillerModel" "given" "I") ∈ jT := jm_i 615 (by decide +kernel) (by decide +kernel)
theorem jm_616 : (Cond.fieldLink "KeyDistillerModel" 114 "KeyDistillerModel" "differed" "I") ∈ jT := jm_i 616 (by decide +kernel) (by decide +kernel)
theorem jm_617 : (Cond.fieldLink "KeyDistillerModel" 88 "KeyDistillerModel" "s" "J") ∈ jT := jm_i 617 (by decide +kernel) (by decide +kernel)
theorem jm_618 : (Cond.fieldLink "KeyDistillerModel" 26 "KeyDistillerModel" "shuffled" "[I") ∈ jT := jm_i 618 (by decide +kernel) (by decide +kernel)
theorem jm_619 : (Cond.fieldLink "KeyDistillerModel" 29 "KeyDistillerModel" "leaves" "[Z") ∈ jT := jm_i 619 (by decide +kernel) (by decide +kernel)
theorem jm_620 : (Cond.fieldLink "KeyDistillerModel" 104 "KeyDistillerModel" "begun" "Z") ∈ jT := jm_i 620 (by decide +kernel) (by decide +kernel)
theorem jm_621 : (Cond.fieldLink "KeyDistillerModel" 117 "KeyDistillerModel" "size" "I") ∈ jT := jm_i 621 (by decide +kernel) (by decide +kernel)
theorem jm_622 : (Cond.fieldLink "KeyDistillerModel" 32 "KeyDistillerModel" "inPass" "I") ∈ jT := jm_i 622 (by decide +kernel) (by decide +kernel)
theorem jm_623 : (Cond.fieldLink "KeyDistillerModel" 36 "KeyDistillerModel" "order" "[I") ∈ jT := jm_i 623 (by decide +kernel) (by decide +kernel)
theorem jm_624 : (Cond.fieldLink "KeyDistillerModel" 129 "KeyDistillerModel" "asked" "I") ∈ jT := jm_i 624 (by decide +kernel) (by decide +kernel)
theorem jm_625 : (Cond.fieldLink "KeyDistillerModel" 126 "KeyDistillerModel" "learned" "I") ∈ jT := jm_i 625 (by decide +kernel) (by decide +kernel)
theorem jm_626 : (Cond.fieldLink "KeyDistillerModel" 166 "KeyDistillerModel" "answers" "I") ∈ jT := jm_i 626 (by decide +kernel) (by decide +kernel)
theorem jm_627 : (Cond.fieldLink "KeyDistillerModel" 39 "KeyDistillerModel" "askedPass" "[I") ∈ jT := jm_i 627 (by decide +kernel) (by decide +kernel)
theorem jm_628 : (Cond.fieldLink "KeyDistillerModel" 42 "KeyDistillerModel" "askedFrom" "[I") ∈ jT := jm_i 628 (by decide +kernel) (by decide +kernel)
theorem jm_629 : (Cond.fieldLink "KeyDistillerModel" 45 "KeyDistillerModel" "askedTo" "[I") ∈ jT := jm_i 629 (by decide +kernel) (by decide +kernel)
theorem jm_630 : (Cond.fieldLink "KeyDistillerModel" 48 "KeyDistillerModel" "parity" "[I") ∈ jT := jm_i 630 (by decide +kernel) (by decide +kernel)
theorem jm_631 : (Cond.fieldLink "KeyDistillerModel" 123 "KeyDistillerModel" "letters" "I") ∈ jT := jm_i 631 (by decide +kernel) (by decide +kernel)
theorem jm_632 : (Cond.fieldLink "KeyDistillerModel" 51 "KeyDistillerModel" "isAnswer" "[Z") ∈ jT := jm_i 632 (by decide +kernel) (by decide +kernel)
theorem jm_633 : (Cond.fieldLink "KeyDistillerModel" 54 "KeyDistillerModel" "number" "[I") ∈ jT := jm_i 633 (by decide +kernel) (by decide +kernel)
theorem jm_634 : (Cond.fieldLink "KeyDistillerModel" 57 "KeyDistillerModel" "bitOf" "[I") ∈ jT := jm_i 634 (by decide +kernel) (by decide +kernel)
theorem jm_635 : (Cond.fieldLink "KeyDistillerModel" 178 "KeyDistillerModel" "keyLength" "I") ∈ jT := jm_i 635 (by decide +kernel) (by decide +kernel)
theorem jm_636 : (Cond.fieldLink "KeyDistillerModel" 60 "KeyDistillerModel" "keys" "[I") ∈ jT := jm_i 636 (by decide +kernel) (by decide +kernel)
theorem jm_637 : (Cond.fieldLink "KeyDistillerModel" 63 "KeyDistillerModel" "drawn" "[I") ∈ jT := jm_i 637 (by decide +kernel) (by decide +kernel)
theorem jm_701 : (Cond.methodLink "KeyDistillerLaw" 66 ⟨"KeyDistillerModel", "thrown", "()I"⟩) ∈ jT := jm_i 701 (by decide +kernel) (by decide +kernel)
theorem jm_702 : (Cond.instanceMethod ⟨"KeyDistillerModel", "thrown", "()I"⟩) ∈ jT := jm_i 702 (by decide +kernel) (by decide +kernel)
theorem jm_703 : (Cond.selects "KeyDistillerModel" ⟨"KeyDistillerModel", "thrown", "()I"⟩ ⟨"KeyDistillerModel", "thrown", "()I"⟩) ∈ jT := jm_i 703 (by decide +kernel) (by decide +kernel)
theorem jm_704 : (Cond.code ⟨"KeyDistillerModel", "thrown", "()I"⟩ prog_7_method_2_code 1 (some .int)) ∈ jT := jm_i 704 (by decide +kernel) (by decide +kernel)
theorem jm_705 : (Cond.methodLink "KeyDistillerLaw" 65 ⟨"KeyDistillerModel", "record", "(IIIIII)I"⟩) ∈ jT := jm_i 705 (by decide +kernel) (by decide +kernel)
theorem jm_706 : (Cond.instanceMethod ⟨"KeyDistillerModel", "record", "(IIIIII)I"⟩) ∈ jT := jm_i 706 (by decide +kernel) (by decide +kernel)
theorem jm_707 : (Cond.selects "KeyDistillerModel" ⟨"KeyDistillerModel", "record", "(IIIIII)I"⟩ ⟨"KeyDistillerModel", "record", "(IIIIII)I"⟩) ∈ jT := jm_i 707 (by decide +kernel) (by decide +kernel)
theorem jm_708 : (Cond.code ⟨"KeyDistillerModel", "record", "(IIIIII)I"⟩ prog_7_method_6_code 10 (some .int)) ∈ jT := jm_i 708 (by decide +kernel) (by decide +kernel)
theorem jm_709 : (Cond.methodLink "KeyDistillerModel" 69 ⟨"KeyDistillerModel", "isStation", "(I)Z"⟩) ∈ jT := jm_i 709 (by decide +kernel) (by decide +kernel)
theorem jm_710 : (Cond.static ⟨"KeyDistillerModel", "isStation", "(I)Z"⟩) ∈ jT := jm_i 710 (by decide +kernel) (by decide +kernel)
theorem jm_711 : (Cond.code ⟨"KeyDistillerModel", "isStation", "(I)Z"⟩ prog_7_method_5_code 1 (some .boolean)) ∈ jT := jm_i 711 (by decide +kernel) (by decide +kernel)
theorem jm_712 : (Cond.methodLink "KeyDistillerModel" 73 ⟨"KeyDistillerModel", "within", "(III)Z"⟩) ∈ jT := jm_i 712 (by decide +kernel) (by decide +kernel)
theorem jm_713 : (Cond.static ⟨"KeyDistillerModel", "within", "(III)Z"⟩) ∈ jT := jm_i 713 (by decide +kernel) (by decide +kernel)
theorem jm_714 : (Cond.code ⟨"KeyDistillerModel", "within", "(III)Z"⟩ prog_7_method_4_code 3 (some .boolean)) ∈ jT := jm_i 714 (by decide +kernel) (by decide +kernel)
theorem jm_715 : (Cond.methodLink "KeyDistillerModel" 81 ⟨"KeyDistillerModel", "refuse", "(I)I"⟩) ∈ jT := jm_i 715 (by decide +kernel) (by decide +kernel)
theorem jm_717 : (Cond.instanceMethod ⟨"KeyDistillerModel", "refuse", "(I)I"⟩) ∈ jT := jm_i 717 (by decide +kernel) (by decide +kernel)
theorem jm_718 : (Cond.code ⟨"KeyDistillerModel", "refuse", "(I)I"⟩ prog_7_method_3_code 2 (some .int)) ∈ jT := jm_i 718 (by decide +kernel) (by decide +kernel)
theorem jm_719 : (Cond.methodLink "KeyDistillerLaw" 72 ⟨"KeyDistillerModel", "sift", "()I"⟩) ∈ jT := jm_i 719 (by decide +kernel) (by decide +kernel)
theorem jm_720 : (Cond.instanceMethod ⟨"KeyDistillerModel", "sift", "()I"⟩) ∈ jT := jm_i 720 (by decide +kernel) (by decide +kernel)
theorem jm_721 : (Cond.selects "KeyDistillerModel" ⟨"KeyDistillerModel", "sift", "()I"⟩ ⟨"KeyDistillerModel", "sift", "()I"⟩) ∈ jT := jm_i 721 (by decide +kernel) (by decide +kernel)
theorem jm_722 : (Cond.code ⟨"KeyDistillerModel", "sift", "()I"⟩ prog_7_method_7_code 2 (some .int)) ∈ jT := jm_i 722 (by decide +kernel) (by decide +kernel)
theorem jm_723 : (Cond.methodLink "KeyDistillerLaw" 76 ⟨"KeyDistillerModel", "length", "()I"⟩) ∈ jT := jm_i 723 (by decide +kernel) (by decide +kernel)
theorem jm_724 : (Cond.instanceMethod ⟨"KeyDistillerModel", "length", "()I"⟩) ∈ jT := jm_i 724 (by decide +kernel) (by decide +kernel)
theorem jm_725 : (Cond.selects "KeyDistillerModel" ⟨"KeyDistillerModel", "length", "()I"⟩ ⟨"KeyDistillerModel", "length", "()I"⟩) ∈ jT := jm_i 725 (by decide +kernel) (by decide +kernel)
theorem jm_726 : (Cond.code ⟨"KeyDistillerModel", "length", "()I"⟩ prog_7_method_8_code 1 (some .int)) ∈ jT := jm_i 726 (by decide +kernel) (by decide +kernel)
theorem jm_727 : (Cond.methodLink "KeyDistillerLaw" 82 ⟨"KeyDistillerModel", "sample", "(JI)I"⟩) ∈ jT := jm_i 727 (by decide +kernel) (by decide +kernel)
theorem jm_728 : (Cond.instanceMethod ⟨"KeyDistillerModel", "sample", "(JI)I"⟩) ∈ jT := jm_i 728 (by decide +kernel) (by decide +kernel)
theorem jm_729 : (Cond.selects "KeyDistillerModel" ⟨"KeyDistillerModel", "sample", "(JI)I"⟩ ⟨"KeyDistillerModel", "sample", "(JI)I"⟩) ∈ jT := jm_i 729 (by decide +kernel) (by decide +kernel)
theorem jm_730 : (Cond.code ⟨"KeyDistillerModel", "sample", "(JI)I"⟩ prog_7_method_12_code 7 (some .int)) ∈ jT := jm_i 730 (by decide +kernel) (by decide +kernel)
theorem jm_731 : (Cond.methodLink "KeyDistillerModel" 107 ⟨"KeyDistillerModel", "shuffle", "(IJ)V"⟩) ∈ jT := jm_i 731 (by decide +kernel) (by decide +kernel)
theorem jm_733 : (Cond.instanceMethod ⟨"KeyDistillerModel", "shuffle", "(IJ)V"⟩) ∈ jT := jm_i 733 (by decide +kernel) (by decide +kernel)
theorem jm_734 : (Cond.code ⟨"KeyDistillerModel", "shuffle", "(IJ)V"⟩ prog_7_method_11_code 7 none) ∈ jT := jm_i 734 (by decide +kernel) (by decide +kernel)
theorem jm_735 : (Cond.methodLink "KeyDistillerModel" 101 ⟨"KeyDistillerModel", "draw", "(I)I"⟩) ∈ jT := jm_i 735 (by decide +kernel) (by decide +kernel)
theorem jm_737 : (Cond.instanceMethod ⟨"KeyDistillerModel", "draw", "(I)I"⟩) ∈ jT := jm_i 737 (by decide +kernel) (by decide +kernel)
theorem jm_738 : (Cond.code ⟨"KeyDistillerModel", "draw", "(I)I"⟩ prog_7_method_10_code 8 (some .int)) ∈ jT := jm_i 738 (by decide +kernel) (by decide +kernel)
theorem jm_739 : (Cond.constantLong "KeyDistillerModel" 96 (2147483648)) ∈ jT := jm_i 739 (by decide +kernel) (by decide +kernel)
theorem jm_740 : (Cond.methodLink "KeyDistillerModel" 98 ⟨"KeyDistillerModel", "turn", "()V"⟩) ∈ jT := jm_i 740 (by decide +kernel) (by decide +kernel)
theorem jm_742 : (Cond.instanceMethod ⟨"KeyDistillerModel", "turn", "()V"⟩) ∈ jT := jm_i 742 (by decide +kernel) (by decide +kernel)
theorem jm_743 : (Cond.code ⟨"KeyDistillerModel", "turn", "()V"⟩ prog_7_method_9_code 1 none) ∈ jT := jm_i 743 (by decide +kernel) (by decide +kernel)
theorem jm_744 : (Cond.constantLong "KeyDistillerModel" 92 (6364136223846793005)) ∈ jT := jm_i 744 (by decide +kernel) (by decide +kernel)
theorem jm_745 : (Cond.constantLong "KeyDistillerModel" 94 (1442695040888963407)) ∈ jT := jm_i 745 (by decide +kernel) (by decide +kernel)
theorem jm_746 : (Cond.methodLink "KeyDistillerLaw" 87 ⟨"KeyDistillerModel", "sampled", "(I)I"⟩) ∈ jT := jm_i 746 (by decide +kernel) (by decide +kernel)
theorem jm_747 : (Cond.instanceMethod ⟨"KeyDistillerModel", "sampled", "(I)I"⟩) ∈ jT := jm_i 747 (by decide +kernel) (by decide +kernel)
theorem jm_748 : (Cond.selects "KeyDistillerModel" ⟨"KeyDistillerModel", "sampled", "(I)I"⟩ ⟨"KeyDistillerModel", "sampled", "(I)I"⟩) ∈ jT := jm_i 748 (by decide +kernel) (by decide +kernel)
theorem jm_749 : (Cond.code ⟨"KeyDistillerModel", "sampled", "(I)I"⟩ prog_7_method_13_code 2 (some .int)) ∈ jT := jm_i 749 (by decide +kernel) (by decide +kernel)
theorem jm_750 : (Cond.methodLink "KeyDistillerLaw" 91 ⟨"KeyDistillerModel", "start", "(IJ)I"⟩) ∈ jT := jm_i 750 (by decide +kernel) (by decide +kernel)
theorem jm_751 : (Cond.instanceMethod ⟨"KeyDistillerModel", "start", "(IJ)I"⟩) ∈ jT := jm_i 751 (by decide +kernel) (by decide +kernel)
theorem jm_752 : (Cond.selects "KeyDistillerModel" ⟨"KeyDistillerModel", "start", "(IJ)I"⟩ ⟨"KeyDistillerModel", "start", "(IJ)I"⟩) ∈ jT := jm_i 752 (by decide +kernel) (by decide +kernel)
theorem jm_753 : (Cond.code ⟨"KeyDistillerModel", "start", "(IJ)I"⟩ prog_7_method_14_code 6 (some .int)) ∈ jT := jm_i 753 (by decide +kernel) (by decide +kernel)
theorem jm_754 : (Cond.methodLink "KeyDistillerModel" 120 ⟨"KeyDistillerModel", "goOn", "()V"⟩) ∈ jT := jm_i 754 (by decide +kernel) (by decide +kernel)
theorem jm_756 : (Cond.instanceMethod ⟨"KeyDistillerModel", "goOn", "()V"⟩) ∈ jT := jm_i 756 (by decide +kernel) (by decide +kernel)
theorem jm_757 : (Cond.code ⟨"KeyDistillerModel", "goOn", "()V"⟩ prog_7_method_23_code 3 none) ∈ jT := jm_i 757 (by decide +kernel) (by decide +kernel)
theorem jm_758 : (Cond.methodLink "KeyDistillerModel" 155 ⟨"KeyDistillerModel", "asksForBlock", "()Z"⟩) ∈ jT := jm_i 758 (by decide +kernel) (by decide +kernel)
theorem jm_760 : (Cond.instanceMethod ⟨"KeyDistillerModel", "asksForBlock", "()Z"⟩) ∈ jT := jm_i 760 (by decide +kernel) (by decide +kernel)
theorem jm_761 : (Cond.code ⟨"KeyDistillerModel", "asksForBlock", "()Z"⟩ prog_7_method_21_code 2 (some .boolean)) ∈ jT := jm_i 761 (by decide +kernel) (by decide +kernel)
theorem jm_762 : (Cond.methodLink "KeyDistillerModel" 139 ⟨"KeyDistillerModel", "end", "(II)I"⟩) ∈ jT := jm_i 762 (by decide +kernel) (by decide +kernel)
theorem jm_764 : (Cond.instanceMethod ⟨"KeyDistillerModel", "end", "(II)I"⟩) ∈ jT := jm_i 764 (by decide +kernel) (by decide +kernel)
theorem jm_765 : (Cond.code ⟨"KeyDistillerModel", "end", "(II)I"⟩ prog_7_method_20_code 4 (some .int)) ∈ jT := jm_i 765 (by decide +kernel) (by decide +kernel)
theorem jm_766 : (Cond.methodLink "KeyDistillerModel" 136 ⟨"KeyDistillerModel", "blockSize", "(I)I"⟩) ∈ jT := jm_i 766 (by decide +kernel) (by decide +kernel)
theorem jm_768 : (Cond.instanceMethod ⟨"KeyDistillerModel", "blockSize", "(I)I"⟩) ∈ jT := jm_i 768 (by decide +kernel) (by decide +kernel)
theorem jm_769 : (Cond.code ⟨"KeyDistillerModel", "blockSize", "(I)I"⟩ prog_7_method_19_code 2 (some .int)) ∈ jT := jm_i 769 (by decide +kernel) (by decide +kernel)
theorem jm_770 : (Cond.methodLink "KeyDistillerModel" 143 ⟨"KeyDistillerModel", "known", "(III)I"⟩) ∈ jT := jm_i 770 (by decide +kernel) (by decide +kernel)
theorem jm_772 : (Cond.instanceMethod ⟨"KeyDistillerModel", "known", "(III)I"⟩) ∈ jT := jm_i 772 (by decide +kernel) (by decide +kernel)
theorem jm_773 : (Cond.code ⟨"KeyDistillerModel", "known", "(III)I"⟩ prog_7_method_16_code 5 (some .int)) ∈ jT := jm_i 773 (by decide +kernel) (by decide +kernel)
theorem jm_774 : (Cond.methodLink "KeyDistillerModel" 147 ⟨"KeyDistillerModel", "ask", "(III)V"⟩) ∈ jT := jm_i 774 (by decide +kernel) (by decide +kernel)
theorem jm_776 : (Cond.instanceMethod ⟨"KeyDistillerModel", "ask", "(III)V"⟩) ∈ jT := jm_i 776 (by decide +kernel) (by decide +kernel)
theorem jm_777 : (Cond.code ⟨"KeyDistillerModel", "ask", "(III)V"⟩ prog_7_method_17_code 4 none) ∈ jT := jm_i 777 (by decide +kernel) (by decide +kernel)
theorem jm_778 : (Cond.methodLink "KeyDistillerModel" 132 ⟨"KeyDistillerModel", "send", "(ZII)V"⟩) ∈ jT := jm_i 778 (by decide +kernel) (by decide +kernel)
theorem jm_780 : (Cond.instanceMethod ⟨"KeyDistillerModel", "send", "(ZII)V"⟩) ∈ jT := jm_i 780 (by decide +kernel) (by decide +kernel)
theorem jm_781 : (Cond.code ⟨"KeyDistillerModel", "send", "(ZII)V"⟩ prog_7_method_18_code 4 none) ∈ jT := jm_i 781 (by decide +kernel) (by decide +kernel)
theorem jm_782 : (Cond.methodLink "KeyDistillerModel" 159 ⟨"KeyDistillerModel", "search", "()I"⟩) ∈ jT := jm_i 782 (by decide +kernel) (by decide +kernel)
theorem jm_784 : (Cond.instanceMethod ⟨"KeyDistillerModel", "search", "()I"⟩) ∈ jT := jm_i 784 (by decide +kernel) (by decide +kernel)
theorem jm_785 : (Cond.code ⟨"KeyDistillerModel", "search", "()I"⟩ prog_7_method_22_code 8 (some .int)) ∈ jT := jm_i 785 (by decide +kernel) (by decide +kernel)
theorem jm_786 : (Cond.methodLink "KeyDistillerModel" 151 ⟨"KeyDistillerModel", "parityAt", "(IIII)I"⟩) ∈ jT := jm_i 786 (by decide +kernel) (by decide +kernel)
theorem jm_788 : (Cond.instanceMethod ⟨"KeyDistillerModel", "parityAt", "(IIII)I"⟩) ∈ jT := jm_i 788 (by decide +kernel) (by decide +kernel)
theorem jm_789 : (Cond.code ⟨"KeyDistillerModel", "parityAt", "(IIII)I"⟩ prog_7_method_15_code 7 (some .int)) ∈ jT := jm_i 789 (by decide +kernel) (by decide +kernel)
theorem jm_790 : (Cond.methodLink "KeyDistillerLaw" 95 ⟨"KeyDistillerModel", "letter", "(II)I"⟩) ∈ jT := jm_i 790 (by decide +kernel) (by decide +kernel)
theorem jm_791 : (Cond.instanceMethod ⟨"KeyDistillerModel", "letter", "(II)I"⟩) ∈ jT := jm_i 791 (by decide +kernel) (by decide +kernel)
theorem jm_792 : (Cond.selects "KeyDistillerModel" ⟨"KeyDistillerModel", "letter", "(II)I"⟩ ⟨"KeyDistillerModel", "letter", "(II)I"⟩) ∈ jT := jm_i 792 (by decide +kernel) (by decide +kernel)
theorem jm_793 : (Cond.code ⟨"KeyDistillerModel", "letter", "(II)I"⟩ prog_7_method_24_code 7 (some .int)) ∈ jT := jm_i 793 (by decide +kernel) (by decide +kernel)
theorem jm_794 : (Cond.methodLink "KeyDistillerModel" 163 ⟨"KeyDistillerModel", "comes", "(ZII)V"⟩) ∈ jT := jm_i 794 (by decide +kernel) (by decide +kernel)
theorem jm_796 : (Cond.instanceMethod ⟨"KeyDistillerModel", "comes", "(ZII)V"⟩) ∈ jT := jm_i 796 (by decide +kernel) (by decide +kernel)
theorem jm_797 : (Cond.code ⟨"KeyDistillerModel", "comes", "(ZII)V"⟩ prog_7_method_25_code 4 none) ∈ jT := jm_i 797 (by decide +kernel) (by decide +kernel)
theorem jm_798 : (Cond.methodLink "KeyDistillerLaw" 99 ⟨"KeyDistillerModel", "told", "(II)I"⟩) ∈ jT := jm_i 798 (by decide +kernel) (by decide +kernel)
theorem jm_799 : (Cond.instanceMethod ⟨"KeyDistillerModel", "told", "(II)I"⟩) ∈ jT := jm_i 799 (by decide +kernel) (by decide +kernel)
theorem jm_800 : (Cond.selects "KeyDistillerModel" ⟨"KeyDistillerModel", "told", "(II)I"⟩ ⟨"KeyDistillerModel", "told", "(II)I"⟩) ∈ jT := jm_i 800 (by decide +kernel) (by decide +kernel)
theorem jm_801 : (Cond.code ⟨"KeyDistillerModel", "told", "(II)I"⟩ prog_7_method_26_code 4 (some .int)) ∈ jT := jm_i 801 (by decide +kernel) (by decide +kernel)
theorem jm_802 : (Cond.methodLink "KeyDistillerLaw" 102 ⟨"KeyDistillerModel", "tick", "()I"⟩) ∈ jT := jm_i 802 (by decide +kernel) (by decide +kernel)
theorem jm_803 : (Cond.instanceMethod ⟨"KeyDistillerModel", "tick", "()I"⟩) ∈ jT := jm_i 803 (by decide +kernel) (by decide +kernel)
theorem jm_804 : (Cond.selects "KeyDistillerModel" ⟨"KeyDistillerModel", "tick", "()I"⟩ ⟨"KeyDistillerModel", "tick", "()I"⟩) ∈ jT := jm_i 804 (by decide +kernel) (by decide +kernel)
theorem jm_805 : (Cond.code ⟨"KeyDistillerModel", "tick", "()I"⟩ prog_7_method_27_code 1 (some .int)) ∈ jT := jm_i 805 (by decide +kernel) (by decide +kernel)
theorem jm_806 : (Cond.methodLink "KeyDistillerLaw" 107 ⟨"KeyDistillerModel", "done", "()Z"⟩) ∈ jT := jm_i 806 (by decide +kernel) (by decide +kernel)
theorem jm_807 : (Cond.instanceMethod ⟨"KeyDistillerModel", "done", "()Z"⟩) ∈ jT := jm_i 807 (by decide +kernel) (by decide +kernel)
theorem jm_808 : (Cond.selects "KeyDistillerModel" ⟨"KeyDistillerModel", "done", "()Z"⟩ ⟨"KeyDistillerModel", "done", "()Z"⟩) ∈ jT := jm_i 808 (by decide +kernel) (by decide +kernel)
theorem jm_809 : (Cond.code ⟨"KeyDistillerModel", "done", "()Z"⟩ prog_7_method_28_code 1 (some .boolean)) ∈ jT := jm_i 809 (by decide +kernel) (by decide +kernel)
theorem jm_810 : (Cond.methodLink "KeyDistillerLaw" 111 ⟨"KeyDistillerModel", "pass", "()I"⟩) ∈ jT := jm_i 810 (by decide +kernel) (by decide +kernel)
theorem jm_811 : (Cond.instanceMethod ⟨"KeyDistillerModel", "pass", "()I"⟩) ∈ jT := jm_i 811 (by decide +kernel) (by decide +kernel)
theorem jm_812 : (Cond.selects "KeyDistillerModel" ⟨"KeyDistillerModel", "pass", "()I"⟩ ⟨"KeyDistillerModel", "pass", "()I"⟩) ∈ jT := jm_i 812 (by decide +kernel) (by decide +kernel)
theorem jm_813 : (Cond.code ⟨"KeyDistillerModel", "pass", "()I"⟩ prog_7_method_29_code 1 (some .int)) ∈ jT := jm_i 813 (by decide +kernel) (by decide +kernel)
theorem jm_814 : (Cond.methodLink "KeyDistillerLaw" 115 ⟨"KeyDistillerModel", "disclosed", "()I"⟩) ∈ jT := jm_i 814 (by decide +kernel) (by decide +kernel)
theorem jm_815 : (Cond.instanceMethod ⟨"KeyDistillerModel", "disclosed", "()I"⟩) ∈ jT := jm_i 815 (by decide +kernel) (by decide +kernel)
theorem jm_816 : (Cond.selects "KeyDistillerModel" ⟨"KeyDistillerModel", "disclosed", "()I"⟩ ⟨"KeyDistillerModel", "disclosed", "()I"⟩) ∈ jT := jm_i 816 (by decide +kernel) (by decide +kernel)
theorem jm_817 : (Cond.code ⟨"KeyDistillerModel", "disclosed", "()I"⟩ prog_7_method_30_code 1 (some .int)) ∈ jT := jm_i 817 (by decide +kernel) (by decide +kernel)
theorem jm_818 : (Cond.methodLink "KeyDistillerLaw" 119 ⟨"KeyDistillerModel", "answered", "(I)I"⟩) ∈ jT := jm_i 818 (by decide +kernel) (by decide +kernel)
theorem jm_819 : (Cond.instanceMethod ⟨"KeyDistillerModel", "answered", "(I)I"⟩) ∈ jT := jm_i 819 (by decide +kernel) (by decide +kernel)
theorem jm_820 : (Cond.selects "KeyDistillerModel" ⟨"KeyDistillerModel", "answered", "(I)I"⟩ ⟨"KeyDistillerModel", "answered", "(I)I"⟩) ∈ jT := jm_i 820 (by decide +kernel) (by decide +kernel)
theorem jm_821 : (Cond.code ⟨"KeyDistillerModel", "answered", "(I)I"⟩ prog_7_method_31_code 2 (some .int)) ∈ jT := jm_i 821 (by decide +kernel) (by decide +kernel)
theorem jm_822 : (Cond.constant "KeyDistillerModel" 169 (65536)) ∈ jT := jm_i 822 (by decide +kernel) (by decide +kernel)
theorem jm_823 : (Cond.methodLink "KeyDistillerLaw" 122 ⟨"KeyDistillerModel", "bit", "(II)I"⟩) ∈ jT := jm_i 823 (by decide +kernel) (by decide +kernel)
theorem jm_824 : (Cond.instanceMethod ⟨"KeyDistillerModel", "bit", "(II)I"⟩) ∈ jT := jm_i 824 (by decide +kernel) (by decide +kernel)
theorem jm_825 : (Cond.selects "KeyDistillerModel" ⟨"KeyDistillerModel", "bit", "(II)I"⟩ ⟨"KeyDistillerModel", "bit", "(II)I"⟩) ∈ jT := jm_i 825 (by decide +kernel) (by decide +kernel)
theorem jm_826 : (Cond.code ⟨"KeyDistillerModel", "bit", "(II)I"⟩ prog_7_method_32_code 3 (some .int)) ∈ jT := jm_i 826 (by decide +kernel) (by decide +kernel)
theorem jm_827 : (Cond.methodLink "KeyDistillerLaw" 125 ⟨"KeyDistillerModel", "item", "(II)I"⟩) ∈ jT := jm_i 827 (by decide +kernel) (by decide +kernel)
theorem jm_828 : (Cond.instanceMethod ⟨"KeyDistillerModel", "item", "(II)I"⟩) ∈ jT := jm_i 828 (by decide +kernel) (by decide +kernel)
theorem jm_829 : (Cond.selects "KeyDistillerModel" ⟨"KeyDistillerModel", "item", "(II)I"⟩ ⟨"KeyDistillerModel", "item", "(II)I"⟩) ∈ jT := jm_i 829 (by decide +kernel) (by decide +kernel)
theorem jm_830 : (Cond.code ⟨"KeyDistillerModel", "item", "(II)I"⟩ prog_7_method_33_code 3 (some .int)) ∈ jT := jm_i 830 (by decide +kernel) (by decide +kernel)
theorem jm_831 : (Cond.methodLink "KeyDistillerLaw" 128 ⟨"KeyDistillerModel", "tag", "(II)I"⟩) ∈ jT := jm_i 831 (by decide +kernel) (by decide +kernel)
theorem jm_832 : (Cond.instanceMethod ⟨"KeyDistillerModel", "tag", "(II)I"⟩) ∈ jT := jm_i 832 (by decide +kernel) (by decide +kernel)
theorem jm_833 : (Cond.selects "KeyDistillerModel" ⟨"KeyDistillerModel", "tag", "(II)I"⟩ ⟨"KeyDistillerModel", "tag", "(II)I"⟩) ∈ jT := jm_i 833 (by decide +kernel) (by decide +kernel)
theorem jm_834 : (Cond.code ⟨"KeyDistillerModel", "tag", "(II)I"⟩ prog_7_method_36_code 3 (some .int)) ∈ jT := jm_i 834 (by decide +kernel) (by decide +kernel)
theorem jm_835 : (Cond.constant "KeyDistillerModel" 170 (65535)) ∈ jT := jm_i 835 (by decide +kernel) (by decide +kernel)
theorem jm_836 : (Cond.methodLink "KeyDistillerModel" 175 ⟨"KeyDistillerModel", "tagOf", "(II)I"⟩) ∈ jT := jm_i 836 (by decide +kernel) (by decide +kernel)
theorem jm_838 : (Cond.instanceMethod ⟨"KeyDistillerModel", "tagOf", "(II)I"⟩) ∈ jT := jm_i 838 (by decide +kernel) (by decide +kernel)
theorem jm_839 : (Cond.code ⟨"KeyDistillerModel", "tagOf", "(II)I"⟩ prog_7_method_35_code 7 (some .int)) ∈ jT := jm_i 839 (by decide +kernel) (by decide +kernel)
theorem jm_840 : (Cond.methodLink "KeyDistillerModel" 172 ⟨"KeyDistillerModel", "product", "(II)I"⟩) ∈ jT := jm_i 840 (by decide +kernel) (by decide +kernel)
theorem jm_841 : (Cond.static ⟨"KeyDistillerModel", "product", "(II)I"⟩) ∈ jT := jm_i 841 (by decide +kernel) (by decide +kernel)
theorem jm_842 : (Cond.code ⟨"KeyDistillerModel", "product", "(II)I"⟩ prog_7_method_34_code 4 (some .int)) ∈ jT := jm_i 842 (by decide +kernel) (by decide +kernel)
theorem jm_843 : (Cond.constant "KeyDistillerModel" 171 (65579)) ∈ jT := jm_i 843 (by decide +kernel) (by decide +kernel)
theorem jm_844 : (Cond.methodLink "KeyDistillerLaw" 132 ⟨"KeyDistillerModel", "shorten", "(JII)I"⟩) ∈ jT := jm_i 844 (by decide +kernel) (by decide +kernel)
theorem jm_845 : (Cond.instanceMethod ⟨"KeyDistillerModel", "shorten", "(JII)I"⟩) ∈ jT := jm_i 845 (by decide +kernel) (by decide +kernel)
theorem jm_846 : (Cond.selects "KeyDistillerModel" ⟨"KeyDistillerModel", "shorten", "(JII)I"⟩ ⟨"KeyDistillerModel", "shorten", "(JII)I"⟩) ∈ jT := jm_i 846 (by decide +kernel) (by decide +kernel)
theorem jm_847 : (Cond.code ⟨"KeyDistillerModel", "shorten", "(JII)I"⟩ prog_7_method_37_code 10 (some .int)) ∈ jT := jm_i 847 (by decide +kernel) (by decide +kernel)
theorem jm_848 : (Cond.methodLink "KeyDistillerLaw" 135 ⟨"KeyDistillerModel", "key", "(II)I"⟩) ∈ jT := jm_i 848 (by decide +kernel) (by decide +kernel)
theorem jm_849 : (Cond.instanceMethod ⟨"KeyDistillerModel", "key", "(II)I"⟩) ∈ jT := jm_i 849 (by decide +kernel) (by decide +kernel)
theorem jm_850 : (Cond.selects "KeyDistillerModel" ⟨"KeyDistillerModel", "key", "(II)I"⟩ ⟨"KeyDistillerModel", "key", "(II)I"⟩) ∈ jT := jm_i 850 (by decide +kernel) (by decide +kernel)
theorem jm_851 : (Cond.code ⟨"KeyDistillerModel", "key", "(II)I"⟩ prog_7_method_38_code 3 (some .int)) ∈ jT := jm_i 851 (by decide +kernel) (by decide +kernel)
theorem jm_852 : (Cond.constantLong "KeyDistillerLaw" 77 (4294967295)) ∈ jT := jm_i 852 (by decide +kernel) (by decide +kernel)
theorem jm_853 : (Cond.arrayClass .long) ∈ jT := jm_i 853 (by decide +kernel) (by decide +kernel)
theorem js_0 : (Cond.selects "KeyDistiller$Letters" ⟨"KeyDistiller$Letters", "has", "(I)Z"⟩ ⟨"KeyDistiller$Letters", "has", "(I)Z"⟩) ∈ jT := jm_s 0 (by decide +kernel) (by decide +kernel)
theorem js_1 : (Cond.selects "KeyDistiller$Dialogue" ⟨"KeyDistiller$Dialogue", "tell", "(II)I"⟩ ⟨"KeyDistiller$Dialogue", "tell", "(II)I"⟩) ∈ jT := jm_s 1 (by decide +kernel) (by decide +kernel)
theorem js_2 : (Cond.selects "KeyDistiller$Dialogue" ⟨"KeyDistiller$Dialogue", "passOf", "(I)I"⟩ ⟨"KeyDistiller$Dialogue", "passOf", "(I)I"⟩) ∈ jT := jm_s 2 (by decide +kernel) (by decide +kernel)
theorem js_3 : (Cond.selects "KeyDistiller$Dialogue" ⟨"KeyDistiller$Dialogue", "fromOf", "(I)I"⟩ ⟨"KeyDistiller$Dialogue", "fromOf", "(I)I"⟩) ∈ jT := jm_s 3 (by decide +kernel) (by decide +kernel)
theorem js_4 : (Cond.selects "KeyDistiller$Dialogue" ⟨"KeyDistiller$Dialogue", "toOf", "(I)I"⟩ ⟨"KeyDistiller$Dialogue", "toOf", "(I)I"⟩) ∈ jT := jm_s 4 (by decide +kernel) (by decide +kernel)
theorem js_5 : (Cond.selects "KeyDistiller$Dialogue" ⟨"KeyDistiller$Dialogue", "isOver", "()Z"⟩ ⟨"KeyDistiller$Dialogue", "isOver", "()Z"⟩) ∈ jT := jm_s 5 (by decide +kernel) (by decide +kernel)
theorem js_6 : (Cond.selects "java/lang/Throwable" ⟨"java/lang/Throwable", "fillInStackTrace", "(I)Ljava/lang/Throwable;"⟩ ⟨"java/lang/Throwable", "fillInStackTrace", "(I)Ljava/lang/Throwable;"⟩) ∈ jT := jm_s 6 (by decide +kernel) (by decide +kernel)
theorem js_7 : (Cond.selects "KeyDistiller" ⟨"KeyDistiller", "stationOf", "(I)LKeyDistiller$Station;"⟩ ⟨"KeyDistiller", "stationOf", "(I)LKeyDistiller$Station;"⟩) ∈ jT := jm_s 7 (by decide +kernel) (by decide +kernel)
theorem js_8 : (Cond.selects "KeyDistiller" ⟨"KeyDistiller", "isSifted", "()Z"⟩ ⟨"KeyDistiller", "isSifted", "()Z"⟩) ∈ jT := jm_s 8 (by decide +kernel) (by decide +kernel)
theorem js_9 : (Cond.selects "KeyDistiller$Station" ⟨"KeyDistiller$Station", "hasAnyOf", "(II)Z"⟩ ⟨"KeyDistiller$Station", "hasAnyOf", "(II)Z"⟩) ∈ jT := jm_s 9 (by decide +kernel) (by decide +kernel)
theorem js_10 : (Cond.selects "KeyDistiller$Station" ⟨"KeyDistiller$Station", "note", "(IIIII)V"⟩ ⟨"KeyDistiller$Station", "note", "(IIIII)V"⟩) ∈ jT := jm_s 10 (by decide +kernel) (by decide +kernel)
theorem js_11 : (Cond.selects "KeyDistiller" ⟨"KeyDistiller", "isKept", "(I)Z"⟩ ⟨"KeyDistiller", "isKept", "(I)Z"⟩) ∈ jT := jm_s 11 (by decide +kernel) (by decide +kernel)
theorem js_12 : (Cond.selects "KeyDistiller$Dialogue" ⟨"KeyDistiller$Dialogue", "isBegun", "()Z"⟩ ⟨"KeyDistiller$Dialogue", "isBegun", "()Z"⟩) ∈ jT := jm_s 12 (by decide +kernel) (by decide +kernel)
theorem js_13 : (Cond.selects "KeyDistiller$Drawing" ⟨"KeyDistiller$Drawing", "shuffle", "(JI[I)V"⟩ ⟨"KeyDistiller$Drawing", "shuffle", "(JI[I)V"⟩) ∈ jT := jm_s 13 (by decide +kernel) (by decide +kernel)
theorem js_14 : (Cond.selects "KeyDistiller$Drawing" ⟨"KeyDistiller$Drawing", "restart", "(J)V"⟩ ⟨"KeyDistiller$Drawing", "restart", "(J)V"⟩) ∈ jT := jm_s 14 (by decide +kernel) (by decide +kernel)
theorem js_15 : (Cond.selects "KeyDistiller$Drawing" ⟨"KeyDistiller$Drawing", "drawBelow", "(I)I"⟩ ⟨"KeyDistiller$Drawing", "drawBelow", "(I)I"⟩) ∈ jT := jm_s 15 (by decide +kernel) (by decide +kernel)
theorem js_16 : (Cond.selects "KeyDistiller$Drawing" ⟨"KeyDistiller$Drawing", "advance", "()V"⟩ ⟨"KeyDistiller$Drawing", "advance", "()V"⟩) ∈ jT := jm_s 16 (by decide +kernel) (by decide +kernel)
theorem js_17 : (Cond.selects "KeyDistiller$Station" ⟨"KeyDistiller$Station", "leaveOut", "([II)V"⟩ ⟨"KeyDistiller$Station", "leaveOut", "([II)V"⟩) ∈ jT := jm_s 17 (by decide +kernel) (by decide +kernel)
theorem js_18 : (Cond.selects "KeyDistiller$Dialogue" ⟨"KeyDistiller$Dialogue", "begin", "(II)V"⟩ ⟨"KeyDistiller$Dialogue", "begin", "(II)V"⟩) ∈ jT := jm_s 18 (by decide +kernel) (by decide +kernel)
theorem js_19 : (Cond.selects "KeyDistiller$Dialogue" ⟨"KeyDistiller$Dialogue", "goOn", "()V"⟩ ⟨"KeyDistiller$Dialogue", "goOn", "()V"⟩) ∈ jT := jm_s 19 (by decide +kernel) (by decide +kernel)
theorem js_20 : (Cond.selects "KeyDistiller$Dialogue" ⟨"KeyDistiller$Dialogue", "askForBlock", "()Z"⟩ ⟨"KeyDistiller$Dialogue", "askForBlock", "()Z"⟩) ∈ jT := jm_s 20 (by decide +kernel) (by decide +kernel)
theorem js_21 : (Cond.selects "KeyDistiller$Dialogue" ⟨"KeyDistiller$Dialogue", "blockCount", "(I)I"⟩ ⟨"KeyDistiller$Dialogue", "blockCount", "(I)I"⟩) ∈ jT := jm_s 21 (by decide +kernel) (by decide +kernel)
theorem js_22 : (Cond.selects "KeyDistiller$Dialogue" ⟨"KeyDistiller$Dialogue", "blockSize", "(I)I"⟩ ⟨"KeyDistiller$Dialogue", "blockSize", "(I)I"⟩) ∈ jT := jm_s 22 (by decide +kernel) (by decide +kernel)
theorem js_23 : (Cond.selects "KeyDistiller$Dialogue" ⟨"KeyDistiller$Dialogue", "blockEnd", "(II)I"⟩ ⟨"KeyDistiller$Dialogue", "blockEnd", "(II)I"⟩) ∈ jT := jm_s 23 (by decide +kernel) (by decide +kernel)
theorem js_24 : (Cond.selects "KeyDistiller$Dialogue" ⟨"KeyDistiller$Dialogue", "ask", "(IIII)V"⟩ ⟨"KeyDistiller$Dialogue", "ask", "(IIII)V"⟩) ∈ jT := jm_s 24 (by decide +kernel) (by decide +kernel)
theorem js_25 : (Cond.selects "KeyDistiller$Letters" ⟨"KeyDistiller$Letters", "send", "(III)V"⟩ ⟨"KeyDistiller$Letters", "send", "(III)V"⟩) ∈ jT := jm_s 25 (by decide +kernel) (by decide +kernel)
theorem js_26 : (Cond.selects "KeyDistiller$Dialogue" ⟨"KeyDistiller$Dialogue", "mendOrMoveOn", "()Z"⟩ ⟨"KeyDistiller$Dialogue", "mendOrMoveOn", "()Z"⟩) ∈ jT := jm_s 26 (by decide +kernel) (by decide +kernel)
theorem js_27 : (Cond.selects "KeyDistiller$Dialogue" ⟨"KeyDistiller$Dialogue", "smallestOddBlock", "()I"⟩ ⟨"KeyDistiller$Dialogue", "smallestOddBlock", "()I"⟩) ∈ jT := jm_s 27 (by decide +kernel) (by decide +kernel)
theorem js_28 : (Cond.selects "KeyDistiller$Dialogue" ⟨"KeyDistiller$Dialogue", "isOdd", "(IIII)Z"⟩ ⟨"KeyDistiller$Dialogue", "isOdd", "(IIII)Z"⟩) ∈ jT := jm_s 28 (by decide +kernel) (by decide +kernel)
theorem js_29 : (Cond.selects "KeyDistiller$Station" ⟨"KeyDistiller$Station", "parity", "([III)I"⟩ ⟨"KeyDistiller$Station", "parity", "([III)I"⟩) ∈ jT := jm_s 29 (by decide +kernel) (by decide +kernel)
theorem js_30 : (Cond.selects "KeyDistiller$Dialogue" ⟨"KeyDistiller$Dialogue", "search", "(II)Z"⟩ ⟨"KeyDistiller$Dialogue", "search", "(II)Z"⟩) ∈ jT := jm_s 30 (by decide +kernel) (by decide +kernel)
theorem js_31 : (Cond.selects "KeyDistiller$Dialogue" ⟨"KeyDistiller$Dialogue", "deliver", "(I)V"⟩ ⟨"KeyDistiller$Dialogue", "deliver", "(I)V"⟩) ∈ jT := jm_s 31 (by decide +kernel) (by decide +kernel)
theorem js_32 : (Cond.selects "KeyDistiller$Letters" ⟨"KeyDistiller$Letters", "takeOut", "(I)V"⟩ ⟨"KeyDistiller$Letters", "takeOut", "(I)V"⟩) ∈ jT := jm_s 32 (by decide +kernel) (by decide +kernel)
theorem js_33 : (Cond.selects "KeyDistiller$Dialogue" ⟨"KeyDistiller$Dialogue", "answer", "(I)V"⟩ ⟨"KeyDistiller$Dialogue", "answer", "(I)V"⟩) ∈ jT := jm_s 33 (by decide +kernel) (by decide +kernel)
theorem js_34 : (Cond.selects "KeyDistiller$Dialogue" ⟨"KeyDistiller$Dialogue", "isNewestUnknown", "()Z"⟩ ⟨"KeyDistiller$Dialogue", "isNewestUnknown", "()Z"⟩) ∈ jT := jm_s 34 (by decide +kernel) (by decide +kernel)
theorem js_35 : (Cond.selects "KeyDistiller$Dialogue" ⟨"KeyDistiller$Dialogue", "askAgain", "()V"⟩ ⟨"KeyDistiller$Dialogue", "askAgain", "()V"⟩) ∈ jT := jm_s 35 (by decide +kernel) (by decide +kernel)
theorem js_36 : (Cond.selects "KeyDistiller$Station" ⟨"KeyDistiller$Station", "tagWith", "(II)I"⟩ ⟨"KeyDistiller$Station", "tagWith", "(II)I"⟩) ∈ jT := jm_s 36 (by decide +kernel) (by decide +kernel)
theorem js_37 : (Cond.selects "KeyDistiller$Station" ⟨"KeyDistiller$Station", "word", "(II)I"⟩ ⟨"KeyDistiller$Station", "word", "(II)I"⟩) ∈ jT := jm_s 37 (by decide +kernel) (by decide +kernel)
theorem js_38 : (Cond.selects "KeyDistiller$Drawing" ⟨"KeyDistiller$Drawing", "drawBit", "()I"⟩ ⟨"KeyDistiller$Drawing", "drawBit", "()I"⟩) ∈ jT := jm_s 38 (by decide +kernel) (by decide +kernel)
theorem js_39 : (Cond.selects "KeyDistillerModel" ⟨"KeyDistillerModel", "refuse", "(I)I"⟩ ⟨"KeyDistillerModel", "refuse", "(I)I"⟩) ∈ jT := jm_s 39 (by decide +kernel) (by decide +kernel)
theorem js_40 : (Cond.selects "KeyDistillerModel" ⟨"KeyDistillerModel", "shuffle", "(IJ)V"⟩ ⟨"KeyDistillerModel", "shuffle", "(IJ)V"⟩) ∈ jT := jm_s 40 (by decide +kernel) (by decide +kernel)
theorem js_41 : (Cond.selects "KeyDistillerModel" ⟨"KeyDistillerModel", "draw", "(I)I"⟩ ⟨"KeyDistillerModel", "draw", "(I)I"⟩) ∈ jT := jm_s 41 (by decide +kernel) (by decide +kernel)
theorem js_42 : (Cond.selects "KeyDistillerModel" ⟨"KeyDistillerModel", "turn", "()V"⟩ ⟨"KeyDistillerModel", "turn", "()V"⟩) ∈ jT := jm_s 42 (by decide +kernel) (by decide +kernel)
theorem js_43 : (Cond.selects "KeyDistillerModel" ⟨"KeyDistillerModel", "goOn", "()V"⟩ ⟨"KeyDistillerModel", "goOn", "()V"⟩) ∈ jT := jm_s 43 (by decide +kernel) (by decide +kernel)
theorem js_44 : (Cond.selects "KeyDistillerModel" ⟨"KeyDistillerModel", "asksForBlock", "()Z"⟩ ⟨"KeyDistillerModel", "asksForBlock", "()Z"⟩) ∈ jT := jm_s 44 (by decide +kernel) (by decide +kernel)
theorem js_45 : (Cond.selects "KeyDistillerModel" ⟨"KeyDistillerModel", "end", "(II)I"⟩ ⟨"KeyDistillerModel", "end", "(II)I"⟩) ∈ jT := jm_s 45 (by decide +kernel) (by decide +kernel)
theorem js_46 : (Cond.selects "KeyDistillerModel" ⟨"KeyDistillerModel", "blockSize", "(I)I"⟩ ⟨"KeyDistillerModel", "blockSize", "(I)I"⟩) ∈ jT := jm_s 46 (by decide +kernel) (by decide +kernel)
theorem js_47 : (Cond.selects "KeyDistillerModel" ⟨"KeyDistillerModel", "known", "(III)I"⟩ ⟨"KeyDistillerModel", "known", "(III)I"⟩) ∈ jT := jm_s 47 (by decide +kernel) (by decide +kernel)
theorem js_48 : (Cond.selects "KeyDistillerModel" ⟨"KeyDistillerModel", "ask", "(III)V"⟩ ⟨"KeyDistillerModel", "ask", "(III)V"⟩) ∈ jT := jm_s 48 (by decide +kernel) (by decide +kernel)
theorem js_49 : (Cond.selects "KeyDistillerModel" ⟨"KeyDistillerModel", "send", "(ZII)V"⟩ ⟨"KeyDistillerModel", "send", "(ZII)V"⟩) ∈ jT := jm_s 49 (by decide +kernel) (by decide +kernel)
theorem js_50 : (Cond.selects "KeyDistillerModel" ⟨"KeyDistillerModel", "search", "()I"⟩ ⟨"KeyDistillerModel", "search", "()I"⟩) ∈ jT := jm_s 50 (by decide +kernel) (by decide +kernel)
theorem js_51 : (Cond.selects "KeyDistillerModel" ⟨"KeyDistillerModel", "parityAt", "(IIII)I"⟩ ⟨"KeyDistillerModel", "parityAt", "(IIII)I"⟩) ∈ jT := jm_s 51 (by decide +kernel) (by decide +kernel)
theorem js_52 : (Cond.selects "KeyDistillerModel" ⟨"KeyDistillerModel", "comes", "(ZII)V"⟩ ⟨"KeyDistillerModel", "comes", "(ZII)V"⟩) ∈ jT := jm_s 52 (by decide +kernel) (by decide +kernel)
theorem js_53 : (Cond.selects "KeyDistillerModel" ⟨"KeyDistillerModel", "tagOf", "(II)I"⟩ ⟨"KeyDistillerModel", "tagOf", "(II)I"⟩) ∈ jT := jm_s 53 (by decide +kernel) (by decide +kernel)
theorem ju_S : ∀ w ∈ u_ws jR_S jF_S 6, w ∈ jT := by decide +kernel
theorem ju_G : ∀ w ∈ u_ws jR_G jF_G 1, w ∈ jT := by decide +kernel
theorem ju_E : ∀ w ∈ u_ws jR_E jF_E 4, w ∈ jT := by decide +kernel
theorem ju_D : ∀ w ∈ u_ws jR_D jF_D 12, w ∈ jT := by decide +kernel
theorem ju_K : ∀ w ∈ u_ws jR_K jF_K 11, w ∈ jT := by decide +kernel
theorem ju_M : ∀ w ∈ u_ws jR_M jF_M 31, w ∈ jT := by decide +kernel
end
section
/-! the instructions, decoded. Printed by wip/gen/gen04.py -/
theorem jd_S_init_0 : decode jb_S_init 0 = .ok (.aload_n 0, 1) := by decide +kernel
theorem jd_S_init_1 : decode jb_S_init 1 = .ok (.invokespecial 3, 3) := by decide +kernel
theorem jd_S_init_4 : decode jb_S_init 4 = .ok (.aload_n 0, 1) := by decide +kernel
theorem jd_S_init_5 : decode jb_S_init 5 = .ok (.sipush 128, 3) := by decide +kernel
theorem jd_S_init_8 : decode jb_S_init 8 = .ok (.newarray .boolean, 2) := by decide +kernel
theorem jd_S_init_10 : decode jb_S_init 10 = .ok (.putfield 9, 3) := by decide +kernel
theorem jd_S_init_13 : decode jb_S_init 13 = .ok (.aload_n 0, 1) := by decide +kernel
theorem jd_S_init_14 : decode jb_S_init 14 = .ok (.sipush 128, 3) := by decide +kernel
theorem jd_S_init_17 : decode jb_S_init 17 = .ok (.newarray .int, 2) := by decide +kernel
theorem jd_S_init_19 : decode jb_S_init 19 = .ok (.putfield 15, 3) := by decide +kernel
theorem jd_S_init_22 : decode jb_S_init 22 = .ok (.aload_n 0, 1) := by decide +kernel
theorem jd_S_init_23 : decode jb_S_init 23 = .ok (.sipush 128, 3) := by decide +kernel
theorem jd_S_init_26 : decode jb_S_init 26 = .ok (.newarray .int, 2) := by decide +kernel
theorem jd_S_init_28 : decode jb_S_init 28 = .ok (.putfield 19, 3) := by decide +kernel
theorem jd_S_init_31 : decode jb_S_init 31 = .ok (.aload_n 0, 1) := by decide +kernel
theorem jd_S_init_32 : decode jb_S_init 32 = .ok (.sipush 128, 3) := by decide +kernel
theorem jd_S_init_35 : decode jb_S_init 35 = .ok (.newarray .int, 2) := by decide +kernel
theorem jd_S_init_37 : decode jb_S_init 37 = .ok (.putfield 22, 3) := by decide +kernel
theorem jd_S_init_40 : decode jb_S_init 40 = .ok (.aload_n 0, 1) := by decide +kernel
theorem jd_S_init_41 : decode jb_S_init 41 = .ok (.sipush 128, 3) := by decide +kernel
theorem jd_S_init_44 : decode jb_S_init 44 = .ok (.newarray .int, 2) := by decide +kernel
theorem jd_S_init_46 : decode jb_S_init 46 = .ok (.putfield 25, 3) := by decide +kernel
theorem jd_S_init_49 : decode jb_S_init 49 = .ok (.return_, 1) := by decide +kernel
theorem jd_G_init_0 : decode jb_G_init 0 = .ok (.aload_n 0, 1) := by decide +kernel
theorem jd_G_init_1 : decode jb_G_init 1 = .ok (.invokespecial 1, 3) := by decide +kernel
theorem jd_G_init_4 : decode jb_G_init 4 = .ok (.return_, 1) := by decide +kernel
theorem jd_E_init_0 : decode jb_E_init 0 = .ok (.aload_n 0, 1) := by decide +kernel
theorem jd_E_init_1 : decode jb_E_init 1 = .ok (.invokespecial 3, 3) := by decide +kernel
theorem jd_E_init_4 : decode jb_E_init 4 = .ok (.aload_n 0, 1) := by decide +kernel
theorem jd_E_init_5 : decode jb_E_init 5 = .ok (.bipush 16, 2) := by decide +kernel
theorem jd_E_init_7 : decode jb_E_init 7 = .ok (.newarray .int, 2) := by decide +kernel
theorem jd_E_init_9 : decode jb_E_init 9 = .ok (.putfield 9, 3) := by decide +kernel
theorem jd_E_init_12 : decode jb_E_init 12 = .ok (.aload_n 0, 1) := by decide +kernel
theorem jd_E_init_13 : decode jb_E_init 13 = .ok (.bipush 16, 2) := by decide +kernel
theorem jd_E_init_15 : decode jb_E_init 15 = .ok (.newarray .int, 2) := by decide +kernel
theorem jd_E_init_17 : decode jb_E_init 17 = .ok (.putfield 15, 3) := by decide +kernel
theorem jd_E_init_20 : decode jb_E_init 20 = .ok (.aload_n 0, 1) := by decide +kernel
theorem jd_E_init_21 : decode jb_E_init 21 = .ok (.bipush 16, 2) := by decide +kernel
theorem jd_E_init_23 : decode jb_E_init 23 = .ok (.newarray .int, 2) := by decide +kernel
theorem jd_E_init_25 : decode jb_E_init 25 = .ok (.putfield 18, 3) := by decide +kernel
theorem jd_E_init_28 : decode jb_E_init 28 = .ok (.return_, 1) := by decide +kernel
theorem jd_E_has_0 : decode jb_E_has 0 = .ok (.iload_n 1, 1) := by decide +kernel
theorem jd_E_has_1 : decode jb_E_has 1 = .ok (.ifCond .lt 15, 3) := by decide +kernel
theorem jd_E_has_4 : decode jb_E_has 4 = .ok (.iload_n 1, 1) := by decide +kernel
theorem jd_E_has_5 : decode jb_E_has 5 = .ok (.aload_n 0, 1) := by decide +kernel
theorem jd_E_has_6 : decode jb_E_has 6 = .ok (.getfield 21, 3) := by decide +kernel
theorem jd_E_has_9 : decode jb_E_has 9 = .ok (.if_icmp .ge 7, 3) := by decide +kernel
theorem jd_E_has_12 : decode jb_E_has 12 = .ok (.iconst 1, 1) := by decide +kernel
theorem jd_E_has_13 : decode jb_E_has 13 = .ok (.goto 4, 3) := by decide +kernel
theorem jd_E_has_16 : decode jb_E_has 16 = .ok (.iconst 0, 1) := by decide +kernel
theorem jd_E_has_17 : decode jb_E_has 17 = .ok (.ireturn, 1) := by decide +kernel
theorem jd_S_hasAnyOf_0 : decode jb_S_hasAnyOf 0 = .ok (.iconst 0, 1) := by decide +kernel
theorem jd_S_hasAnyOf_1 : decode jb_S_hasAnyOf 1 = .ok (.istore_n 3, 1) := by decide +kernel
theorem jd_S_hasAnyOf_2 : decode jb_S_hasAnyOf 2 = .ok (.iload_n 3, 1) := by decide +kernel
theorem jd_S_hasAnyOf_3 : decode jb_S_hasAnyOf 3 = .ok (.iload_n 2, 1) := by decide +kernel
theorem jd_S_hasAnyOf_4 : decode jb_S_hasAnyOf 4 = .ok (.if_icmp .ge 22, 3) := by decide +kernel
theorem jd_S_hasAnyOf_7 : decode jb_S_hasAnyOf 7 = .ok (.aload_n 0, 1) := by decide +kernel
theorem jd_S_hasAnyOf_8 : decode jb_S_hasAnyOf 8 = .ok (.getfield 9, 3) := by decide +kernel
theorem jd_S_hasAnyOf_11 : decode jb_S_hasAnyOf 11 = .ok (.iload_n 1, 1) := by decide +kernel
theorem jd_S_hasAnyOf_12 : decode jb_S_hasAnyOf 12 = .ok (.iload_n 3, 1) := by decide +kernel
theorem jd_S_hasAnyOf_13 : decode jb_S_hasAnyOf 13 = .ok (.iadd, 1) := by decide +kernel
theorem jd_S_hasAnyOf_14 : decode jb_S_hasAnyOf 14 = .ok (.baload, 1) := by decide +kernel
theorem jd_S_hasAnyOf_15 : decode jb_S_hasAnyOf 15 = .ok (.ifCond .eq 5, 3) := by decide +kernel
theorem jd_S_hasAnyOf_18 : decode jb_S_hasAnyOf 18 = .ok (.iconst 1, 1) := by decide +kernel
theorem jd_S_hasAnyOf_19 : decode jb_S_hasAnyOf 19 = .ok (.ireturn, 1) := by decide +kernel
theorem jd_S_hasAnyOf_20 : decode jb_S_hasAnyOf 20 = .ok (.iinc 3 1, 3) := by decide +kernel
theorem jd_S_hasAnyOf_23 : decode jb_S_hasAnyOf 23 = .ok (.goto (-21), 3) := by decide +kernel
theorem jd_S_hasAnyOf_26 : decode jb_S_hasAnyOf 26 = .ok (.iconst 0, 1) := by decide +kernel
theorem jd_S_hasAnyOf_27 : decode jb_S_hasAnyOf 27 = .ok (.ireturn, 1) := by decide +kernel
theorem jd_S_note_0 : decode jb_S_note 0 = .ok (.iconst 0, 1) := by decide +kernel
theorem jd_S_note_1 : decode jb_S_note 1 = .ok (.istore 6, 2) := by decide +kernel
theorem jd_S_note_3 : decode jb_S_note 3 = .ok (.iload 6, 2) := by decide +kernel
theorem jd_S_note_5 : decode jb_S_note 5 = .ok (.iload_n 2, 1) := by decide +kernel
theorem jd_S_note_6 : decode jb_S_note 6 = .ok (.if_icmp .ge 66, 3) := by decide +kernel
theorem jd_S_note_9 : decode jb_S_note 9 = .ok (.aload_n 0, 1) := by decide +kernel
theorem jd_S_note_10 : decode jb_S_note 10 = .ok (.getfield 9, 3) := by decide +kernel
theorem jd_S_note_13 : decode jb_S_note 13 = .ok (.iload_n 1, 1) := by decide +kernel
theorem jd_S_note_14 : decode jb_S_note 14 = .ok (.iload 6, 2) := by decide +kernel
theorem jd_S_note_16 : decode jb_S_note 16 = .ok (.iadd, 1) := by decide +kernel
theorem jd_S_note_17 : decode jb_S_note 17 = .ok (.iconst 1, 1) := by decide +kernel
theorem jd_S_note_18 : decode jb_S_note 18 = .ok (.bastore, 1) := by decide +kernel
theorem jd_S_note_19 : decode jb_S_note 19 = .ok (.aload_n 0, 1) := by decide +kernel
theorem jd_S_note_20 : decode jb_S_note 20 = .ok (.getfield 15, 3) := by decide +kernel
theorem jd_S_note_23 : decode jb_S_note 23 = .ok (.iload_n 1, 1) := by decide +kernel
theorem jd_S_note_24 : decode jb_S_note 24 = .ok (.iload 6, 2) := by decide +kernel
theorem jd_S_note_26 : decode jb_S_note 26 = .ok (.iadd, 1) := by decide +kernel
theorem jd_S_note_27 : decode jb_S_note 27 = .ok (.iload_n 3, 1) := by decide +kernel
theorem jd_S_note_28 : decode jb_S_note 28 = .ok (.iload 6, 2) := by decide +kernel
theorem jd_S_note_30 : decode jb_S_note 30 = .ok (.iushr, 1) := by decide +kernel
theorem jd_S_note_31 : decode jb_S_note 31 = .ok (.iconst 1, 1) := by decide +kernel
theorem jd_S_note_32 : decode jb_S_note 32 = .ok (.iand, 1) := by decide +kernel
theorem jd_S_note_33 : decode jb_S_note 33 = .ok (.iastore, 1) := by decide +kernel
theorem jd_S_note_34 : decode jb_S_note 34 = .ok (.aload_n 0, 1) := by decide +kernel
theorem jd_S_note_35 : decode jb_S_note 35 = .ok (.getfield 19, 3) := by decide +kernel
theorem jd_S_note_38 : decode jb_S_note 38 = .ok (.iload_n 1, 1) := by decide +kernel
theorem jd_S_note_39 : decode jb_S_note 39 = .ok (.iload 6, 2) := by decide +kernel
theorem jd_S_note_41 : decode jb_S_note 41 = .ok (.iadd, 1) := by decide +kernel
theorem jd_S_note_42 : decode jb_S_note 42 = .ok (.iload 4, 2) := by decide +kernel
theorem jd_S_note_44 : decode jb_S_note 44 = .ok (.iload 6, 2) := by decide +kernel
theorem jd_S_note_46 : decode jb_S_note 46 = .ok (.iushr, 1) := by decide +kernel
theorem jd_S_note_47 : decode jb_S_note 47 = .ok (.iconst 1, 1) := by decide +kernel
theorem jd_S_note_48 : decode jb_S_note 48 = .ok (.iand, 1) := by decide +kernel
theorem jd_S_note_49 : decode jb_S_note 49 = .ok (.iastore, 1) := by decide +kernel
theorem jd_S_note_50 : decode jb_S_note 50 = .ok (.aload_n 0, 1) := by decide +kernel
theorem jd_S_note_51 : decode jb_S_note 51 = .ok (.getfield 22, 3) := by decide +kernel
theorem jd_S_note_54 : decode jb_S_note 54 = .ok (.iload_n 1, 1) := by decide +kernel
theorem jd_S_note_55 : decode jb_S_note 55 = .ok (.iload 6, 2) := by decide +kernel
theorem jd_S_note_57 : decode jb_S_note 57 = .ok (.iadd, 1) := by decide +kernel
theorem jd_S_note_58 : decode jb_S_note 58 = .ok (.iload 5, 2) := by decide +kernel
theorem jd_S_note_60 : decode jb_S_note 60 = .ok (.iload 6, 2) := by decide +kernel
theorem jd_S_note_62 : decode jb_S_note 62 = .ok (.iushr, 1) := by decide +kernel
theorem jd_S_note_63 : decode jb_S_note 63 = .ok (.iconst 1, 1) := by decide +kernel
theorem jd_S_note_64 : decode jb_S_note 64 = .ok (.iand, 1) := by decide +kernel
theorem jd_S_note_65 : decode jb_S_note 65 = .ok (.iastore, 1) := by decide +kernel
theorem jd_S_note_66 : decode jb_S_note 66 = .ok (.iinc 6 1, 3) := by decide +kernel
theorem jd_S_note_69 : decode jb_S_note 69 = .ok (.goto (-66), 3) := by decide +kernel
theorem jd_S_note_72 : decode jb_S_note 72 = .ok (.aload_n 0, 1) := by decide +kernel
theorem jd_S_note_73 : decode jb_S_note 73 = .ok (.dup, 1) := by decide +kernel
theorem jd_S_note_74 : decode jb_S_note 74 = .ok (.getfield 28, 3) := by decide +kernel
theorem jd_S_note_77 : decode jb_S_note 77 = .ok (.iload_n 2, 1) := by decide +kernel
theorem jd_S_note_78 : decode jb_S_note 78 = .ok (.iadd, 1) := by decide +kernel
theorem jd_S_note_79 : decode jb_S_note 79 = .ok (.putfield 28, 3) := by decide +kernel
theorem jd_S_note_82 : decode jb_S_note 82 = .ok (.return_, 1) := by decide +kernel
theorem jd_G_shuffle_0 : decode jb_G_shuffle 0 = .ok (.aload_n 0, 1) := by decide +kernel
theorem jd_G_shuffle_1 : decode jb_G_shuffle 1 = .ok (.lload_n 1, 1) := by decide +kernel
theorem jd_G_shuffle_2 : decode jb_G_shuffle 2 = .ok (.invokevirtual 23, 3) := by decide +kernel
theorem jd_G_shuffle_5 : decode jb_G_shuffle 5 = .ok (.iconst 0, 1) := by decide +kernel
theorem jd_G_shuffle_6 : decode jb_G_shuffle 6 = .ok (.istore 5, 2) := by decide +kernel
theorem jd_G_shuffle_8 : decode jb_G_shuffle 8 = .ok (.iload 5, 2) := by decide +kernel
theorem jd_G_shuffle_10 : decode jb_G_shuffle 10 = .ok (.iload_n 3, 1) := by decide +kernel
theorem jd_G_shuffle_11 : decode jb_G_shuffle 11 = .ok (.if_icmp .ge 16, 3) := by decide +kernel
theorem jd_G_shuffle_14 : decode jb_G_shuffle 14 = .ok (.aload 4, 2) := by decide +kernel
theorem jd_G_shuffle_16 : decode jb_G_shuffle 16 = .ok (.iload 5, 2) := by decide +kernel
theorem jd_G_shuffle_18 : decode jb_G_shuffle 18 = .ok (.iload 5, 2) := by decide +kernel
theorem jd_G_shuffle_20 : decode jb_G_shuffle 20 = .ok (.iastore, 1) := by decide +kernel
theorem jd_G_shuffle_21 : decode jb_G_shuffle 21 = .ok (.iinc 5 1, 3) := by decide +kernel
theorem jd_G_shuffle_24 : decode jb_G_shuffle 24 = .ok (.goto (-16), 3) := by decide +kernel
theorem jd_G_shuffle_27 : decode jb_G_shuffle 27 = .ok (.iload_n 3, 1) := by decide +kernel
theorem jd_G_shuffle_28 : decode jb_G_shuffle 28 = .ok (.iconst 1, 1) := by decide +kernel
theorem jd_G_shuffle_29 : decode jb_G_shuffle 29 = .ok (.isub, 1) := by decide +kernel
theorem jd_G_shuffle_30 : decode jb_G_shuffle 30 = .ok (.istore 5, 2) := by decide +kernel
theorem jd_G_shuffle_32 : decode jb_G_shuffle 32 = .ok (.iload 5, 2) := by decide +kernel
theorem jd_G_shuffle_34 : decode jb_G_shuffle 34 = .ok (.iconst 1, 1) := by decide +kernel
theorem jd_G_shuffle_35 : decode jb_G_shuffle 35 = .ok (.if_icmp .lt 43, 3) := by decide +kernel
theorem jd_G_shuffle_38 : decode jb_G_shuffle 38 = .ok (.aload_n 0, 1) := by decide +kernel
theorem jd_G_shuffle_39 : decode jb_G_shuffle 39 = .ok (.iload 5, 2) := by decide +kernel
theorem jd_G_shuffle_41 : decode jb_G_shuffle 41 = .ok (.iconst 1, 1) := by decide +kernel
theorem jd_G_shuffle_42 : decode jb_G_shuffle 42 = .ok (.iadd, 1) := by decide +kernel
theorem jd_G_shuffle_43 : decode jb_G_shuffle 43 = .ok (.invokevirtual 27, 3) := by decide +kernel
theorem jd_G_shuffle_46 : decode jb_G_shuffle 46 = .ok (.istore 6, 2) := by decide +kernel
theorem jd_G_shuffle_48 : decode jb_G_shuffle 48 = .ok (.aload 4, 2) := by decide +kernel
theorem jd_G_shuffle_50 : decode jb_G_shuffle 50 = .ok (.iload 6, 2) := by decide +kernel
theorem jd_G_shuffle_52 : decode jb_G_shuffle 52 = .ok (.iaload, 1) := by decide +kernel
theorem jd_G_shuffle_53 : decode jb_G_shuffle 53 = .ok (.istore 7, 2) := by decide +kernel
theorem jd_G_shuffle_55 : decode jb_G_shuffle 55 = .ok (.aload 4, 2) := by decide +kernel
theorem jd_G_shuffle_57 : decode jb_G_shuffle 57 = .ok (.iload 6, 2) := by decide +kernel
theorem jd_G_shuffle_59 : decode jb_G_shuffle 59 = .ok (.aload 4, 2) := by decide +kernel
theorem jd_G_shuffle_61 : decode jb_G_shuffle 61 = .ok (.iload 5, 2) := by decide +kernel
theorem jd_G_shuffle_63 : decode jb_G_shuffle 63 = .ok (.iaload, 1) := by decide +kernel
theorem jd_G_shuffle_64 : decode jb_G_shuffle 64 = .ok (.iastore, 1) := by decide +kernel
theorem jd_G_shuffle_65 : decode jb_G_shuffle 65 = .ok (.aload 4, 2) := by decide +kernel
theorem jd_G_shuffle_67 : decode jb_G_shuffle 67 = .ok (.iload 5, 2) := by decide +kernel
theorem jd_G_shuffle_69 : decode jb_G_shuffle 69 = .ok (.iload 7, 2) := by decide +kernel
theorem jd_G_shuffle_71 : decode jb_G_shuffle 71 = .ok (.iastore, 1) := by decide +kernel
theorem jd_G_shuffle_72 : decode jb_G_shuffle 72 = .ok (.iinc 5 (-1), 3) := by decide +kernel
theorem jd_G_shuffle_75 : decode jb_G_shuffle 75 = .ok (.goto (-43), 3) := by decide +kernel
theorem jd_G_shuffle_78 : decode jb_G_shuffle 78 = .ok (.return_, 1) := by decide +kernel
theorem jd_G_restart_0 : decode jb_G_restart 0 = .ok (.aload_n 0, 1) := by decide +kernel
theorem jd_G_restart_1 : decode jb_G_restart 1 = .ok (.lload_n 1, 1) := by decide +kernel
theorem jd_G_restart_2 : decode jb_G_restart 2 = .ok (.putfield 7, 3) := by decide +kernel
theorem jd_G_restart_5 : decode jb_G_restart 5 = .ok (.return_, 1) := by decide +kernel
theorem jd_G_drawBelow_0 : decode jb_G_drawBelow 0 = .ok (.iload_n 1, 1) := by decide +kernel
theorem jd_G_drawBelow_1 : decode jb_G_drawBelow 1 = .ok (.iconst 2, 1) := by decide +kernel
theorem jd_G_drawBelow_2 : decode jb_G_drawBelow 2 = .ok (.if_icmp .ge 5, 3) := by decide +kernel
theorem jd_G_drawBelow_5 : decode jb_G_drawBelow 5 = .ok (.iconst 0, 1) := by decide +kernel
theorem jd_G_drawBelow_6 : decode jb_G_drawBelow 6 = .ok (.ireturn, 1) := by decide +kernel
theorem jd_G_drawBelow_7 : decode jb_G_drawBelow 7 = .ok (.ldc2_w 20, 3) := by decide +kernel
theorem jd_G_drawBelow_10 : decode jb_G_drawBelow 10 = .ok (.iload_n 1, 1) := by decide +kernel
theorem jd_G_drawBelow_11 : decode jb_G_drawBelow 11 = .ok (.i2l, 1) := by decide +kernel
theorem jd_G_drawBelow_12 : decode jb_G_drawBelow 12 = .ok (.ldiv, 1) := by decide +kernel
theorem jd_G_drawBelow_13 : decode jb_G_drawBelow 13 = .ok (.iload_n 1, 1) := by decide +kernel
theorem jd_G_drawBelow_14 : decode jb_G_drawBelow 14 = .ok (.i2l, 1) := by decide +kernel
theorem jd_G_drawBelow_15 : decode jb_G_drawBelow 15 = .ok (.lmul, 1) := by decide +kernel
theorem jd_G_drawBelow_16 : decode jb_G_drawBelow 16 = .ok (.lstore_n 2, 1) := by decide +kernel
theorem jd_G_drawBelow_17 : decode jb_G_drawBelow 17 = .ok (.iconst 0, 1) := by decide +kernel
theorem jd_G_drawBelow_18 : decode jb_G_drawBelow 18 = .ok (.istore 4, 2) := by decide +kernel
theorem jd_G_drawBelow_20 : decode jb_G_drawBelow 20 = .ok (.iload 4, 2) := by decide +kernel
theorem jd_G_drawBelow_22 : decode jb_G_drawBelow 22 = .ok (.ldc 22, 2) := by decide +kernel
theorem jd_G_drawBelow_24 : decode jb_G_drawBelow 24 = .ok (.if_icmp .ge 36, 3) := by decide +kernel
theorem jd_G_drawBelow_27 : decode jb_G_drawBelow 27 = .ok (.aload_n 0, 1) := by decide +kernel
theorem jd_G_drawBelow_28 : decode jb_G_drawBelow 28 = .ok (.invokevirtual 17, 3) := by decide +kernel
theorem jd_G_drawBelow_31 : decode jb_G_drawBelow 31 = .ok (.aload_n 0, 1) := by decide +kernel
theorem jd_G_drawBelow_32 : decode jb_G_drawBelow 32 = .ok (.getfield 7, 3) := by decide +kernel
theorem jd_G_drawBelow_35 : decode jb_G_drawBelow 35 = .ok (.bipush 33, 2) := by decide +kernel
theorem jd_G_drawBelow_37 : decode jb_G_drawBelow 37 = .ok (.lushr, 1) := by decide +kernel
theorem jd_G_drawBelow_38 : decode jb_G_drawBelow 38 = .ok (.lstore 5, 2) := by decide +kernel
theorem jd_G_drawBelow_40 : decode jb_G_drawBelow 40 = .ok (.lload 5, 2) := by decide +kernel
theorem jd_G_drawBelow_42 : decode jb_G_drawBelow 42 = .ok (.lload_n 2, 1) := by decide +kernel
theorem jd_G_drawBelow_43 : decode jb_G_drawBelow 43 = .ok (.lcmp, 1) := by decide +kernel
theorem jd_G_drawBelow_44 : decode jb_G_drawBelow 44 = .ok (.ifCond .ge 10, 3) := by decide +kernel
theorem jd_G_drawBelow_47 : decode jb_G_drawBelow 47 = .ok (.lload 5, 2) := by decide +kernel
theorem jd_G_drawBelow_49 : decode jb_G_drawBelow 49 = .ok (.iload_n 1, 1) := by decide +kernel
theorem jd_G_drawBelow_50 : decode jb_G_drawBelow 50 = .ok (.i2l, 1) := by decide +kernel
theorem jd_G_drawBelow_51 : decode jb_G_drawBelow 51 = .ok (.lrem, 1) := by decide +kernel
theorem jd_G_drawBelow_52 : decode jb_G_drawBelow 52 = .ok (.l2i, 1) := by decide +kernel
theorem jd_G_drawBelow_53 : decode jb_G_drawBelow 53 = .ok (.ireturn, 1) := by decide +kernel
theorem jd_G_drawBelow_54 : decode jb_G_drawBelow 54 = .ok (.iinc 4 1, 3) := by decide +kernel
theorem jd_G_drawBelow_57 : decode jb_G_drawBelow 57 = .ok (.goto (-37), 3) := by decide +kernel
theorem jd_G_drawBelow_60 : decode jb_G_drawBelow 60 = .ok (.iconst 0, 1) := by decide +kernel
theorem jd_G_drawBelow_61 : decode jb_G_drawBelow 61 = .ok (.ireturn, 1) := by decide +kernel
theorem jd_G_advance_0 : decode jb_G_advance 0 = .ok (.aload_n 0, 1) := by decide +kernel
theorem jd_G_advance_1 : decode jb_G_advance 1 = .ok (.aload_n 0, 1) := by decide +kernel
theorem jd_G_advance_2 : decode jb_G_advance 2 = .ok (.getfield 7, 3) := by decide +kernel
theorem jd_G_advance_5 : decode jb_G_advance 5 = .ok (.ldc2_w 13, 3) := by decide +kernel
theorem jd_G_advance_8 : decode jb_G_advance 8 = .ok (.lmul, 1) := by decide +kernel
theorem jd_G_advance_9 : decode jb_G_advance 9 = .ok (.ldc2_w 15, 3) := by decide +kernel
theorem jd_G_advance_12 : decode jb_G_advance 12 = .ok (.ladd, 1) := by decide +kernel
theorem jd_G_advance_13 : decode jb_G_advance 13 = .ok (.putfield 7, 3) := by decide +kernel
theorem jd_G_advance_16 : decode jb_G_advance 16 = .ok (.return_, 1) := by decide +kernel
theorem jd_Arrays_fill_0 : decode jb_Arrays_fill 0 = .ok (.iconst 0, 1) := by decide +kernel
theorem jd_Arrays_fill_1 : decode jb_Arrays_fill 1 = .ok (.istore_n 2, 1) := by decide +kernel
theorem jd_Arrays_fill_2 : decode jb_Arrays_fill 2 = .ok (.aload_n 0, 1) := by decide +kernel
theorem jd_Arrays_fill_3 : decode jb_Arrays_fill 3 = .ok (.arraylength, 1) := by decide +kernel
theorem jd_Arrays_fill_4 : decode jb_Arrays_fill 4 = .ok (.istore_n 3, 1) := by decide +kernel
theorem jd_Arrays_fill_5 : decode jb_Arrays_fill 5 = .ok (.iload_n 2, 1) := by decide +kernel
theorem jd_Arrays_fill_6 : decode jb_Arrays_fill 6 = .ok (.iload_n 3, 1) := by decide +kernel
theorem jd_Arrays_fill_7 : decode jb_Arrays_fill 7 = .ok (.if_icmp .ge 13, 3) := by decide +kernel
theorem jd_Arrays_fill_10 : decode jb_Arrays_fill 10 = .ok (.aload_n 0, 1) := by decide +kernel
theorem jd_Arrays_fill_11 : decode jb_Arrays_fill 11 = .ok (.iload_n 2, 1) := by decide +kernel
theorem jd_Arrays_fill_12 : decode jb_Arrays_fill 12 = .ok (.iload_n 1, 1) := by decide +kernel
theorem jd_Arrays_fill_13 : decode jb_Arrays_fill 13 = .ok (.iastore, 1) := by decide +kernel
theorem jd_Arrays_fill_14 : decode jb_Arrays_fill 14 = .ok (.iinc 2 1, 3) := by decide +kernel
theorem jd_Arrays_fill_17 : decode jb_Arrays_fill 17 = .ok (.goto (-12), 3) := by decide +kernel
theorem jd_Arrays_fill_20 : decode jb_Arrays_fill 20 = .ok (.return_, 1) := by decide +kernel
theorem jd_S_leaveOut_0 : decode jb_S_leaveOut 0 = .ok (.iconst 0, 1) := by decide +kernel
theorem jd_S_leaveOut_1 : decode jb_S_leaveOut 1 = .ok (.istore_n 3, 1) := by decide +kernel
theorem jd_S_leaveOut_2 : decode jb_S_leaveOut 2 = .ok (.iconst 0, 1) := by decide +kernel
theorem jd_S_leaveOut_3 : decode jb_S_leaveOut 3 = .ok (.istore 4, 2) := by decide +kernel
theorem jd_S_leaveOut_5 : decode jb_S_leaveOut 5 = .ok (.iload 4, 2) := by decide +kernel
theorem jd_S_leaveOut_7 : decode jb_S_leaveOut 7 = .ok (.iload_n 2, 1) := by decide +kernel
theorem jd_S_leaveOut_8 : decode jb_S_leaveOut 8 = .ok (.if_icmp .ge 32, 3) := by decide +kernel
theorem jd_S_leaveOut_11 : decode jb_S_leaveOut 11 = .ok (.aload_n 1, 1) := by decide +kernel
theorem jd_S_leaveOut_12 : decode jb_S_leaveOut 12 = .ok (.iload 4, 2) := by decide +kernel
theorem jd_S_leaveOut_14 : decode jb_S_leaveOut 14 = .ok (.iaload, 1) := by decide +kernel
theorem jd_S_leaveOut_15 : decode jb_S_leaveOut 15 = .ok (.ifCond .ne 19, 3) := by decide +kernel
theorem jd_S_leaveOut_18 : decode jb_S_leaveOut 18 = .ok (.aload_n 0, 1) := by decide +kernel
theorem jd_S_leaveOut_19 : decode jb_S_leaveOut 19 = .ok (.getfield 25, 3) := by decide +kernel
theorem jd_S_leaveOut_22 : decode jb_S_leaveOut 22 = .ok (.iload_n 3, 1) := by decide +kernel
theorem jd_S_leaveOut_23 : decode jb_S_leaveOut 23 = .ok (.aload_n 0, 1) := by decide +kernel
theorem jd_S_leaveOut_24 : decode jb_S_leaveOut 24 = .ok (.getfield 25, 3) := by decide +kernel
theorem jd_S_leaveOut_27 : decode jb_S_leaveOut 27 = .ok (.iload 4, 2) := by decide +kernel
theorem jd_S_leaveOut_29 : decode jb_S_leaveOut 29 = .ok (.iaload, 1) := by decide +kernel
theorem jd_S_leaveOut_30 : decode jb_S_leaveOut 30 = .ok (.iastore, 1) := by decide +kernel
theorem jd_S_leaveOut_31 : decode jb_S_leaveOut 31 = .ok (.iinc 3 1, 3) := by decide +kernel
theorem jd_S_leaveOut_34 : decode jb_S_leaveOut 34 = .ok (.iinc 4 1, 3) := by decide +kernel
theorem jd_S_leaveOut_37 : decode jb_S_leaveOut 37 = .ok (.goto (-32), 3) := by decide +kernel
theorem jd_S_leaveOut_40 : decode jb_S_leaveOut 40 = .ok (.return_, 1) := by decide +kernel
theorem jd_E_send_0 : decode jb_E_send 0 = .ok (.aload_n 0, 1) := by decide +kernel
theorem jd_E_send_1 : decode jb_E_send 1 = .ok (.getfield 21, 3) := by decide +kernel
theorem jd_E_send_4 : decode jb_E_send 4 = .ok (.bipush 16, 2) := by decide +kernel
theorem jd_E_send_6 : decode jb_E_send 6 = .ok (.if_icmp .ne 4, 3) := by decide +kernel
theorem jd_E_send_9 : decode jb_E_send 9 = .ok (.return_, 1) := by decide +kernel
theorem jd_E_send_10 : decode jb_E_send 10 = .ok (.aload_n 0, 1) := by decide +kernel
theorem jd_E_send_11 : decode jb_E_send 11 = .ok (.getfield 9, 3) := by decide +kernel
theorem jd_E_send_14 : decode jb_E_send 14 = .ok (.aload_n 0, 1) := by decide +kernel
theorem jd_E_send_15 : decode jb_E_send 15 = .ok (.getfield 21, 3) := by decide +kernel
theorem jd_E_send_18 : decode jb_E_send 18 = .ok (.iload_n 1, 1) := by decide +kernel
theorem jd_E_send_19 : decode jb_E_send 19 = .ok (.iastore, 1) := by decide +kernel
theorem jd_E_send_20 : decode jb_E_send 20 = .ok (.aload_n 0, 1) := by decide +kernel
theorem jd_E_send_21 : decode jb_E_send 21 = .ok (.getfield 15, 3) := by decide +kernel
theorem jd_E_send_24 : decode jb_E_send 24 = .ok (.aload_n 0, 1) := by decide +kernel
theorem jd_E_send_25 : decode jb_E_send 25 = .ok (.getfield 21, 3) := by decide +kernel
theorem jd_E_send_28 : decode jb_E_send 28 = .ok (.iload_n 2, 1) := by decide +kernel
theorem jd_E_send_29 : decode jb_E_send 29 = .ok (.iastore, 1) := by decide +kernel
theorem jd_E_send_30 : decode jb_E_send 30 = .ok (.aload_n 0, 1) := by decide +kernel
theorem jd_E_send_31 : decode jb_E_send 31 = .ok (.getfield 18, 3) := by decide +kernel
theorem jd_E_send_34 : decode jb_E_send 34 = .ok (.aload_n 0, 1) := by decide +kernel
theorem jd_E_send_35 : decode jb_E_send 35 = .ok (.getfield 21, 3) := by decide +kernel
theorem jd_E_send_38 : decode jb_E_send 38 = .ok (.iload_n 3, 1) := by decide +kernel
theorem jd_E_send_39 : decode jb_E_send 39 = .ok (.iastore, 1) := by decide +kernel
theorem jd_E_send_40 : decode jb_E_send 40 = .ok (.aload_n 0, 1) := by decide +kernel
theorem jd_E_send_41 : decode jb_E_send 41 = .ok (.dup, 1) := by decide +kernel
theorem jd_E_send_42 : decode jb_E_send 42 = .ok (.getfield 21, 3) := by decide +kernel
theorem jd_E_send_45 : decode jb_E_send 45 = .ok (.iconst 1, 1) := by decide +kernel
theorem jd_E_send_46 : decode jb_E_send 46 = .ok (.iadd, 1) := by decide +kernel
theorem jd_E_send_47 : decode jb_E_send 47 = .ok (.putfield 21, 3) := by decide +kernel
theorem jd_E_send_50 : decode jb_E_send 50 = .ok (.return_, 1) := by decide +kernel
theorem jd_S_parity_0 : decode jb_S_parity 0 = .ok (.iconst 0, 1) := by decide +kernel
theorem jd_S_parity_1 : decode jb_S_parity 1 = .ok (.istore 4, 2) := by decide +kernel
theorem jd_S_parity_3 : decode jb_S_parity 3 = .ok (.iload_n 2, 1) := by decide +kernel
theorem jd_S_parity_4 : decode jb_S_parity 4 = .ok (.istore 5, 2) := by decide +kernel
theorem jd_S_parity_6 : decode jb_S_parity 6 = .ok (.iload 5, 2) := by decide +kernel
theorem jd_S_parity_8 : decode jb_S_parity 8 = .ok (.iload_n 3, 1) := by decide +kernel
theorem jd_S_parity_9 : decode jb_S_parity 9 = .ok (.if_icmp .ge 23, 3) := by decide +kernel
theorem jd_S_parity_12 : decode jb_S_parity 12 = .ok (.iload 4, 2) := by decide +kernel
theorem jd_S_parity_14 : decode jb_S_parity 14 = .ok (.aload_n 0, 1) := by decide +kernel
theorem jd_S_parity_15 : decode jb_S_parity 15 = .ok (.getfield 25, 3) := by decide +kernel
theorem jd_S_parity_18 : decode jb_S_parity 18 = .ok (.aload_n 1, 1) := by decide +kernel
theorem jd_S_parity_19 : decode jb_S_parity 19 = .ok (.iload 5, 2) := by decide +kernel
theorem jd_S_parity_21 : decode jb_S_parity 21 = .ok (.iaload, 1) := by decide +kernel
theorem jd_S_parity_22 : decode jb_S_parity 22 = .ok (.iaload, 1) := by decide +kernel
theorem jd_S_parity_23 : decode jb_S_parity 23 = .ok (.ixor, 1) := by decide +kernel
theorem jd_S_parity_24 : decode jb_S_parity 24 = .ok (.istore 4, 2) := by decide +kernel
theorem jd_S_parity_26 : decode jb_S_parity 26 = .ok (.iinc 5 1, 3) := by decide +kernel
theorem jd_S_parity_29 : decode jb_S_parity 29 = .ok (.goto (-23), 3) := by decide +kernel
theorem jd_S_parity_32 : decode jb_S_parity 32 = .ok (.iload 4, 2) := by decide +kernel
theorem jd_S_parity_34 : decode jb_S_parity 34 = .ok (.ireturn, 1) := by decide +kernel
theorem jd_E_takeOut_0 : decode jb_E_takeOut 0 = .ok (.iload_n 1, 1) := by decide +kernel
theorem jd_E_takeOut_1 : decode jb_E_takeOut 1 = .ok (.iconst 1, 1) := by decide +kernel
theorem jd_E_takeOut_2 : decode jb_E_takeOut 2 = .ok (.iadd, 1) := by decide +kernel
theorem jd_E_takeOut_3 : decode jb_E_takeOut 3 = .ok (.istore_n 2, 1) := by decide +kernel
theorem jd_E_takeOut_4 : decode jb_E_takeOut 4 = .ok (.iload_n 2, 1) := by decide +kernel
theorem jd_E_takeOut_5 : decode jb_E_takeOut 5 = .ok (.aload_n 0, 1) := by decide +kernel
theorem jd_E_takeOut_6 : decode jb_E_takeOut 6 = .ok (.getfield 21, 3) := by decide +kernel
theorem jd_E_takeOut_9 : decode jb_E_takeOut 9 = .ok (.if_icmp .ge 51, 3) := by decide +kernel
theorem jd_E_takeOut_12 : decode jb_E_takeOut 12 = .ok (.aload_n 0, 1) := by decide +kernel
theorem jd_E_takeOut_13 : decode jb_E_takeOut 13 = .ok (.getfield 9, 3) := by decide +kernel
theorem jd_E_takeOut_16 : decode jb_E_takeOut 16 = .ok (.iload_n 2, 1) := by decide +kernel
theorem jd_E_takeOut_17 : decode jb_E_takeOut 17 = .ok (.iconst 1, 1) := by decide +kernel
theorem jd_E_takeOut_18 : decode jb_E_takeOut 18 = .ok (.isub, 1) := by decide +kernel
theorem jd_E_takeOut_19 : decode jb_E_takeOut 19 = .ok (.aload_n 0, 1) := by decide +kernel
theorem jd_E_takeOut_20 : decode jb_E_takeOut 20 = .ok (.getfield 9, 3) := by decide +kernel
theorem jd_E_takeOut_23 : decode jb_E_takeOut 23 = .ok (.iload_n 2, 1) := by decide +kernel
theorem jd_E_takeOut_24 : decode jb_E_takeOut 24 = .ok (.iaload, 1) := by decide +kernel
theorem jd_E_takeOut_25 : decode jb_E_takeOut 25 = .ok (.iastore, 1) := by decide +kernel
theorem jd_E_takeOut_26 : decode jb_E_takeOut 26 = .ok (.aload_n 0, 1) := by decide +kernel
theorem jd_E_takeOut_27 : decode jb_E_takeOut 27 = .ok (.getfield 15, 3) := by decide +kernel
theorem jd_E_takeOut_30 : decode jb_E_takeOut 30 = .ok (.iload_n 2, 1) := by decide +kernel
theorem jd_E_takeOut_31 : decode jb_E_takeOut 31 = .ok (.iconst 1, 1) := by decide +kernel
theorem jd_E_takeOut_32 : decode jb_E_takeOut 32 = .ok (.isub, 1) := by decide +kernel
theorem jd_E_takeOut_33 : decode jb_E_takeOut 33 = .ok (.aload_n 0, 1) := by decide +kernel
theorem jd_E_takeOut_34 : decode jb_E_takeOut 34 = .ok (.getfield 15, 3) := by decide +kernel
theorem jd_E_takeOut_37 : decode jb_E_takeOut 37 = .ok (.iload_n 2, 1) := by decide +kernel
theorem jd_E_takeOut_38 : decode jb_E_takeOut 38 = .ok (.iaload, 1) := by decide +kernel
theorem jd_E_takeOut_39 : decode jb_E_takeOut 39 = .ok (.iastore, 1) := by decide +kernel
theorem jd_E_takeOut_40 : decode jb_E_takeOut 40 = .ok (.aload_n 0, 1) := by decide +kernel
theorem jd_E_takeOut_41 : decode jb_E_takeOut 41 = .ok (.getfield 18, 3) := by decide +kernel
theorem jd_E_takeOut_44 : decode jb_E_takeOut 44 = .ok (.iload_n 2, 1) := by decide +kernel
theorem jd_E_takeOut_45 : decode jb_E_takeOut 45 = .ok (.iconst 1, 1) := by decide +kernel
theorem jd_E_takeOut_46 : decode jb_E_takeOut 46 = .ok (.isub, 1) := by decide +kernel
theorem jd_E_takeOut_47 : decode jb_E_takeOut 47 = .ok (.aload_n 0, 1) := by decide +kernel
theorem jd_E_takeOut_48 : decode jb_E_takeOut 48 = .ok (.getfield 18, 3) := by decide +kernel
theorem jd_E_takeOut_51 : decode jb_E_takeOut 51 = .ok (.iload_n 2, 1) := by decide +kernel
theorem jd_E_takeOut_52 : decode jb_E_takeOut 52 = .ok (.iaload, 1) := by decide +kernel
theorem jd_E_takeOut_53 : decode jb_E_takeOut 53 = .ok (.iastore, 1) := by decide +kernel
theorem jd_E_takeOut_54 : decode jb_E_takeOut 54 = .ok (.iinc 2 1, 3) := by decide +kernel
theorem jd_E_takeOut_57 : decode jb_E_takeOut 57 = .ok (.goto (-53), 3) := by decide +kernel
theorem jd_E_takeOut_60 : decode jb_E_takeOut 60 = .ok (.aload_n 0, 1) := by decide +kernel
theorem jd_E_takeOut_61 : decode jb_E_takeOut 61 = .ok (.dup, 1) := by decide +kernel
theorem jd_E_takeOut_62 : decode jb_E_takeOut 62 = .ok (.getfield 21, 3) := by decide +kernel
theorem jd_E_takeOut_65 : decode jb_E_takeOut 65 = .ok (.iconst 1, 1) := by decide +kernel
theorem jd_E_takeOut_66 : decode jb_E_takeOut 66 = .ok (.isub, 1) := by decide +kernel
theorem jd_E_takeOut_67 : decode jb_E_takeOut 67 = .ok (.putfield 21, 3) := by decide +kernel
theorem jd_E_takeOut_70 : decode jb_E_takeOut 70 = .ok (.return_, 1) := by decide +kernel
theorem jd_S_tagWith_0 : decode jb_S_tagWith 0 = .ok (.iconst 0, 1) := by decide +kernel
theorem jd_S_tagWith_1 : decode jb_S_tagWith 1 = .ok (.istore_n 3, 1) := by decide +kernel
theorem jd_S_tagWith_2 : decode jb_S_tagWith 2 = .ok (.iconst 0, 1) := by decide +kernel
theorem jd_S_tagWith_3 : decode jb_S_tagWith 3 = .ok (.istore 4, 2) := by decide +kernel
theorem jd_S_tagWith_5 : decode jb_S_tagWith 5 = .ok (.iload 4, 2) := by decide +kernel
theorem jd_S_tagWith_7 : decode jb_S_tagWith 7 = .ok (.iload_n 2, 1) := by decide +kernel
theorem jd_S_tagWith_8 : decode jb_S_tagWith 8 = .ok (.if_icmp .ge 31, 3) := by decide +kernel
theorem jd_S_tagWith_11 : decode jb_S_tagWith 11 = .ok (.iload_n 1, 1) := by decide +kernel
theorem jd_S_tagWith_12 : decode jb_S_tagWith 12 = .ok (.iload_n 3, 1) := by decide +kernel
theorem jd_S_tagWith_13 : decode jb_S_tagWith 13 = .ok (.aload_n 0, 1) := by decide +kernel
theorem jd_S_tagWith_14 : decode jb_S_tagWith 14 = .ok (.iload 4, 2) := by decide +kernel
theorem jd_S_tagWith_16 : decode jb_S_tagWith 16 = .ok (.iload 4, 2) := by decide +kernel
theorem jd_S_tagWith_18 : decode jb_S_tagWith 18 = .ok (.bipush 16, 2) := by decide +kernel
theorem jd_S_tagWith_20 : decode jb_S_tagWith 20 = .ok (.iadd, 1) := by decide +kernel
theorem jd_S_tagWith_21 : decode jb_S_tagWith 21 = .ok (.iload_n 2, 1) := by decide +kernel
theorem jd_S_tagWith_22 : decode jb_S_tagWith 22 = .ok (.invokestatic 32, 3) := by decide +kernel
theorem jd_S_tagWith_25 : decode jb_S_tagWith 25 = .ok (.invokevirtual 38, 3) := by decide +kernel
theorem jd_S_tagWith_28 : decode jb_S_tagWith 28 = .ok (.ixor, 1) := by decide +kernel
theorem jd_S_tagWith_29 : decode jb_S_tagWith 29 = .ok (.invokestatic 41, 3) := by decide +kernel
theorem jd_S_tagWith_32 : decode jb_S_tagWith 32 = .ok (.istore_n 3, 1) := by decide +kernel
theorem jd_S_tagWith_33 : decode jb_S_tagWith 33 = .ok (.iinc 4 16, 3) := by decide +kernel
theorem jd_S_tagWith_36 : decode jb_S_tagWith 36 = .ok (.goto (-31), 3) := by decide +kernel
theorem jd_S_tagWith_39 : decode jb_S_tagWith 39 = .ok (.iload_n 1, 1) := by decide +kernel
theorem jd_S_tagWith_40 : decode jb_S_tagWith 40 = .ok (.iload_n 3, 1) := by decide +kernel
theorem jd_S_tagWith_41 : decode jb_S_tagWith 41 = .ok (.iload_n 2, 1) := by decide +kernel
theorem jd_S_tagWith_42 : decode jb_S_tagWith 42 = .ok (.ixor, 1) := by decide +kernel
theorem jd_S_tagWith_43 : decode jb_S_tagWith 43 = .ok (.invokestatic 41, 3) := by decide +kernel
theorem jd_S_tagWith_46 : decode jb_S_tagWith 46 = .ok (.ireturn, 1) := by decide +kernel
theorem jd_S_word_0 : decode jb_S_word 0 = .ok (.iconst 0, 1) := by decide +kernel
theorem jd_S_word_1 : decode jb_S_word 1 = .ok (.istore_n 3, 1) := by decide +kernel
theorem jd_S_word_2 : decode jb_S_word 2 = .ok (.iload_n 1, 1) := by decide +kernel
theorem jd_S_word_3 : decode jb_S_word 3 = .ok (.istore 4, 2) := by decide +kernel
theorem jd_S_word_5 : decode jb_S_word 5 = .ok (.iload 4, 2) := by decide +kernel
theorem jd_S_word_7 : decode jb_S_word 7 = .ok (.iload_n 2, 1) := by decide +kernel
theorem jd_S_word_8 : decode jb_S_word 8 = .ok (.if_icmp .ge 24, 3) := by decide +kernel
theorem jd_S_word_11 : decode jb_S_word 11 = .ok (.iload_n 3, 1) := by decide +kernel
theorem jd_S_word_12 : decode jb_S_word 12 = .ok (.aload_n 0, 1) := by decide +kernel
theorem jd_S_word_13 : decode jb_S_word 13 = .ok (.getfield 25, 3) := by decide +kernel
theorem jd_S_word_16 : decode jb_S_word 16 = .ok (.iload 4, 2) := by decide +kernel
theorem jd_S_word_18 : decode jb_S_word 18 = .ok (.iaload, 1) := by decide +kernel
theorem jd_S_word_19 : decode jb_S_word 19 = .ok (.iload 4, 2) := by decide +kernel
theorem jd_S_word_21 : decode jb_S_word 21 = .ok (.iload_n 1, 1) := by decide +kernel
theorem jd_S_word_22 : decode jb_S_word 22 = .ok (.isub, 1) := by decide +kernel
theorem jd_S_word_23 : decode jb_S_word 23 = .ok (.ishl, 1) := by decide +kernel
theorem jd_S_word_24 : decode jb_S_word 24 = .ok (.ior, 1) := by decide +kernel
theorem jd_S_word_25 : decode jb_S_word 25 = .ok (.istore_n 3, 1) := by decide +kernel
theorem jd_S_word_26 : decode jb_S_word 26 = .ok (.iinc 4 1, 3) := by decide +kernel
theorem jd_S_word_29 : decode jb_S_word 29 = .ok (.goto (-24), 3) := by decide +kernel
theorem jd_S_word_32 : decode jb_S_word 32 = .ok (.iload_n 3, 1) := by decide +kernel
theorem jd_S_word_33 : decode jb_S_word 33 = .ok (.ireturn, 1) := by decide +kernel
theorem jd_S_product_0 : decode jb_S_product 0 = .ok (.iconst 0, 1) := by decide +kernel
theorem jd_S_product_1 : decode jb_S_product 1 = .ok (.istore_n 2, 1) := by decide +kernel
theorem jd_S_product_2 : decode jb_S_product 2 = .ok (.iload_n 0, 1) := by decide +kernel
theorem jd_S_product_3 : decode jb_S_product 3 = .ok (.istore_n 3, 1) := by decide +kernel
theorem jd_S_product_4 : decode jb_S_product 4 = .ok (.iconst 0, 1) := by decide +kernel
theorem jd_S_product_5 : decode jb_S_product 5 = .ok (.istore 4, 2) := by decide +kernel
theorem jd_S_product_7 : decode jb_S_product 7 = .ok (.iload 4, 2) := by decide +kernel
theorem jd_S_product_9 : decode jb_S_product 9 = .ok (.bipush 16, 2) := by decide +kernel
theorem jd_S_product_11 : decode jb_S_product 11 = .ok (.if_icmp .ge 38, 3) := by decide +kernel
theorem jd_S_product_14 : decode jb_S_product 14 = .ok (.iload_n 1, 1) := by decide +kernel
theorem jd_S_product_15 : decode jb_S_product 15 = .ok (.iload 4, 2) := by decide +kernel
theorem jd_S_product_17 : decode jb_S_product 17 = .ok (.iushr, 1) := by decide +kernel
theorem jd_S_product_18 : decode jb_S_product 18 = .ok (.iconst 1, 1) := by decide +kernel
theorem jd_S_product_19 : decode jb_S_product 19 = .ok (.iand, 1) := by decide +kernel
theorem jd_S_product_20 : decode jb_S_product 20 = .ok (.iconst 1, 1) := by decide +kernel
theorem jd_S_product_21 : decode jb_S_product 21 = .ok (.if_icmp .ne 7, 3) := by decide +kernel
theorem jd_S_product_24 : decode jb_S_product 24 = .ok (.iload_n 2, 1) := by decide +kernel
theorem jd_S_product_25 : decode jb_S_product 25 = .ok (.iload_n 3, 1) := by decide +kernel
theorem jd_S_product_26 : decode jb_S_product 26 = .ok (.ixor, 1) := by decide +kernel
theorem jd_S_product_27 : decode jb_S_product 27 = .ok (.istore_n 2, 1) := by decide +kernel
theorem jd_S_product_28 : decode jb_S_product 28 = .ok (.iload_n 3, 1) := by decide +kernel
theorem jd_S_product_29 : decode jb_S_product 29 = .ok (.iconst 1, 1) := by decide +kernel
theorem jd_S_product_30 : decode jb_S_product 30 = .ok (.ishl, 1) := by decide +kernel
theorem jd_S_product_31 : decode jb_S_product 31 = .ok (.istore_n 3, 1) := by decide +kernel
theorem jd_S_product_32 : decode jb_S_product 32 = .ok (.iload_n 3, 1) := by decide +kernel
theorem jd_S_product_33 : decode jb_S_product 33 = .ok (.ldc 44, 2) := by decide +kernel
theorem jd_S_product_35 : decode jb_S_product 35 = .ok (.if_icmp .le 8, 3) := by decide +kernel
theorem jd_S_product_38 : decode jb_S_product 38 = .ok (.iload_n 3, 1) := by decide +kernel
theorem jd_S_product_39 : decode jb_S_product 39 = .ok (.ldc 45, 2) := by decide +kernel
theorem jd_S_product_41 : decode jb_S_product 41 = .ok (.ixor, 1) := by decide +kernel
theorem jd_S_product_42 : decode jb_S_product 42 = .ok (.istore_n 3, 1) := by decide +kernel
theorem jd_S_product_43 : decode jb_S_product 43 = .ok (.iinc 4 1, 3) := by decide +kernel
theorem jd_S_product_46 : decode jb_S_product 46 = .ok (.goto (-39), 3) := by decide +kernel
theorem jd_S_product_49 : decode jb_S_product 49 = .ok (.iload_n 2, 1) := by decide +kernel
theorem jd_S_product_50 : decode jb_S_product 50 = .ok (.ireturn, 1) := by decide +kernel
theorem jd_G_drawBit_0 : decode jb_G_drawBit 0 = .ok (.aload_n 0, 1) := by decide +kernel
theorem jd_G_drawBit_1 : decode jb_G_drawBit 1 = .ok (.invokevirtual 17, 3) := by decide +kernel
theorem jd_G_drawBit_4 : decode jb_G_drawBit 4 = .ok (.aload_n 0, 1) := by decide +kernel
theorem jd_G_drawBit_5 : decode jb_G_drawBit 5 = .ok (.getfield 7, 3) := by decide +kernel
theorem jd_G_drawBit_8 : decode jb_G_drawBit 8 = .ok (.bipush 63, 2) := by decide +kernel
theorem jd_G_drawBit_10 : decode jb_G_drawBit 10 = .ok (.lushr, 1) := by decide +kernel
theorem jd_G_drawBit_11 : decode jb_G_drawBit 11 = .ok (.l2i, 1) := by decide +kernel
theorem jd_G_drawBit_12 : decode jb_G_drawBit 12 = .ok (.ireturn, 1) := by decide +kernel
end
section
/-! the instructions, decoded. Printed by wip/gen/gen04.py -/
theorem jd_D_init_0 : decode jb_D_init 0 = .ok (.aload_n 0, 1) := by decide +kernel
theorem jd_D_init_1 : decode jb_D_init 1 = .ok (.invokespecial 3, 3) := by decide +kernel
theorem jd_D_init_4 : decode jb_D_init 4 = .ok (.aload_n 0, 1) := by decide +kernel
theorem jd_D_init_5 : decode jb_D_init 5 = .ok (.new 9, 3) := by decide +kernel
theorem jd_D_init_8 : decode jb_D_init 8 = .ok (.dup, 1) := by decide +kernel
theorem jd_D_init_9 : decode jb_D_init 9 = .ok (.invokespecial 11, 3) := by decide +kernel
theorem jd_D_init_12 : decode jb_D_init 12 = .ok (.putfield 12, 3) := by decide +kernel
theorem jd_D_init_15 : decode jb_D_init 15 = .ok (.aload_n 0, 1) := by decide +kernel
theorem jd_D_init_16 : decode jb_D_init 16 = .ok (.iconst 4, 1) := by decide +kernel
theorem jd_D_init_17 : decode jb_D_init 17 = .ok (.sipush 128, 3) := by decide +kernel
theorem jd_D_init_20 : decode jb_D_init 20 = .ok (.multianewarray 18 2, 4) := by decide +kernel
theorem jd_D_init_24 : decode jb_D_init 24 = .ok (.putfield 20, 3) := by decide +kernel
theorem jd_D_init_27 : decode jb_D_init 27 = .ok (.aload_n 0, 1) := by decide +kernel
theorem jd_D_init_28 : decode jb_D_init 28 = .ok (.iconst 4, 1) := by decide +kernel
theorem jd_D_init_29 : decode jb_D_init 29 = .ok (.sipush 128, 3) := by decide +kernel
theorem jd_D_init_32 : decode jb_D_init 32 = .ok (.multianewarray 18 2, 4) := by decide +kernel
theorem jd_D_init_36 : decode jb_D_init 36 = .ok (.putfield 23, 3) := by decide +kernel
theorem jd_D_init_39 : decode jb_D_init 39 = .ok (.aload_n 0, 1) := by decide +kernel
theorem jd_D_init_40 : decode jb_D_init 40 = .ok (.sipush 512, 3) := by decide +kernel
theorem jd_D_init_43 : decode jb_D_init 43 = .ok (.newarray .int, 2) := by decide +kernel
theorem jd_D_init_45 : decode jb_D_init 45 = .ok (.putfield 26, 3) := by decide +kernel
theorem jd_D_init_48 : decode jb_D_init 48 = .ok (.aload_n 0, 1) := by decide +kernel
theorem jd_D_init_49 : decode jb_D_init 49 = .ok (.iconst (-1), 1) := by decide +kernel
theorem jd_D_init_50 : decode jb_D_init 50 = .ok (.putfield 30, 3) := by decide +kernel
theorem jd_D_init_53 : decode jb_D_init 53 = .ok (.aload_n 0, 1) := by decide +kernel
theorem jd_D_init_54 : decode jb_D_init 54 = .ok (.aload_n 1, 1) := by decide +kernel
theorem jd_D_init_55 : decode jb_D_init 55 = .ok (.putfield 34, 3) := by decide +kernel
theorem jd_D_init_58 : decode jb_D_init 58 = .ok (.aload_n 0, 1) := by decide +kernel
theorem jd_D_init_59 : decode jb_D_init 59 = .ok (.aload_n 2, 1) := by decide +kernel
theorem jd_D_init_60 : decode jb_D_init 60 = .ok (.putfield 38, 3) := by decide +kernel
theorem jd_D_init_63 : decode jb_D_init 63 = .ok (.return_, 1) := by decide +kernel
theorem jd_D_tell_0 : decode jb_D_tell 0 = .ok (.aload_n 0, 1) := by decide +kernel
theorem jd_D_tell_1 : decode jb_D_tell 1 = .ok (.getfield 12, 3) := by decide +kernel
theorem jd_D_tell_4 : decode jb_D_tell 4 = .ok (.getfield 56, 3) := by decide +kernel
theorem jd_D_tell_7 : decode jb_D_tell 7 = .ok (.iload_n 1, 1) := by decide +kernel
theorem jd_D_tell_8 : decode jb_D_tell 8 = .ok (.iaload, 1) := by decide +kernel
theorem jd_D_tell_9 : decode jb_D_tell 9 = .ok (.istore_n 3, 1) := by decide +kernel
theorem jd_D_tell_10 : decode jb_D_tell 10 = .ok (.aload_n 0, 1) := by decide +kernel
theorem jd_D_tell_11 : decode jb_D_tell 11 = .ok (.getfield 12, 3) := by decide +kernel
theorem jd_D_tell_14 : decode jb_D_tell 14 = .ok (.getfield 59, 3) := by decide +kernel
theorem jd_D_tell_17 : decode jb_D_tell 17 = .ok (.iload_n 1, 1) := by decide +kernel
theorem jd_D_tell_18 : decode jb_D_tell 18 = .ok (.iaload, 1) := by decide +kernel
theorem jd_D_tell_19 : decode jb_D_tell 19 = .ok (.ifCond .ne 7, 3) := by decide +kernel
theorem jd_D_tell_22 : decode jb_D_tell 22 = .ok (.iconst 1, 1) := by decide +kernel
theorem jd_D_tell_23 : decode jb_D_tell 23 = .ok (.goto 4, 3) := by decide +kernel
theorem jd_D_tell_26 : decode jb_D_tell 26 = .ok (.iconst 0, 1) := by decide +kernel
theorem jd_D_tell_27 : decode jb_D_tell 27 = .ok (.istore 4, 2) := by decide +kernel
theorem jd_D_tell_29 : decode jb_D_tell 29 = .ok (.iload_n 2, 1) := by decide +kernel
theorem jd_D_tell_30 : decode jb_D_tell 30 = .ok (.tableswitch 99 0 4 #[34, 44, 46, 69, 84], 34) := by decide +kernel
theorem jd_D_tell_64 : decode jb_D_tell 64 = .ok (.aload_n 0, 1) := by decide +kernel
theorem jd_D_tell_65 : decode jb_D_tell 65 = .ok (.getfield 12, 3) := by decide +kernel
theorem jd_D_tell_68 : decode jb_D_tell 68 = .ok (.getfield 59, 3) := by decide +kernel
theorem jd_D_tell_71 : decode jb_D_tell 71 = .ok (.iload_n 1, 1) := by decide +kernel
theorem jd_D_tell_72 : decode jb_D_tell 72 = .ok (.iaload, 1) := by decide +kernel
theorem jd_D_tell_73 : decode jb_D_tell 73 = .ok (.ireturn, 1) := by decide +kernel
theorem jd_D_tell_74 : decode jb_D_tell 74 = .ok (.iload_n 3, 1) := by decide +kernel
theorem jd_D_tell_75 : decode jb_D_tell 75 = .ok (.ireturn, 1) := by decide +kernel
theorem jd_D_tell_76 : decode jb_D_tell 76 = .ok (.iload 4, 2) := by decide +kernel
theorem jd_D_tell_78 : decode jb_D_tell 78 = .ok (.ifCond .eq 11, 3) := by decide +kernel
theorem jd_D_tell_81 : decode jb_D_tell 81 = .ok (.aload_n 0, 1) := by decide +kernel
theorem jd_D_tell_82 : decode jb_D_tell 82 = .ok (.iload_n 3, 1) := by decide +kernel
theorem jd_D_tell_83 : decode jb_D_tell 83 = .ok (.invokevirtual 62, 3) := by decide +kernel
theorem jd_D_tell_86 : decode jb_D_tell 86 = .ok (.goto 12, 3) := by decide +kernel
theorem jd_D_tell_89 : decode jb_D_tell 89 = .ok (.aload_n 0, 1) := by decide +kernel
theorem jd_D_tell_90 : decode jb_D_tell 90 = .ok (.getfield 12, 3) := by decide +kernel
theorem jd_D_tell_93 : decode jb_D_tell 93 = .ok (.getfield 66, 3) := by decide +kernel
theorem jd_D_tell_96 : decode jb_D_tell 96 = .ok (.iload_n 1, 1) := by decide +kernel
theorem jd_D_tell_97 : decode jb_D_tell 97 = .ok (.iaload, 1) := by decide +kernel
theorem jd_D_tell_98 : decode jb_D_tell 98 = .ok (.ireturn, 1) := by decide +kernel
theorem jd_D_tell_99 : decode jb_D_tell 99 = .ok (.iload 4, 2) := by decide +kernel
theorem jd_D_tell_101 : decode jb_D_tell 101 = .ok (.ifCond .eq 11, 3) := by decide +kernel
theorem jd_D_tell_104 : decode jb_D_tell 104 = .ok (.aload_n 0, 1) := by decide +kernel
theorem jd_D_tell_105 : decode jb_D_tell 105 = .ok (.iload_n 3, 1) := by decide +kernel
theorem jd_D_tell_106 : decode jb_D_tell 106 = .ok (.invokevirtual 69, 3) := by decide +kernel
theorem jd_D_tell_109 : decode jb_D_tell 109 = .ok (.goto 4, 3) := by decide +kernel
theorem jd_D_tell_112 : decode jb_D_tell 112 = .ok (.iconst (-1), 1) := by decide +kernel
theorem jd_D_tell_113 : decode jb_D_tell 113 = .ok (.ireturn, 1) := by decide +kernel
theorem jd_D_tell_114 : decode jb_D_tell 114 = .ok (.iload 4, 2) := by decide +kernel
theorem jd_D_tell_116 : decode jb_D_tell 116 = .ok (.ifCond .eq 11, 3) := by decide +kernel
theorem jd_D_tell_119 : decode jb_D_tell 119 = .ok (.aload_n 0, 1) := by decide +kernel
theorem jd_D_tell_120 : decode jb_D_tell 120 = .ok (.iload_n 3, 1) := by decide +kernel
theorem jd_D_tell_121 : decode jb_D_tell 121 = .ok (.invokevirtual 72, 3) := by decide +kernel
theorem jd_D_tell_124 : decode jb_D_tell 124 = .ok (.goto 4, 3) := by decide +kernel
theorem jd_D_tell_127 : decode jb_D_tell 127 = .ok (.iconst (-1), 1) := by decide +kernel
theorem jd_D_tell_128 : decode jb_D_tell 128 = .ok (.ireturn, 1) := by decide +kernel
theorem jd_D_tell_129 : decode jb_D_tell 129 = .ok (.iconst (-1), 1) := by decide +kernel
theorem jd_D_tell_130 : decode jb_D_tell 130 = .ok (.ireturn, 1) := by decide +kernel
theorem jd_D_passOf_0 : decode jb_D_passOf 0 = .ok (.aload_n 0, 1) := by decide +kernel
theorem jd_D_passOf_1 : decode jb_D_passOf 1 = .ok (.getfield 26, 3) := by decide +kernel
theorem jd_D_passOf_4 : decode jb_D_passOf 4 = .ok (.iload_n 1, 1) := by decide +kernel
theorem jd_D_passOf_5 : decode jb_D_passOf 5 = .ok (.iconst 1, 1) := by decide +kernel
theorem jd_D_passOf_6 : decode jb_D_passOf 6 = .ok (.isub, 1) := by decide +kernel
theorem jd_D_passOf_7 : decode jb_D_passOf 7 = .ok (.iaload, 1) := by decide +kernel
theorem jd_D_passOf_8 : decode jb_D_passOf 8 = .ok (.bipush 16, 2) := by decide +kernel
theorem jd_D_passOf_10 : decode jb_D_passOf 10 = .ok (.ishr, 1) := by decide +kernel
theorem jd_D_passOf_11 : decode jb_D_passOf 11 = .ok (.ireturn, 1) := by decide +kernel
theorem jd_D_fromOf_0 : decode jb_D_fromOf 0 = .ok (.aload_n 0, 1) := by decide +kernel
theorem jd_D_fromOf_1 : decode jb_D_fromOf 1 = .ok (.getfield 26, 3) := by decide +kernel
theorem jd_D_fromOf_4 : decode jb_D_fromOf 4 = .ok (.iload_n 1, 1) := by decide +kernel
theorem jd_D_fromOf_5 : decode jb_D_fromOf 5 = .ok (.iconst 1, 1) := by decide +kernel
theorem jd_D_fromOf_6 : decode jb_D_fromOf 6 = .ok (.isub, 1) := by decide +kernel
theorem jd_D_fromOf_7 : decode jb_D_fromOf 7 = .ok (.iaload, 1) := by decide +kernel
theorem jd_D_fromOf_8 : decode jb_D_fromOf 8 = .ok (.bipush 8, 2) := by decide +kernel
theorem jd_D_fromOf_10 : decode jb_D_fromOf 10 = .ok (.ishr, 1) := by decide +kernel
theorem jd_D_fromOf_11 : decode jb_D_fromOf 11 = .ok (.sipush 255, 3) := by decide +kernel
theorem jd_D_fromOf_14 : decode jb_D_fromOf 14 = .ok (.iand, 1) := by decide +kernel
theorem jd_D_fromOf_15 : decode jb_D_fromOf 15 = .ok (.ireturn, 1) := by decide +kernel
theorem jd_D_toOf_0 : decode jb_D_toOf 0 = .ok (.aload_n 0, 1) := by decide +kernel
theorem jd_D_toOf_1 : decode jb_D_toOf 1 = .ok (.getfield 26, 3) := by decide +kernel
theorem jd_D_toOf_4 : decode jb_D_toOf 4 = .ok (.iload_n 1, 1) := by decide +kernel
theorem jd_D_toOf_5 : decode jb_D_toOf 5 = .ok (.iconst 1, 1) := by decide +kernel
theorem jd_D_toOf_6 : decode jb_D_toOf 6 = .ok (.isub, 1) := by decide +kernel
theorem jd_D_toOf_7 : decode jb_D_toOf 7 = .ok (.iaload, 1) := by decide +kernel
theorem jd_D_toOf_8 : decode jb_D_toOf 8 = .ok (.sipush 255, 3) := by decide +kernel
theorem jd_D_toOf_11 : decode jb_D_toOf 11 = .ok (.iand, 1) := by decide +kernel
theorem jd_D_toOf_12 : decode jb_D_toOf 12 = .ok (.ireturn, 1) := by decide +kernel
theorem jd_D_isOver_0 : decode jb_D_isOver 0 = .ok (.aload_n 0, 1) := by decide +kernel
theorem jd_D_isOver_1 : decode jb_D_isOver 1 = .ok (.getfield 30, 3) := by decide +kernel
theorem jd_D_isOver_4 : decode jb_D_isOver 4 = .ok (.iconst 4, 1) := by decide +kernel
theorem jd_D_isOver_5 : decode jb_D_isOver 5 = .ok (.if_icmp .ne 7, 3) := by decide +kernel
theorem jd_D_isOver_8 : decode jb_D_isOver 8 = .ok (.iconst 1, 1) := by decide +kernel
theorem jd_D_isOver_9 : decode jb_D_isOver 9 = .ok (.goto 4, 3) := by decide +kernel
theorem jd_D_isOver_12 : decode jb_D_isOver 12 = .ok (.iconst 0, 1) := by decide +kernel
theorem jd_D_isOver_13 : decode jb_D_isOver 13 = .ok (.ireturn, 1) := by decide +kernel
theorem jd_D_isBegun_0 : decode jb_D_isBegun 0 = .ok (.aload_n 0, 1) := by decide +kernel
theorem jd_D_isBegun_1 : decode jb_D_isBegun 1 = .ok (.getfield 30, 3) := by decide +kernel
theorem jd_D_isBegun_4 : decode jb_D_isBegun 4 = .ok (.iconst (-1), 1) := by decide +kernel
theorem jd_D_isBegun_5 : decode jb_D_isBegun 5 = .ok (.if_icmp .eq 7, 3) := by decide +kernel
theorem jd_D_isBegun_8 : decode jb_D_isBegun 8 = .ok (.iconst 1, 1) := by decide +kernel
theorem jd_D_isBegun_9 : decode jb_D_isBegun 9 = .ok (.goto 4, 3) := by decide +kernel
theorem jd_D_isBegun_12 : decode jb_D_isBegun 12 = .ok (.iconst 0, 1) := by decide +kernel
theorem jd_D_isBegun_13 : decode jb_D_isBegun 13 = .ok (.ireturn, 1) := by decide +kernel
theorem jd_D_begin_0 : decode jb_D_begin 0 = .ok (.aload_n 0, 1) := by decide +kernel
theorem jd_D_begin_1 : decode jb_D_begin 1 = .ok (.iload_n 1, 1) := by decide +kernel
theorem jd_D_begin_2 : decode jb_D_begin 2 = .ok (.putfield 41, 3) := by decide +kernel
theorem jd_D_begin_5 : decode jb_D_begin 5 = .ok (.aload_n 0, 1) := by decide +kernel
theorem jd_D_begin_6 : decode jb_D_begin 6 = .ok (.iload_n 2, 1) := by decide +kernel
theorem jd_D_begin_7 : decode jb_D_begin 7 = .ok (.putfield 44, 3) := by decide +kernel
theorem jd_D_begin_10 : decode jb_D_begin 10 = .ok (.iconst 0, 1) := by decide +kernel
theorem jd_D_begin_11 : decode jb_D_begin 11 = .ok (.istore_n 3, 1) := by decide +kernel
theorem jd_D_begin_12 : decode jb_D_begin 12 = .ok (.iload_n 3, 1) := by decide +kernel
theorem jd_D_begin_13 : decode jb_D_begin 13 = .ok (.iconst 4, 1) := by decide +kernel
theorem jd_D_begin_14 : decode jb_D_begin 14 = .ok (.if_icmp .ge 19, 3) := by decide +kernel
theorem jd_D_begin_17 : decode jb_D_begin 17 = .ok (.aload_n 0, 1) := by decide +kernel
theorem jd_D_begin_18 : decode jb_D_begin 18 = .ok (.getfield 23, 3) := by decide +kernel
theorem jd_D_begin_21 : decode jb_D_begin 21 = .ok (.iload_n 3, 1) := by decide +kernel
theorem jd_D_begin_22 : decode jb_D_begin 22 = .ok (.aaload, 1) := by decide +kernel
theorem jd_D_begin_23 : decode jb_D_begin 23 = .ok (.iconst (-1), 1) := by decide +kernel
theorem jd_D_begin_24 : decode jb_D_begin 24 = .ok (.invokestatic 47, 3) := by decide +kernel
theorem jd_D_begin_27 : decode jb_D_begin 27 = .ok (.iinc 3 1, 3) := by decide +kernel
theorem jd_D_begin_30 : decode jb_D_begin 30 = .ok (.goto (-18), 3) := by decide +kernel
theorem jd_D_begin_33 : decode jb_D_begin 33 = .ok (.aload_n 0, 1) := by decide +kernel
theorem jd_D_begin_34 : decode jb_D_begin 34 = .ok (.iconst 0, 1) := by decide +kernel
theorem jd_D_begin_35 : decode jb_D_begin 35 = .ok (.putfield 30, 3) := by decide +kernel
theorem jd_D_begin_38 : decode jb_D_begin 38 = .ok (.aload_n 0, 1) := by decide +kernel
theorem jd_D_begin_39 : decode jb_D_begin 39 = .ok (.invokevirtual 53, 3) := by decide +kernel
theorem jd_D_begin_42 : decode jb_D_begin 42 = .ok (.return_, 1) := by decide +kernel
theorem jd_D_goOn_0 : decode jb_D_goOn 0 = .ok (.iconst 0, 1) := by decide +kernel
theorem jd_D_goOn_1 : decode jb_D_goOn 1 = .ok (.istore_n 1, 1) := by decide +kernel
theorem jd_D_goOn_2 : decode jb_D_goOn 2 = .ok (.iconst 0, 1) := by decide +kernel
theorem jd_D_goOn_3 : decode jb_D_goOn 3 = .ok (.istore_n 2, 1) := by decide +kernel
theorem jd_D_goOn_4 : decode jb_D_goOn 4 = .ok (.iload_n 2, 1) := by decide +kernel
theorem jd_D_goOn_5 : decode jb_D_goOn 5 = .ok (.sipush 256, 3) := by decide +kernel
theorem jd_D_goOn_8 : decode jb_D_goOn 8 = .ok (.if_icmp .ge 40, 3) := by decide +kernel
theorem jd_D_goOn_11 : decode jb_D_goOn 11 = .ok (.iload_n 1, 1) := by decide +kernel
theorem jd_D_goOn_12 : decode jb_D_goOn 12 = .ok (.ifCond .ne 36, 3) := by decide +kernel
theorem jd_D_goOn_15 : decode jb_D_goOn 15 = .ok (.aload_n 0, 1) := by decide +kernel
theorem jd_D_goOn_16 : decode jb_D_goOn 16 = .ok (.invokevirtual 111, 3) := by decide +kernel
theorem jd_D_goOn_19 : decode jb_D_goOn 19 = .ok (.ifCond .ne 29, 3) := by decide +kernel
theorem jd_D_goOn_22 : decode jb_D_goOn 22 = .ok (.aload_n 0, 1) := by decide +kernel
theorem jd_D_goOn_23 : decode jb_D_goOn 23 = .ok (.invokevirtual 114, 3) := by decide +kernel
theorem jd_D_goOn_26 : decode jb_D_goOn 26 = .ok (.ifCond .ne 10, 3) := by decide +kernel
theorem jd_D_goOn_29 : decode jb_D_goOn 29 = .ok (.aload_n 0, 1) := by decide +kernel
theorem jd_D_goOn_30 : decode jb_D_goOn 30 = .ok (.invokevirtual 117, 3) := by decide +kernel
theorem jd_D_goOn_33 : decode jb_D_goOn 33 = .ok (.ifCond .eq 7, 3) := by decide +kernel
theorem jd_D_goOn_36 : decode jb_D_goOn 36 = .ok (.iconst 1, 1) := by decide +kernel
theorem jd_D_goOn_37 : decode jb_D_goOn 37 = .ok (.goto 4, 3) := by decide +kernel
theorem jd_D_goOn_40 : decode jb_D_goOn 40 = .ok (.iconst 0, 1) := by decide +kernel
theorem jd_D_goOn_41 : decode jb_D_goOn 41 = .ok (.istore_n 1, 1) := by decide +kernel
theorem jd_D_goOn_42 : decode jb_D_goOn 42 = .ok (.iinc 2 1, 3) := by decide +kernel
theorem jd_D_goOn_45 : decode jb_D_goOn 45 = .ok (.goto (-41), 3) := by decide +kernel
theorem jd_D_goOn_48 : decode jb_D_goOn 48 = .ok (.return_, 1) := by decide +kernel
theorem jd_D_askForBlock_0 : decode jb_D_askForBlock 0 = .ok (.aload_n 0, 1) := by decide +kernel
theorem jd_D_askForBlock_1 : decode jb_D_askForBlock 1 = .ok (.aload_n 0, 1) := by decide +kernel
theorem jd_D_askForBlock_2 : decode jb_D_askForBlock 2 = .ok (.getfield 30, 3) := by decide +kernel
theorem jd_D_askForBlock_5 : decode jb_D_askForBlock 5 = .ok (.invokevirtual 120, 3) := by decide +kernel
theorem jd_D_askForBlock_8 : decode jb_D_askForBlock 8 = .ok (.istore_n 1, 1) := by decide +kernel
theorem jd_D_askForBlock_9 : decode jb_D_askForBlock 9 = .ok (.iconst 0, 1) := by decide +kernel
theorem jd_D_askForBlock_10 : decode jb_D_askForBlock 10 = .ok (.istore_n 2, 1) := by decide +kernel
theorem jd_D_askForBlock_11 : decode jb_D_askForBlock 11 = .ok (.iload_n 2, 1) := by decide +kernel
theorem jd_D_askForBlock_12 : decode jb_D_askForBlock 12 = .ok (.iload_n 1, 1) := by decide +kernel
theorem jd_D_askForBlock_13 : decode jb_D_askForBlock 13 = .ok (.if_icmp .ge 56, 3) := by decide +kernel
theorem jd_D_askForBlock_16 : decode jb_D_askForBlock 16 = .ok (.iload_n 2, 1) := by decide +kernel
theorem jd_D_askForBlock_17 : decode jb_D_askForBlock 17 = .ok (.aload_n 0, 1) := by decide +kernel
theorem jd_D_askForBlock_18 : decode jb_D_askForBlock 18 = .ok (.aload_n 0, 1) := by decide +kernel
theorem jd_D_askForBlock_19 : decode jb_D_askForBlock 19 = .ok (.getfield 30, 3) := by decide +kernel
theorem jd_D_askForBlock_22 : decode jb_D_askForBlock 22 = .ok (.invokevirtual 123, 3) := by decide +kernel
theorem jd_D_askForBlock_25 : decode jb_D_askForBlock 25 = .ok (.imul, 1) := by decide +kernel
theorem jd_D_askForBlock_26 : decode jb_D_askForBlock 26 = .ok (.istore_n 3, 1) := by decide +kernel
theorem jd_D_askForBlock_27 : decode jb_D_askForBlock 27 = .ok (.aload_n 0, 1) := by decide +kernel
theorem jd_D_askForBlock_28 : decode jb_D_askForBlock 28 = .ok (.getfield 23, 3) := by decide +kernel
theorem jd_D_askForBlock_31 : decode jb_D_askForBlock 31 = .ok (.aload_n 0, 1) := by decide +kernel
theorem jd_D_askForBlock_32 : decode jb_D_askForBlock 32 = .ok (.getfield 30, 3) := by decide +kernel
theorem jd_D_askForBlock_35 : decode jb_D_askForBlock 35 = .ok (.aaload, 1) := by decide +kernel
theorem jd_D_askForBlock_36 : decode jb_D_askForBlock 36 = .ok (.iload_n 3, 1) := by decide +kernel
theorem jd_D_askForBlock_37 : decode jb_D_askForBlock 37 = .ok (.iaload, 1) := by decide +kernel
theorem jd_D_askForBlock_38 : decode jb_D_askForBlock 38 = .ok (.iconst (-1), 1) := by decide +kernel
theorem jd_D_askForBlock_39 : decode jb_D_askForBlock 39 = .ok (.if_icmp .ne 24, 3) := by decide +kernel
theorem jd_D_askForBlock_42 : decode jb_D_askForBlock 42 = .ok (.aload_n 0, 1) := by decide +kernel
theorem jd_D_askForBlock_43 : decode jb_D_askForBlock 43 = .ok (.aload_n 0, 1) := by decide +kernel
theorem jd_D_askForBlock_44 : decode jb_D_askForBlock 44 = .ok (.getfield 30, 3) := by decide +kernel
theorem jd_D_askForBlock_47 : decode jb_D_askForBlock 47 = .ok (.iload_n 3, 1) := by decide +kernel
theorem jd_D_askForBlock_48 : decode jb_D_askForBlock 48 = .ok (.aload_n 0, 1) := by decide +kernel
theorem jd_D_askForBlock_49 : decode jb_D_askForBlock 49 = .ok (.aload_n 0, 1) := by decide +kernel
theorem jd_D_askForBlock_50 : decode jb_D_askForBlock 50 = .ok (.getfield 30, 3) := by decide +kernel
theorem jd_D_askForBlock_53 : decode jb_D_askForBlock 53 = .ok (.iload_n 3, 1) := by decide +kernel
theorem jd_D_askForBlock_54 : decode jb_D_askForBlock 54 = .ok (.invokevirtual 126, 3) := by decide +kernel
theorem jd_D_askForBlock_57 : decode jb_D_askForBlock 57 = .ok (.iload_n 3, 1) := by decide +kernel
theorem jd_D_askForBlock_58 : decode jb_D_askForBlock 58 = .ok (.invokevirtual 129, 3) := by decide +kernel
theorem jd_D_askForBlock_61 : decode jb_D_askForBlock 61 = .ok (.iconst 1, 1) := by decide +kernel
theorem jd_D_askForBlock_62 : decode jb_D_askForBlock 62 = .ok (.ireturn, 1) := by decide +kernel
theorem jd_D_askForBlock_63 : decode jb_D_askForBlock 63 = .ok (.iinc 2 1, 3) := by decide +kernel
theorem jd_D_askForBlock_66 : decode jb_D_askForBlock 66 = .ok (.goto (-55), 3) := by decide +kernel
theorem jd_D_askForBlock_69 : decode jb_D_askForBlock 69 = .ok (.iconst 0, 1) := by decide +kernel
theorem jd_D_askForBlock_70 : decode jb_D_askForBlock 70 = .ok (.ireturn, 1) := by decide +kernel
theorem jd_D_blockCount_0 : decode jb_D_blockCount 0 = .ok (.aload_n 0, 1) := by decide +kernel
theorem jd_D_blockCount_1 : decode jb_D_blockCount 1 = .ok (.getfield 41, 3) := by decide +kernel
theorem jd_D_blockCount_4 : decode jb_D_blockCount 4 = .ok (.iconst 4, 1) := by decide +kernel
theorem jd_D_blockCount_5 : decode jb_D_blockCount 5 = .ok (.if_icmp .ge 7, 3) := by decide +kernel
theorem jd_D_blockCount_8 : decode jb_D_blockCount 8 = .ok (.iconst 0, 1) := by decide +kernel
theorem jd_D_blockCount_9 : decode jb_D_blockCount 9 = .ok (.goto 17, 3) := by decide +kernel
theorem jd_D_blockCount_12 : decode jb_D_blockCount 12 = .ok (.aload_n 0, 1) := by decide +kernel
theorem jd_D_blockCount_13 : decode jb_D_blockCount 13 = .ok (.getfield 44, 3) := by decide +kernel
theorem jd_D_blockCount_16 : decode jb_D_blockCount 16 = .ok (.iconst 1, 1) := by decide +kernel
theorem jd_D_blockCount_17 : decode jb_D_blockCount 17 = .ok (.isub, 1) := by decide +kernel
theorem jd_D_blockCount_18 : decode jb_D_blockCount 18 = .ok (.aload_n 0, 1) := by decide +kernel
theorem jd_D_blockCount_19 : decode jb_D_blockCount 19 = .ok (.iload_n 1, 1) := by decide +kernel
theorem jd_D_blockCount_20 : decode jb_D_blockCount 20 = .ok (.invokevirtual 123, 3) := by decide +kernel
theorem jd_D_blockCount_23 : decode jb_D_blockCount 23 = .ok (.idiv, 1) := by decide +kernel
theorem jd_D_blockCount_24 : decode jb_D_blockCount 24 = .ok (.iconst 1, 1) := by decide +kernel
theorem jd_D_blockCount_25 : decode jb_D_blockCount 25 = .ok (.iadd, 1) := by decide +kernel
theorem jd_D_blockCount_26 : decode jb_D_blockCount 26 = .ok (.ireturn, 1) := by decide +kernel
theorem jd_D_blockSize_0 : decode jb_D_blockSize 0 = .ok (.aload_n 0, 1) := by decide +kernel
theorem jd_D_blockSize_1 : decode jb_D_blockSize 1 = .ok (.getfield 41, 3) := by decide +kernel
theorem jd_D_blockSize_4 : decode jb_D_blockSize 4 = .ok (.iload_n 1, 1) := by decide +kernel
theorem jd_D_blockSize_5 : decode jb_D_blockSize 5 = .ok (.ishl, 1) := by decide +kernel
theorem jd_D_blockSize_6 : decode jb_D_blockSize 6 = .ok (.ireturn, 1) := by decide +kernel
theorem jd_D_blockEnd_0 : decode jb_D_blockEnd 0 = .ok (.iload_n 2, 1) := by decide +kernel
theorem jd_D_blockEnd_1 : decode jb_D_blockEnd 1 = .ok (.aload_n 0, 1) := by decide +kernel
theorem jd_D_blockEnd_2 : decode jb_D_blockEnd 2 = .ok (.iload_n 1, 1) := by decide +kernel
theorem jd_D_blockEnd_3 : decode jb_D_blockEnd 3 = .ok (.invokevirtual 123, 3) := by decide +kernel
theorem jd_D_blockEnd_6 : decode jb_D_blockEnd 6 = .ok (.iadd, 1) := by decide +kernel
theorem jd_D_blockEnd_7 : decode jb_D_blockEnd 7 = .ok (.aload_n 0, 1) := by decide +kernel
theorem jd_D_blockEnd_8 : decode jb_D_blockEnd 8 = .ok (.getfield 44, 3) := by decide +kernel
theorem jd_D_blockEnd_11 : decode jb_D_blockEnd 11 = .ok (.invokestatic 148, 3) := by decide +kernel
theorem jd_D_blockEnd_14 : decode jb_D_blockEnd 14 = .ok (.ireturn, 1) := by decide +kernel
theorem jd_D_ask_0 : decode jb_D_ask 0 = .ok (.aload_n 0, 1) := by decide +kernel
theorem jd_D_ask_1 : decode jb_D_ask 1 = .ok (.getfield 82, 3) := by decide +kernel
theorem jd_D_ask_4 : decode jb_D_ask 4 = .ok (.sipush 512, 3) := by decide +kernel
theorem jd_D_ask_7 : decode jb_D_ask 7 = .ok (.if_icmp .ne 4, 3) := by decide +kernel
theorem jd_D_ask_10 : decode jb_D_ask 10 = .ok (.return_, 1) := by decide +kernel
theorem jd_D_ask_11 : decode jb_D_ask 11 = .ok (.aload_n 0, 1) := by decide +kernel
theorem jd_D_ask_12 : decode jb_D_ask 12 = .ok (.getfield 26, 3) := by decide +kernel
theorem jd_D_ask_15 : decode jb_D_ask 15 = .ok (.aload_n 0, 1) := by decide +kernel
theorem jd_D_ask_16 : decode jb_D_ask 16 = .ok (.getfield 82, 3) := by decide +kernel
theorem jd_D_ask_19 : decode jb_D_ask 19 = .ok (.iload_n 1, 1) := by decide +kernel
theorem jd_D_ask_20 : decode jb_D_ask 20 = .ok (.bipush 16, 2) := by decide +kernel
theorem jd_D_ask_22 : decode jb_D_ask 22 = .ok (.ishl, 1) := by decide +kernel
theorem jd_D_ask_23 : decode jb_D_ask 23 = .ok (.iload_n 2, 1) := by decide +kernel
theorem jd_D_ask_24 : decode jb_D_ask 24 = .ok (.bipush 8, 2) := by decide +kernel
theorem jd_D_ask_26 : decode jb_D_ask 26 = .ok (.ishl, 1) := by decide +kernel
theorem jd_D_ask_27 : decode jb_D_ask 27 = .ok (.ior, 1) := by decide +kernel
theorem jd_D_ask_28 : decode jb_D_ask 28 = .ok (.iload_n 3, 1) := by decide +kernel
theorem jd_D_ask_29 : decode jb_D_ask 29 = .ok (.ior, 1) := by decide +kernel
theorem jd_D_ask_30 : decode jb_D_ask 30 = .ok (.iastore, 1) := by decide +kernel
theorem jd_D_ask_31 : decode jb_D_ask 31 = .ok (.aload_n 0, 1) := by decide +kernel
theorem jd_D_ask_32 : decode jb_D_ask 32 = .ok (.dup, 1) := by decide +kernel
theorem jd_D_ask_33 : decode jb_D_ask 33 = .ok (.getfield 82, 3) := by decide +kernel
theorem jd_D_ask_36 : decode jb_D_ask 36 = .ok (.iconst 1, 1) := by decide +kernel
theorem jd_D_ask_37 : decode jb_D_ask 37 = .ok (.iadd, 1) := by decide +kernel
theorem jd_D_ask_38 : decode jb_D_ask 38 = .ok (.putfield 82, 3) := by decide +kernel
theorem jd_D_ask_41 : decode jb_D_ask 41 = .ok (.aload_n 0, 1) := by decide +kernel
theorem jd_D_ask_42 : decode jb_D_ask 42 = .ok (.iload 4, 2) := by decide +kernel
theorem jd_D_ask_44 : decode jb_D_ask 44 = .ok (.putfield 89, 3) := by decide +kernel
theorem jd_D_ask_47 : decode jb_D_ask 47 = .ok (.aload_n 0, 1) := by decide +kernel
theorem jd_D_ask_48 : decode jb_D_ask 48 = .ok (.getfield 12, 3) := by decide +kernel
theorem jd_D_ask_51 : decode jb_D_ask 51 = .ok (.iconst 0, 1) := by decide +kernel
theorem jd_D_ask_52 : decode jb_D_ask 52 = .ok (.aload_n 0, 1) := by decide +kernel
theorem jd_D_ask_53 : decode jb_D_ask 53 = .ok (.getfield 82, 3) := by decide +kernel
theorem jd_D_ask_56 : decode jb_D_ask 56 = .ok (.iconst 0, 1) := by decide +kernel
theorem jd_D_ask_57 : decode jb_D_ask 57 = .ok (.invokevirtual 107, 3) := by decide +kernel
theorem jd_D_ask_60 : decode jb_D_ask 60 = .ok (.return_, 1) := by decide +kernel
theorem jd_D_mendOrMoveOn_0 : decode jb_D_mendOrMoveOn 0 = .ok (.aload_n 0, 1) := by decide +kernel
theorem jd_D_mendOrMoveOn_1 : decode jb_D_mendOrMoveOn 1 = .ok (.invokevirtual 133, 3) := by decide +kernel
theorem jd_D_mendOrMoveOn_4 : decode jb_D_mendOrMoveOn 4 = .ok (.istore_n 1, 1) := by decide +kernel
theorem jd_D_mendOrMoveOn_5 : decode jb_D_mendOrMoveOn 5 = .ok (.iload_n 1, 1) := by decide +kernel
theorem jd_D_mendOrMoveOn_6 : decode jb_D_mendOrMoveOn 6 = .ok (.iconst (-1), 1) := by decide +kernel
theorem jd_D_mendOrMoveOn_7 : decode jb_D_mendOrMoveOn 7 = .ok (.if_icmp .ne 15, 3) := by decide +kernel
theorem jd_D_mendOrMoveOn_10 : decode jb_D_mendOrMoveOn 10 = .ok (.aload_n 0, 1) := by decide +kernel
theorem jd_D_mendOrMoveOn_11 : decode jb_D_mendOrMoveOn 11 = .ok (.dup, 1) := by decide +kernel
theorem jd_D_mendOrMoveOn_12 : decode jb_D_mendOrMoveOn 12 = .ok (.getfield 30, 3) := by decide +kernel
theorem jd_D_mendOrMoveOn_15 : decode jb_D_mendOrMoveOn 15 = .ok (.iconst 1, 1) := by decide +kernel
theorem jd_D_mendOrMoveOn_16 : decode jb_D_mendOrMoveOn 16 = .ok (.iadd, 1) := by decide +kernel
theorem jd_D_mendOrMoveOn_17 : decode jb_D_mendOrMoveOn 17 = .ok (.putfield 30, 3) := by decide +kernel
theorem jd_D_mendOrMoveOn_20 : decode jb_D_mendOrMoveOn 20 = .ok (.iconst 0, 1) := by decide +kernel
theorem jd_D_mendOrMoveOn_21 : decode jb_D_mendOrMoveOn 21 = .ok (.ireturn, 1) := by decide +kernel
theorem jd_D_mendOrMoveOn_22 : decode jb_D_mendOrMoveOn 22 = .ok (.aload_n 0, 1) := by decide +kernel
theorem jd_D_mendOrMoveOn_23 : decode jb_D_mendOrMoveOn 23 = .ok (.iload_n 1, 1) := by decide +kernel
theorem jd_D_mendOrMoveOn_24 : decode jb_D_mendOrMoveOn 24 = .ok (.sipush 128, 3) := by decide +kernel
theorem jd_D_mendOrMoveOn_27 : decode jb_D_mendOrMoveOn 27 = .ok (.idiv, 1) := by decide +kernel
theorem jd_D_mendOrMoveOn_28 : decode jb_D_mendOrMoveOn 28 = .ok (.iload_n 1, 1) := by decide +kernel
theorem jd_D_mendOrMoveOn_29 : decode jb_D_mendOrMoveOn 29 = .ok (.sipush 128, 3) := by decide +kernel
theorem jd_D_mendOrMoveOn_32 : decode jb_D_mendOrMoveOn 32 = .ok (.irem, 1) := by decide +kernel
theorem jd_D_mendOrMoveOn_33 : decode jb_D_mendOrMoveOn 33 = .ok (.invokevirtual 137, 3) := by decide +kernel
theorem jd_D_mendOrMoveOn_36 : decode jb_D_mendOrMoveOn 36 = .ok (.ireturn, 1) := by decide +kernel
theorem jd_D_smallestOddBlock_0 : decode jb_D_smallestOddBlock 0 = .ok (.iconst (-1), 1) := by decide +kernel
theorem jd_D_smallestOddBlock_1 : decode jb_D_smallestOddBlock 1 = .ok (.istore_n 1, 1) := by decide +kernel
theorem jd_D_smallestOddBlock_2 : decode jb_D_smallestOddBlock 2 = .ok (.sipush 129, 3) := by decide +kernel
theorem jd_D_smallestOddBlock_5 : decode jb_D_smallestOddBlock 5 = .ok (.istore_n 2, 1) := by decide +kernel
theorem jd_D_smallestOddBlock_6 : decode jb_D_smallestOddBlock 6 = .ok (.iconst 0, 1) := by decide +kernel
theorem jd_D_smallestOddBlock_7 : decode jb_D_smallestOddBlock 7 = .ok (.istore_n 3, 1) := by decide +kernel
theorem jd_D_smallestOddBlock_8 : decode jb_D_smallestOddBlock 8 = .ok (.iload_n 3, 1) := by decide +kernel
theorem jd_D_smallestOddBlock_9 : decode jb_D_smallestOddBlock 9 = .ok (.aload_n 0, 1) := by decide +kernel
theorem jd_D_smallestOddBlock_10 : decode jb_D_smallestOddBlock 10 = .ok (.getfield 30, 3) := by decide +kernel
theorem jd_D_smallestOddBlock_13 : decode jb_D_smallestOddBlock 13 = .ok (.if_icmp .gt 89, 3) := by decide +kernel
theorem jd_D_smallestOddBlock_16 : decode jb_D_smallestOddBlock 16 = .ok (.aload_n 0, 1) := by decide +kernel
theorem jd_D_smallestOddBlock_17 : decode jb_D_smallestOddBlock 17 = .ok (.iload_n 3, 1) := by decide +kernel
theorem jd_D_smallestOddBlock_18 : decode jb_D_smallestOddBlock 18 = .ok (.invokevirtual 120, 3) := by decide +kernel
theorem jd_D_smallestOddBlock_21 : decode jb_D_smallestOddBlock 21 = .ok (.istore 4, 2) := by decide +kernel
theorem jd_D_smallestOddBlock_23 : decode jb_D_smallestOddBlock 23 = .ok (.iconst 0, 1) := by decide +kernel
theorem jd_D_smallestOddBlock_24 : decode jb_D_smallestOddBlock 24 = .ok (.istore 5, 2) := by decide +kernel
theorem jd_D_smallestOddBlock_26 : decode jb_D_smallestOddBlock 26 = .ok (.iload 5, 2) := by decide +kernel
theorem jd_D_smallestOddBlock_28 : decode jb_D_smallestOddBlock 28 = .ok (.iload 4, 2) := by decide +kernel
theorem jd_D_smallestOddBlock_30 : decode jb_D_smallestOddBlock 30 = .ok (.if_icmp .ge 66, 3) := by decide +kernel
theorem jd_D_smallestOddBlock_33 : decode jb_D_smallestOddBlock 33 = .ok (.iload 5, 2) := by decide +kernel
theorem jd_D_smallestOddBlock_35 : decode jb_D_smallestOddBlock 35 = .ok (.aload_n 0, 1) := by decide +kernel
theorem jd_D_smallestOddBlock_36 : decode jb_D_smallestOddBlock 36 = .ok (.iload_n 3, 1) := by decide +kernel
theorem jd_D_smallestOddBlock_37 : decode jb_D_smallestOddBlock 37 = .ok (.invokevirtual 123, 3) := by decide +kernel
theorem jd_D_smallestOddBlock_40 : decode jb_D_smallestOddBlock 40 = .ok (.imul, 1) := by decide +kernel
theorem jd_D_smallestOddBlock_41 : decode jb_D_smallestOddBlock 41 = .ok (.istore 6, 2) := by decide +kernel
theorem jd_D_smallestOddBlock_43 : decode jb_D_smallestOddBlock 43 = .ok (.aload_n 0, 1) := by decide +kernel
theorem jd_D_smallestOddBlock_44 : decode jb_D_smallestOddBlock 44 = .ok (.iload_n 3, 1) := by decide +kernel
theorem jd_D_smallestOddBlock_45 : decode jb_D_smallestOddBlock 45 = .ok (.iload 6, 2) := by decide +kernel
theorem jd_D_smallestOddBlock_47 : decode jb_D_smallestOddBlock 47 = .ok (.invokevirtual 126, 3) := by decide +kernel
theorem jd_D_smallestOddBlock_50 : decode jb_D_smallestOddBlock 50 = .ok (.istore 7, 2) := by decide +kernel
theorem jd_D_smallestOddBlock_52 : decode jb_D_smallestOddBlock 52 = .ok (.iload 7, 2) := by decide +kernel
theorem jd_D_smallestOddBlock_54 : decode jb_D_smallestOddBlock 54 = .ok (.iload 6, 2) := by decide +kernel
theorem jd_D_smallestOddBlock_56 : decode jb_D_smallestOddBlock 56 = .ok (.isub, 1) := by decide +kernel
theorem jd_D_smallestOddBlock_57 : decode jb_D_smallestOddBlock 57 = .ok (.iload_n 2, 1) := by decide +kernel
theorem jd_D_smallestOddBlock_58 : decode jb_D_smallestOddBlock 58 = .ok (.if_icmp .ge 32, 3) := by decide +kernel
theorem jd_D_smallestOddBlock_61 : decode jb_D_smallestOddBlock 61 = .ok (.aload_n 0, 1) := by decide +kernel
theorem jd_D_smallestOddBlock_62 : decode jb_D_smallestOddBlock 62 = .ok (.iload_n 3, 1) := by decide +kernel
theorem jd_D_smallestOddBlock_63 : decode jb_D_smallestOddBlock 63 = .ok (.iload 6, 2) := by decide +kernel
theorem jd_D_smallestOddBlock_65 : decode jb_D_smallestOddBlock 65 = .ok (.iload 7, 2) := by decide +kernel
theorem jd_D_smallestOddBlock_67 : decode jb_D_smallestOddBlock 67 = .ok (.iload 6, 2) := by decide +kernel
theorem jd_D_smallestOddBlock_69 : decode jb_D_smallestOddBlock 69 = .ok (.invokevirtual 141, 3) := by decide +kernel
theorem jd_D_smallestOddBlock_72 : decode jb_D_smallestOddBlock 72 = .ok (.ifCond .eq 18, 3) := by decide +kernel
theorem jd_D_smallestOddBlock_75 : decode jb_D_smallestOddBlock 75 = .ok (.iload_n 3, 1) := by decide +kernel
theorem jd_D_smallestOddBlock_76 : decode jb_D_smallestOddBlock 76 = .ok (.sipush 128, 3) := by decide +kernel
theorem jd_D_smallestOddBlock_79 : decode jb_D_smallestOddBlock 79 = .ok (.imul, 1) := by decide +kernel
theorem jd_D_smallestOddBlock_80 : decode jb_D_smallestOddBlock 80 = .ok (.iload 6, 2) := by decide +kernel
theorem jd_D_smallestOddBlock_82 : decode jb_D_smallestOddBlock 82 = .ok (.iadd, 1) := by decide +kernel
theorem jd_D_smallestOddBlock_83 : decode jb_D_smallestOddBlock 83 = .ok (.istore_n 1, 1) := by decide +kernel
theorem jd_D_smallestOddBlock_84 : decode jb_D_smallestOddBlock 84 = .ok (.iload 7, 2) := by decide +kernel
theorem jd_D_smallestOddBlock_86 : decode jb_D_smallestOddBlock 86 = .ok (.iload 6, 2) := by decide +kernel
theorem jd_D_smallestOddBlock_88 : decode jb_D_smallestOddBlock 88 = .ok (.isub, 1) := by decide +kernel
theorem jd_D_smallestOddBlock_89 : decode jb_D_smallestOddBlock 89 = .ok (.istore_n 2, 1) := by decide +kernel
theorem jd_D_smallestOddBlock_90 : decode jb_D_smallestOddBlock 90 = .ok (.iinc 5 1, 3) := by decide +kernel
theorem jd_D_smallestOddBlock_93 : decode jb_D_smallestOddBlock 93 = .ok (.goto (-67), 3) := by decide +kernel
theorem jd_D_smallestOddBlock_96 : decode jb_D_smallestOddBlock 96 = .ok (.iinc 3 1, 3) := by decide +kernel
theorem jd_D_smallestOddBlock_99 : decode jb_D_smallestOddBlock 99 = .ok (.goto (-91), 3) := by decide +kernel
theorem jd_D_smallestOddBlock_102 : decode jb_D_smallestOddBlock 102 = .ok (.iload_n 1, 1) := by decide +kernel
theorem jd_D_smallestOddBlock_103 : decode jb_D_smallestOddBlock 103 = .ok (.ireturn, 1) := by decide +kernel
theorem jd_D_isOdd_0 : decode jb_D_isOdd 0 = .ok (.aload_n 0, 1) := by decide +kernel
theorem jd_D_isOdd_1 : decode jb_D_isOdd 1 = .ok (.getfield 23, 3) := by decide +kernel
theorem jd_D_isOdd_4 : decode jb_D_isOdd 4 = .ok (.iload_n 1, 1) := by decide +kernel
theorem jd_D_isOdd_5 : decode jb_D_isOdd 5 = .ok (.aaload, 1) := by decide +kernel
theorem jd_D_isOdd_6 : decode jb_D_isOdd 6 = .ok (.iload 4, 2) := by decide +kernel
theorem jd_D_isOdd_8 : decode jb_D_isOdd 8 = .ok (.iaload, 1) := by decide +kernel
theorem jd_D_isOdd_9 : decode jb_D_isOdd 9 = .ok (.aload_n 0, 1) := by decide +kernel
theorem jd_D_isOdd_10 : decode jb_D_isOdd 10 = .ok (.getfield 38, 3) := by decide +kernel
theorem jd_D_isOdd_13 : decode jb_D_isOdd 13 = .ok (.aload_n 0, 1) := by decide +kernel
theorem jd_D_isOdd_14 : decode jb_D_isOdd 14 = .ok (.getfield 20, 3) := by decide +kernel
theorem jd_D_isOdd_17 : decode jb_D_isOdd 17 = .ok (.iload_n 1, 1) := by decide +kernel
theorem jd_D_isOdd_18 : decode jb_D_isOdd 18 = .ok (.aaload, 1) := by decide +kernel
theorem jd_D_isOdd_19 : decode jb_D_isOdd 19 = .ok (.iload_n 2, 1) := by decide +kernel
theorem jd_D_isOdd_20 : decode jb_D_isOdd 20 = .ok (.iload_n 3, 1) := by decide +kernel
theorem jd_D_isOdd_21 : decode jb_D_isOdd 21 = .ok (.invokevirtual 101, 3) := by decide +kernel
theorem jd_D_isOdd_24 : decode jb_D_isOdd 24 = .ok (.if_icmp .eq 7, 3) := by decide +kernel
theorem jd_D_isOdd_27 : decode jb_D_isOdd 27 = .ok (.iconst 1, 1) := by decide +kernel
theorem jd_D_isOdd_28 : decode jb_D_isOdd 28 = .ok (.goto 4, 3) := by decide +kernel
theorem jd_D_isOdd_31 : decode jb_D_isOdd 31 = .ok (.iconst 0, 1) := by decide +kernel
theorem jd_D_isOdd_32 : decode jb_D_isOdd 32 = .ok (.ireturn, 1) := by decide +kernel
theorem jd_D_search_0 : decode jb_D_search 0 = .ok (.iload_n 2, 1) := by decide +kernel
theorem jd_D_search_1 : decode jb_D_search 1 = .ok (.istore_n 3, 1) := by decide +kernel
theorem jd_D_search_2 : decode jb_D_search 2 = .ok (.aload_n 0, 1) := by decide +kernel
theorem jd_D_search_3 : decode jb_D_search 3 = .ok (.iload_n 1, 1) := by decide +kernel
theorem jd_D_search_4 : decode jb_D_search 4 = .ok (.iload_n 2, 1) := by decide +kernel
theorem jd_D_search_5 : decode jb_D_search 5 = .ok (.invokevirtual 126, 3) := by decide +kernel
theorem jd_D_search_8 : decode jb_D_search 8 = .ok (.istore 4, 2) := by decide +kernel
theorem jd_D_search_10 : decode jb_D_search 10 = .ok (.iconst 0, 1) := by decide +kernel
theorem jd_D_search_11 : decode jb_D_search 11 = .ok (.istore 5, 2) := by decide +kernel
theorem jd_D_search_13 : decode jb_D_search 13 = .ok (.iload 5, 2) := by decide +kernel
theorem jd_D_search_15 : decode jb_D_search 15 = .ok (.sipush 128, 3) := by decide +kernel
theorem jd_D_search_18 : decode jb_D_search 18 = .ok (.if_icmp .ge 77, 3) := by decide +kernel
theorem jd_D_search_21 : decode jb_D_search 21 = .ok (.iload 4, 2) := by decide +kernel
theorem jd_D_search_23 : decode jb_D_search 23 = .ok (.iload_n 3, 1) := by decide +kernel
theorem jd_D_search_24 : decode jb_D_search 24 = .ok (.isub, 1) := by decide +kernel
theorem jd_D_search_25 : decode jb_D_search 25 = .ok (.iconst 1, 1) := by decide +kernel
theorem jd_D_search_26 : decode jb_D_search 26 = .ok (.if_icmp .le 69, 3) := by decide +kernel
theorem jd_D_search_29 : decode jb_D_search 29 = .ok (.iload_n 3, 1) := by decide +kernel
theorem jd_D_search_30 : decode jb_D_search 30 = .ok (.iload 4, 2) := by decide +kernel
theorem jd_D_search_32 : decode jb_D_search 32 = .ok (.iload_n 3, 1) := by decide +kernel
theorem jd_D_search_33 : decode jb_D_search 33 = .ok (.isub, 1) := by decide +kernel
theorem jd_D_search_34 : decode jb_D_search 34 = .ok (.iconst 1, 1) := by decide +kernel
theorem jd_D_search_35 : decode jb_D_search 35 = .ok (.iadd, 1) := by decide +kernel
theorem jd_D_search_36 : decode jb_D_search 36 = .ok (.iconst 2, 1) := by decide +kernel
theorem jd_D_search_37 : decode jb_D_search 37 = .ok (.idiv, 1) := by decide +kernel
theorem jd_D_search_38 : decode jb_D_search 38 = .ok (.iadd, 1) := by decide +kernel
theorem jd_D_search_39 : decode jb_D_search 39 = .ok (.istore 6, 2) := by decide +kernel
theorem jd_D_search_41 : decode jb_D_search 41 = .ok (.aload_n 0, 1) := by decide +kernel
theorem jd_D_search_42 : decode jb_D_search 42 = .ok (.getfield 23, 3) := by decide +kernel
theorem jd_D_search_45 : decode jb_D_search 45 = .ok (.iload_n 1, 1) := by decide +kernel
theorem jd_D_search_46 : decode jb_D_search 46 = .ok (.aaload, 1) := by decide +kernel
theorem jd_D_search_47 : decode jb_D_search 47 = .ok (.iload 6, 2) := by decide +kernel
theorem jd_D_search_49 : decode jb_D_search 49 = .ok (.iaload, 1) := by decide +kernel
theorem jd_D_search_50 : decode jb_D_search 50 = .ok (.iconst (-1), 1) := by decide +kernel
theorem jd_D_search_51 : decode jb_D_search 51 = .ok (.if_icmp .ne 15, 3) := by decide +kernel
theorem jd_D_search_54 : decode jb_D_search 54 = .ok (.aload_n 0, 1) := by decide +kernel
theorem jd_D_search_55 : decode jb_D_search 55 = .ok (.iload_n 1, 1) := by decide +kernel
theorem jd_D_search_56 : decode jb_D_search 56 = .ok (.iload_n 3, 1) := by decide +kernel
theorem jd_D_search_57 : decode jb_D_search 57 = .ok (.iload 6, 2) := by decide +kernel
theorem jd_D_search_59 : decode jb_D_search 59 = .ok (.iload 6, 2) := by decide +kernel
theorem jd_D_search_61 : decode jb_D_search 61 = .ok (.invokevirtual 129, 3) := by decide +kernel
theorem jd_D_search_64 : decode jb_D_search 64 = .ok (.iconst 1, 1) := by decide +kernel
theorem jd_D_search_65 : decode jb_D_search 65 = .ok (.ireturn, 1) := by decide +kernel
theorem jd_D_search_66 : decode jb_D_search 66 = .ok (.aload_n 0, 1) := by decide +kernel
theorem jd_D_search_67 : decode jb_D_search 67 = .ok (.iload_n 1, 1) := by decide +kernel
theorem jd_D_search_68 : decode jb_D_search 68 = .ok (.iload_n 3, 1) := by decide +kernel
theorem jd_D_search_69 : decode jb_D_search 69 = .ok (.iload 6, 2) := by decide +kernel
theorem jd_D_search_71 : decode jb_D_search 71 = .ok (.iload 6, 2) := by decide +kernel
theorem jd_D_search_73 : decode jb_D_search 73 = .ok (.invokevirtual 141, 3) := by decide +kernel
theorem jd_D_search_76 : decode jb_D_search 76 = .ok (.ifCond .eq 10, 3) := by decide +kernel
theorem jd_D_search_79 : decode jb_D_search 79 = .ok (.iload 6, 2) := by decide +kernel
theorem jd_D_search_81 : decode jb_D_search 81 = .ok (.istore 4, 2) := by decide +kernel
theorem jd_D_search_83 : decode jb_D_search 83 = .ok (.goto 6, 3) := by decide +kernel
theorem jd_D_search_86 : decode jb_D_search 86 = .ok (.iload 6, 2) := by decide +kernel
theorem jd_D_search_88 : decode jb_D_search 88 = .ok (.istore_n 3, 1) := by decide +kernel
theorem jd_D_search_89 : decode jb_D_search 89 = .ok (.iinc 5 1, 3) := by decide +kernel
theorem jd_D_search_92 : decode jb_D_search 92 = .ok (.goto (-79), 3) := by decide +kernel
theorem jd_D_search_95 : decode jb_D_search 95 = .ok (.aload_n 0, 1) := by decide +kernel
theorem jd_D_search_96 : decode jb_D_search 96 = .ok (.getfield 38, 3) := by decide +kernel
theorem jd_D_search_99 : decode jb_D_search 99 = .ok (.getfield 145, 3) := by decide +kernel
theorem jd_D_search_102 : decode jb_D_search 102 = .ok (.aload_n 0, 1) := by decide +kernel
theorem jd_D_search_103 : decode jb_D_search 103 = .ok (.getfield 20, 3) := by decide +kernel
theorem jd_D_search_106 : decode jb_D_search 106 = .ok (.iload_n 1, 1) := by decide +kernel
theorem jd_D_search_107 : decode jb_D_search 107 = .ok (.aaload, 1) := by decide +kernel
theorem jd_D_search_108 : decode jb_D_search 108 = .ok (.iload_n 3, 1) := by decide +kernel
theorem jd_D_search_109 : decode jb_D_search 109 = .ok (.iaload, 1) := by decide +kernel
theorem jd_D_search_110 : decode jb_D_search 110 = .ok (.dup2, 1) := by decide +kernel
theorem jd_D_search_111 : decode jb_D_search 111 = .ok (.iaload, 1) := by decide +kernel
theorem jd_D_search_112 : decode jb_D_search 112 = .ok (.iconst 1, 1) := by decide +kernel
theorem jd_D_search_113 : decode jb_D_search 113 = .ok (.ixor, 1) := by decide +kernel
theorem jd_D_search_114 : decode jb_D_search 114 = .ok (.iastore, 1) := by decide +kernel
theorem jd_D_search_115 : decode jb_D_search 115 = .ok (.iconst 0, 1) := by decide +kernel
theorem jd_D_search_116 : decode jb_D_search 116 = .ok (.ireturn, 1) := by decide +kernel
theorem jd_D_deliver_0 : decode jb_D_deliver 0 = .ok (.aload_n 0, 1) := by decide +kernel
theorem jd_D_deliver_1 : decode jb_D_deliver 1 = .ok (.getfield 12, 3) := by decide +kernel
theorem jd_D_deliver_4 : decode jb_D_deliver 4 = .ok (.getfield 59, 3) := by decide +kernel
theorem jd_D_deliver_7 : decode jb_D_deliver 7 = .ok (.iload_n 1, 1) := by decide +kernel
theorem jd_D_deliver_8 : decode jb_D_deliver 8 = .ok (.iaload, 1) := by decide +kernel
theorem jd_D_deliver_9 : decode jb_D_deliver 9 = .ok (.istore_n 2, 1) := by decide +kernel
theorem jd_D_deliver_10 : decode jb_D_deliver 10 = .ok (.aload_n 0, 1) := by decide +kernel
theorem jd_D_deliver_11 : decode jb_D_deliver 11 = .ok (.getfield 12, 3) := by decide +kernel
theorem jd_D_deliver_14 : decode jb_D_deliver 14 = .ok (.getfield 56, 3) := by decide +kernel
theorem jd_D_deliver_17 : decode jb_D_deliver 17 = .ok (.iload_n 1, 1) := by decide +kernel
theorem jd_D_deliver_18 : decode jb_D_deliver 18 = .ok (.iaload, 1) := by decide +kernel
theorem jd_D_deliver_19 : decode jb_D_deliver 19 = .ok (.istore_n 3, 1) := by decide +kernel
theorem jd_D_deliver_20 : decode jb_D_deliver 20 = .ok (.aload_n 0, 1) := by decide +kernel
theorem jd_D_deliver_21 : decode jb_D_deliver 21 = .ok (.getfield 12, 3) := by decide +kernel
theorem jd_D_deliver_24 : decode jb_D_deliver 24 = .ok (.getfield 66, 3) := by decide +kernel
theorem jd_D_deliver_27 : decode jb_D_deliver 27 = .ok (.iload_n 1, 1) := by decide +kernel
theorem jd_D_deliver_28 : decode jb_D_deliver 28 = .ok (.iaload, 1) := by decide +kernel
theorem jd_D_deliver_29 : decode jb_D_deliver 29 = .ok (.istore 4, 2) := by decide +kernel
theorem jd_D_deliver_31 : decode jb_D_deliver 31 = .ok (.aload_n 0, 1) := by decide +kernel
theorem jd_D_deliver_32 : decode jb_D_deliver 32 = .ok (.getfield 12, 3) := by decide +kernel
theorem jd_D_deliver_35 : decode jb_D_deliver 35 = .ok (.iload_n 1, 1) := by decide +kernel
theorem jd_D_deliver_36 : decode jb_D_deliver 36 = .ok (.invokevirtual 75, 3) := by decide +kernel
theorem jd_D_deliver_39 : decode jb_D_deliver 39 = .ok (.iload_n 2, 1) := by decide +kernel
theorem jd_D_deliver_40 : decode jb_D_deliver 40 = .ok (.ifCond .ne 11, 3) := by decide +kernel
theorem jd_D_deliver_43 : decode jb_D_deliver 43 = .ok (.aload_n 0, 1) := by decide +kernel
theorem jd_D_deliver_44 : decode jb_D_deliver 44 = .ok (.iload_n 3, 1) := by decide +kernel
theorem jd_D_deliver_45 : decode jb_D_deliver 45 = .ok (.invokevirtual 79, 3) := by decide +kernel
theorem jd_D_deliver_48 : decode jb_D_deliver 48 = .ok (.goto 42, 3) := by decide +kernel
theorem jd_D_deliver_51 : decode jb_D_deliver 51 = .ok (.iload_n 3, 1) := by decide +kernel
theorem jd_D_deliver_52 : decode jb_D_deliver 52 = .ok (.aload_n 0, 1) := by decide +kernel
theorem jd_D_deliver_53 : decode jb_D_deliver 53 = .ok (.getfield 82, 3) := by decide +kernel
theorem jd_D_deliver_56 : decode jb_D_deliver 56 = .ok (.if_icmp .ne 34, 3) := by decide +kernel
theorem jd_D_deliver_59 : decode jb_D_deliver 59 = .ok (.aload_n 0, 1) := by decide +kernel
theorem jd_D_deliver_60 : decode jb_D_deliver 60 = .ok (.invokevirtual 85, 3) := by decide +kernel
theorem jd_D_deliver_63 : decode jb_D_deliver 63 = .ok (.ifCond .eq 27, 3) := by decide +kernel
theorem jd_D_deliver_66 : decode jb_D_deliver 66 = .ok (.aload_n 0, 1) := by decide +kernel
theorem jd_D_deliver_67 : decode jb_D_deliver 67 = .ok (.getfield 23, 3) := by decide +kernel
theorem jd_D_deliver_70 : decode jb_D_deliver 70 = .ok (.aload_n 0, 1) := by decide +kernel
theorem jd_D_deliver_71 : decode jb_D_deliver 71 = .ok (.aload_n 0, 1) := by decide +kernel
theorem jd_D_deliver_72 : decode jb_D_deliver 72 = .ok (.getfield 82, 3) := by decide +kernel
theorem jd_D_deliver_75 : decode jb_D_deliver 75 = .ok (.invokevirtual 62, 3) := by decide +kernel
theorem jd_D_deliver_78 : decode jb_D_deliver 78 = .ok (.aaload, 1) := by decide +kernel
theorem jd_D_deliver_79 : decode jb_D_deliver 79 = .ok (.aload_n 0, 1) := by decide +kernel
theorem jd_D_deliver_80 : decode jb_D_deliver 80 = .ok (.getfield 89, 3) := by decide +kernel
theorem jd_D_deliver_83 : decode jb_D_deliver 83 = .ok (.iload 4, 2) := by decide +kernel
theorem jd_D_deliver_85 : decode jb_D_deliver 85 = .ok (.iastore, 1) := by decide +kernel
theorem jd_D_deliver_86 : decode jb_D_deliver 86 = .ok (.aload_n 0, 1) := by decide +kernel
theorem jd_D_deliver_87 : decode jb_D_deliver 87 = .ok (.invokevirtual 53, 3) := by decide +kernel
theorem jd_D_deliver_90 : decode jb_D_deliver 90 = .ok (.return_, 1) := by decide +kernel
theorem jd_D_answer_0 : decode jb_D_answer 0 = .ok (.aload_n 0, 1) := by decide +kernel
theorem jd_D_answer_1 : decode jb_D_answer 1 = .ok (.aload_n 0, 1) := by decide +kernel
theorem jd_D_answer_2 : decode jb_D_answer 2 = .ok (.getfield 92, 3) := by decide +kernel
theorem jd_D_answer_5 : decode jb_D_answer 5 = .ok (.iload_n 1, 1) := by decide +kernel
theorem jd_D_answer_6 : decode jb_D_answer 6 = .ok (.invokestatic 95, 3) := by decide +kernel
theorem jd_D_answer_9 : decode jb_D_answer 9 = .ok (.putfield 92, 3) := by decide +kernel
theorem jd_D_answer_12 : decode jb_D_answer 12 = .ok (.aload_n 0, 1) := by decide +kernel
theorem jd_D_answer_13 : decode jb_D_answer 13 = .ok (.getfield 34, 3) := by decide +kernel
theorem jd_D_answer_16 : decode jb_D_answer 16 = .ok (.aload_n 0, 1) := by decide +kernel
theorem jd_D_answer_17 : decode jb_D_answer 17 = .ok (.getfield 20, 3) := by decide +kernel
theorem jd_D_answer_20 : decode jb_D_answer 20 = .ok (.aload_n 0, 1) := by decide +kernel
theorem jd_D_answer_21 : decode jb_D_answer 21 = .ok (.iload_n 1, 1) := by decide +kernel
theorem jd_D_answer_22 : decode jb_D_answer 22 = .ok (.invokevirtual 62, 3) := by decide +kernel
theorem jd_D_answer_25 : decode jb_D_answer 25 = .ok (.aaload, 1) := by decide +kernel
theorem jd_D_answer_26 : decode jb_D_answer 26 = .ok (.aload_n 0, 1) := by decide +kernel
theorem jd_D_answer_27 : decode jb_D_answer 27 = .ok (.iload_n 1, 1) := by decide +kernel
theorem jd_D_answer_28 : decode jb_D_answer 28 = .ok (.invokevirtual 69, 3) := by decide +kernel
theorem jd_D_answer_31 : decode jb_D_answer 31 = .ok (.aload_n 0, 1) := by decide +kernel
theorem jd_D_answer_32 : decode jb_D_answer 32 = .ok (.iload_n 1, 1) := by decide +kernel
theorem jd_D_answer_33 : decode jb_D_answer 33 = .ok (.invokevirtual 72, 3) := by decide +kernel
theorem jd_D_answer_36 : decode jb_D_answer 36 = .ok (.invokevirtual 101, 3) := by decide +kernel
theorem jd_D_answer_39 : decode jb_D_answer 39 = .ok (.istore_n 2, 1) := by decide +kernel
theorem jd_D_answer_40 : decode jb_D_answer 40 = .ok (.aload_n 0, 1) := by decide +kernel
theorem jd_D_answer_41 : decode jb_D_answer 41 = .ok (.getfield 12, 3) := by decide +kernel
theorem jd_D_answer_44 : decode jb_D_answer 44 = .ok (.iconst 1, 1) := by decide +kernel
theorem jd_D_answer_45 : decode jb_D_answer 45 = .ok (.iload_n 1, 1) := by decide +kernel
theorem jd_D_answer_46 : decode jb_D_answer 46 = .ok (.iload_n 2, 1) := by decide +kernel
theorem jd_D_answer_47 : decode jb_D_answer 47 = .ok (.invokevirtual 107, 3) := by decide +kernel
theorem jd_D_answer_50 : decode jb_D_answer 50 = .ok (.return_, 1) := by decide +kernel
theorem jd_D_isNewestUnknown_0 : decode jb_D_isNewestUnknown 0 = .ok (.aload_n 0, 1) := by decide +kernel
theorem jd_D_isNewestUnknown_1 : decode jb_D_isNewestUnknown 1 = .ok (.getfield 23, 3) := by decide +kernel
theorem jd_D_isNewestUnknown_4 : decode jb_D_isNewestUnknown 4 = .ok (.aload_n 0, 1) := by decide +kernel
theorem jd_D_isNewestUnknown_5 : decode jb_D_isNewestUnknown 5 = .ok (.aload_n 0, 1) := by decide +kernel
theorem jd_D_isNewestUnknown_6 : decode jb_D_isNewestUnknown 6 = .ok (.getfield 82, 3) := by decide +kernel
theorem jd_D_isNewestUnknown_9 : decode jb_D_isNewestUnknown 9 = .ok (.invokevirtual 62, 3) := by decide +kernel
theorem jd_D_isNewestUnknown_12 : decode jb_D_isNewestUnknown 12 = .ok (.aaload, 1) := by decide +kernel
theorem jd_D_isNewestUnknown_13 : decode jb_D_isNewestUnknown 13 = .ok (.aload_n 0, 1) := by decide +kernel
theorem jd_D_isNewestUnknown_14 : decode jb_D_isNewestUnknown 14 = .ok (.getfield 89, 3) := by decide +kernel
theorem jd_D_isNewestUnknown_17 : decode jb_D_isNewestUnknown 17 = .ok (.iaload, 1) := by decide +kernel
theorem jd_D_isNewestUnknown_18 : decode jb_D_isNewestUnknown 18 = .ok (.iconst (-1), 1) := by decide +kernel
theorem jd_D_isNewestUnknown_19 : decode jb_D_isNewestUnknown 19 = .ok (.if_icmp .ne 7, 3) := by decide +kernel
theorem jd_D_isNewestUnknown_22 : decode jb_D_isNewestUnknown 22 = .ok (.iconst 1, 1) := by decide +kernel
theorem jd_D_isNewestUnknown_23 : decode jb_D_isNewestUnknown 23 = .ok (.goto 4, 3) := by decide +kernel
theorem jd_D_isNewestUnknown_26 : decode jb_D_isNewestUnknown 26 = .ok (.iconst 0, 1) := by decide +kernel
theorem jd_D_isNewestUnknown_27 : decode jb_D_isNewestUnknown 27 = .ok (.ireturn, 1) := by decide +kernel
theorem jd_D_askAgain_0 : decode jb_D_askAgain 0 = .ok (.aload_n 0, 1) := by decide +kernel
theorem jd_D_askAgain_1 : decode jb_D_askAgain 1 = .ok (.invokevirtual 85, 3) := by decide +kernel
theorem jd_D_askAgain_4 : decode jb_D_askAgain 4 = .ok (.ifCond .eq 16, 3) := by decide +kernel
theorem jd_D_askAgain_7 : decode jb_D_askAgain 7 = .ok (.aload_n 0, 1) := by decide +kernel
theorem jd_D_askAgain_8 : decode jb_D_askAgain 8 = .ok (.getfield 12, 3) := by decide +kernel
theorem jd_D_askAgain_11 : decode jb_D_askAgain 11 = .ok (.iconst 0, 1) := by decide +kernel
theorem jd_D_askAgain_12 : decode jb_D_askAgain 12 = .ok (.aload_n 0, 1) := by decide +kernel
theorem jd_D_askAgain_13 : decode jb_D_askAgain 13 = .ok (.getfield 82, 3) := by decide +kernel
theorem jd_D_askAgain_16 : decode jb_D_askAgain 16 = .ok (.iconst 0, 1) := by decide +kernel
theorem jd_D_askAgain_17 : decode jb_D_askAgain 17 = .ok (.invokevirtual 107, 3) := by decide +kernel
theorem jd_D_askAgain_20 : decode jb_D_askAgain 20 = .ok (.return_, 1) := by decide +kernel
end
section
/-! the instructions, decoded. Printed by wip/gen/gen04.py -/
theorem jd_K_init_0 : decode jb_K_init 0 = .ok (.aload_n 0, 1) := by decide +kernel
theorem jd_K_init_1 : decode jb_K_init 1 = .ok (.invokespecial 1, 3) := by decide +kernel
theorem jd_K_init_4 : decode jb_K_init 4 = .ok (.aload_n 0, 1) := by decide +kernel
theorem jd_K_init_5 : decode jb_K_init 5 = .ok (.new 7, 3) := by decide +kernel
theorem jd_K_init_8 : decode jb_K_init 8 = .ok (.dup, 1) := by decide +kernel
theorem jd_K_init_9 : decode jb_K_init 9 = .ok (.invokespecial 9, 3) := by decide +kernel
theorem jd_K_init_12 : decode jb_K_init 12 = .ok (.putfield 10, 3) := by decide +kernel
theorem jd_K_init_15 : decode jb_K_init 15 = .ok (.aload_n 0, 1) := by decide +kernel
theorem jd_K_init_16 : decode jb_K_init 16 = .ok (.new 7, 3) := by decide +kernel
theorem jd_K_init_19 : decode jb_K_init 19 = .ok (.dup, 1) := by decide +kernel
theorem jd_K_init_20 : decode jb_K_init 20 = .ok (.invokespecial 9, 3) := by decide +kernel
theorem jd_K_init_23 : decode jb_K_init 23 = .ok (.putfield 16, 3) := by decide +kernel
theorem jd_K_init_26 : decode jb_K_init 26 = .ok (.aload_n 0, 1) := by decide +kernel
theorem jd_K_init_27 : decode jb_K_init 27 = .ok (.new 19, 3) := by decide +kernel
theorem jd_K_init_30 : decode jb_K_init 30 = .ok (.dup, 1) := by decide +kernel
theorem jd_K_init_31 : decode jb_K_init 31 = .ok (.invokespecial 21, 3) := by decide +kernel
theorem jd_K_init_34 : decode jb_K_init 34 = .ok (.putfield 22, 3) := by decide +kernel
theorem jd_K_init_37 : decode jb_K_init 37 = .ok (.aload_n 0, 1) := by decide +kernel
theorem jd_K_init_38 : decode jb_K_init 38 = .ok (.new 26, 3) := by decide +kernel
theorem jd_K_init_41 : decode jb_K_init 41 = .ok (.dup, 1) := by decide +kernel
theorem jd_K_init_42 : decode jb_K_init 42 = .ok (.aload_n 0, 1) := by decide +kernel
theorem jd_K_init_43 : decode jb_K_init 43 = .ok (.getfield 10, 3) := by decide +kernel
theorem jd_K_init_46 : decode jb_K_init 46 = .ok (.aload_n 0, 1) := by decide +kernel
theorem jd_K_init_47 : decode jb_K_init 47 = .ok (.getfield 16, 3) := by decide +kernel
theorem jd_K_init_50 : decode jb_K_init 50 = .ok (.invokespecial 28, 3) := by decide +kernel
theorem jd_K_init_53 : decode jb_K_init 53 = .ok (.putfield 31, 3) := by decide +kernel
theorem jd_K_init_56 : decode jb_K_init 56 = .ok (.aload_n 0, 1) := by decide +kernel
theorem jd_K_init_57 : decode jb_K_init 57 = .ok (.sipush 128, 3) := by decide +kernel
theorem jd_K_init_60 : decode jb_K_init 60 = .ok (.newarray .int, 2) := by decide +kernel
theorem jd_K_init_62 : decode jb_K_init 62 = .ok (.putfield 35, 3) := by decide +kernel
theorem jd_K_init_65 : decode jb_K_init 65 = .ok (.aload_n 0, 1) := by decide +kernel
theorem jd_K_init_66 : decode jb_K_init 66 = .ok (.sipush 128, 3) := by decide +kernel
theorem jd_K_init_69 : decode jb_K_init 69 = .ok (.newarray .int, 2) := by decide +kernel
theorem jd_K_init_71 : decode jb_K_init 71 = .ok (.putfield 39, 3) := by decide +kernel
theorem jd_K_init_74 : decode jb_K_init 74 = .ok (.aload_n 0, 1) := by decide +kernel
theorem jd_K_init_75 : decode jb_K_init 75 = .ok (.sipush 256, 3) := by decide +kernel
theorem jd_K_init_78 : decode jb_K_init 78 = .ok (.newarray .int, 2) := by decide +kernel
theorem jd_K_init_80 : decode jb_K_init 80 = .ok (.putfield 42, 3) := by decide +kernel
theorem jd_K_init_83 : decode jb_K_init 83 = .ok (.aload_n 0, 1) := by decide +kernel
theorem jd_K_init_84 : decode jb_K_init 84 = .ok (.iconst (-1), 1) := by decide +kernel
theorem jd_K_init_85 : decode jb_K_init 85 = .ok (.putfield 45, 3) := by decide +kernel
theorem jd_K_init_88 : decode jb_K_init 88 = .ok (.return_, 1) := by decide +kernel
theorem jd_K_length_0 : decode jb_K_length 0 = .ok (.aload_n 0, 1) := by decide +kernel
theorem jd_K_length_1 : decode jb_K_length 1 = .ok (.getfield 45, 3) := by decide +kernel
theorem jd_K_length_4 : decode jb_K_length 4 = .ok (.ireturn, 1) := by decide +kernel
theorem jd_K_sampled_0 : decode jb_K_sampled 0 = .ok (.iload_n 1, 1) := by decide +kernel
theorem jd_K_sampled_1 : decode jb_K_sampled 1 = .ok (.lookupswitch 37 #[(0, 27), (1, 32)], 27) := by decide +kernel
theorem jd_K_sampled_28 : decode jb_K_sampled 28 = .ok (.aload_n 0, 1) := by decide +kernel
theorem jd_K_sampled_29 : decode jb_K_sampled 29 = .ok (.getfield 115, 3) := by decide +kernel
theorem jd_K_sampled_32 : decode jb_K_sampled 32 = .ok (.ireturn, 1) := by decide +kernel
theorem jd_K_sampled_33 : decode jb_K_sampled 33 = .ok (.aload_n 0, 1) := by decide +kernel
theorem jd_K_sampled_34 : decode jb_K_sampled 34 = .ok (.getfield 118, 3) := by decide +kernel
theorem jd_K_sampled_37 : decode jb_K_sampled 37 = .ok (.ireturn, 1) := by decide +kernel
theorem jd_K_sampled_38 : decode jb_K_sampled 38 = .ok (.iconst (-1), 1) := by decide +kernel
theorem jd_K_sampled_39 : decode jb_K_sampled 39 = .ok (.ireturn, 1) := by decide +kernel
theorem jd_K_told_0 : decode jb_K_told 0 = .ok (.aload_n 0, 1) := by decide +kernel
theorem jd_K_told_1 : decode jb_K_told 1 = .ok (.getfield 31, 3) := by decide +kernel
theorem jd_K_told_4 : decode jb_K_told 4 = .ok (.getfield 133, 3) := by decide +kernel
theorem jd_K_told_7 : decode jb_K_told 7 = .ok (.iload_n 1, 1) := by decide +kernel
theorem jd_K_told_8 : decode jb_K_told 8 = .ok (.invokevirtual 144, 3) := by decide +kernel
theorem jd_K_told_11 : decode jb_K_told 11 = .ok (.ifCond .eq 15, 3) := by decide +kernel
theorem jd_K_told_14 : decode jb_K_told 14 = .ok (.aload_n 0, 1) := by decide +kernel
theorem jd_K_told_15 : decode jb_K_told 15 = .ok (.getfield 31, 3) := by decide +kernel
theorem jd_K_told_18 : decode jb_K_told 18 = .ok (.iload_n 1, 1) := by decide +kernel
theorem jd_K_told_19 : decode jb_K_told 19 = .ok (.iload_n 2, 1) := by decide +kernel
theorem jd_K_told_20 : decode jb_K_told 20 = .ok (.invokevirtual 174, 3) := by decide +kernel
theorem jd_K_told_23 : decode jb_K_told 23 = .ok (.goto 4, 3) := by decide +kernel
theorem jd_K_told_26 : decode jb_K_told 26 = .ok (.iconst (-1), 1) := by decide +kernel
theorem jd_K_told_27 : decode jb_K_told 27 = .ok (.ireturn, 1) := by decide +kernel
theorem jd_K_done_0 : decode jb_K_done 0 = .ok (.aload_n 0, 1) := by decide +kernel
theorem jd_K_done_1 : decode jb_K_done 1 = .ok (.getfield 31, 3) := by decide +kernel
theorem jd_K_done_4 : decode jb_K_done 4 = .ok (.invokevirtual 183, 3) := by decide +kernel
theorem jd_K_done_7 : decode jb_K_done 7 = .ok (.ireturn, 1) := by decide +kernel
theorem jd_K_pass_0 : decode jb_K_pass 0 = .ok (.aload_n 0, 1) := by decide +kernel
theorem jd_K_pass_1 : decode jb_K_pass 1 = .ok (.getfield 31, 3) := by decide +kernel
theorem jd_K_pass_4 : decode jb_K_pass 4 = .ok (.getfield 186, 3) := by decide +kernel
theorem jd_K_pass_7 : decode jb_K_pass 7 = .ok (.ireturn, 1) := by decide +kernel
theorem jd_K_disclosed_0 : decode jb_K_disclosed 0 = .ok (.aload_n 0, 1) := by decide +kernel
theorem jd_K_disclosed_1 : decode jb_K_disclosed 1 = .ok (.getfield 31, 3) := by decide +kernel
theorem jd_K_disclosed_4 : decode jb_K_disclosed 4 = .ok (.getfield 189, 3) := by decide +kernel
theorem jd_K_disclosed_7 : decode jb_K_disclosed 7 = .ok (.ireturn, 1) := by decide +kernel
theorem jd_K_answered_0 : decode jb_K_answered 0 = .ok (.iload_n 1, 1) := by decide +kernel
theorem jd_K_answered_1 : decode jb_K_answered 1 = .ok (.ifCond .lt 26, 3) := by decide +kernel
theorem jd_K_answered_4 : decode jb_K_answered 4 = .ok (.iload_n 1, 1) := by decide +kernel
theorem jd_K_answered_5 : decode jb_K_answered 5 = .ok (.aload_n 0, 1) := by decide +kernel
theorem jd_K_answered_6 : decode jb_K_answered 6 = .ok (.getfield 31, 3) := by decide +kernel
theorem jd_K_answered_9 : decode jb_K_answered 9 = .ok (.getfield 189, 3) := by decide +kernel
theorem jd_K_answered_12 : decode jb_K_answered 12 = .ok (.if_icmp .ge 15, 3) := by decide +kernel
theorem jd_K_answered_15 : decode jb_K_answered 15 = .ok (.aload_n 0, 1) := by decide +kernel
theorem jd_K_answered_16 : decode jb_K_answered 16 = .ok (.getfield 31, 3) := by decide +kernel
theorem jd_K_answered_19 : decode jb_K_answered 19 = .ok (.getfield 192, 3) := by decide +kernel
theorem jd_K_answered_22 : decode jb_K_answered 22 = .ok (.iload_n 1, 1) := by decide +kernel
theorem jd_K_answered_23 : decode jb_K_answered 23 = .ok (.iaload, 1) := by decide +kernel
theorem jd_K_answered_24 : decode jb_K_answered 24 = .ok (.goto 4, 3) := by decide +kernel
theorem jd_K_answered_27 : decode jb_K_answered 27 = .ok (.iconst (-1), 1) := by decide +kernel
theorem jd_K_answered_28 : decode jb_K_answered 28 = .ok (.ireturn, 1) := by decide +kernel
theorem jd_K_record_0 : decode jb_K_record 0 = .ok (.iload_n 1, 1) := by decide +kernel
theorem jd_K_record_1 : decode jb_K_record 1 = .ok (.invokestatic 49, 3) := by decide +kernel
theorem jd_K_record_4 : decode jb_K_record 4 = .ok (.ifCond .eq 27, 3) := by decide +kernel
theorem jd_K_record_7 : decode jb_K_record 7 = .ok (.iload_n 3, 1) := by decide +kernel
theorem jd_K_record_8 : decode jb_K_record 8 = .ok (.iconst 1, 1) := by decide +kernel
theorem jd_K_record_9 : decode jb_K_record 9 = .ok (.if_icmp .lt 22, 3) := by decide +kernel
theorem jd_K_record_12 : decode jb_K_record 12 = .ok (.iload_n 3, 1) := by decide +kernel
theorem jd_K_record_13 : decode jb_K_record 13 = .ok (.bipush 32, 2) := by decide +kernel
theorem jd_K_record_15 : decode jb_K_record 15 = .ok (.if_icmp .gt 16, 3) := by decide +kernel
theorem jd_K_record_18 : decode jb_K_record 18 = .ok (.iload_n 2, 1) := by decide +kernel
theorem jd_K_record_19 : decode jb_K_record 19 = .ok (.ifCond .lt 12, 3) := by decide +kernel
theorem jd_K_record_22 : decode jb_K_record 22 = .ok (.iload_n 2, 1) := by decide +kernel
theorem jd_K_record_23 : decode jb_K_record 23 = .ok (.sipush 128, 3) := by decide +kernel
theorem jd_K_record_26 : decode jb_K_record 26 = .ok (.iload_n 3, 1) := by decide +kernel
theorem jd_K_record_27 : decode jb_K_record 27 = .ok (.isub, 1) := by decide +kernel
theorem jd_K_record_28 : decode jb_K_record 28 = .ok (.if_icmp .le 13, 3) := by decide +kernel
theorem jd_K_record_31 : decode jb_K_record 31 = .ok (.new 53, 3) := by decide +kernel
theorem jd_K_record_34 : decode jb_K_record 34 = .ok (.dup, 1) := by decide +kernel
theorem jd_K_record_35 : decode jb_K_record 35 = .ok (.ldc 55, 2) := by decide +kernel
theorem jd_K_record_37 : decode jb_K_record 37 = .ok (.invokespecial 57, 3) := by decide +kernel
theorem jd_K_record_40 : decode jb_K_record 40 = .ok (.athrow, 1) := by decide +kernel
theorem jd_K_record_41 : decode jb_K_record 41 = .ok (.aload_n 0, 1) := by decide +kernel
theorem jd_K_record_42 : decode jb_K_record 42 = .ok (.iload_n 1, 1) := by decide +kernel
theorem jd_K_record_43 : decode jb_K_record 43 = .ok (.invokevirtual 60, 3) := by decide +kernel
theorem jd_K_record_46 : decode jb_K_record 46 = .ok (.astore 7, 2) := by decide +kernel
theorem jd_K_record_48 : decode jb_K_record 48 = .ok (.aload_n 0, 1) := by decide +kernel
theorem jd_K_record_49 : decode jb_K_record 49 = .ok (.invokevirtual 64, 3) := by decide +kernel
theorem jd_K_record_52 : decode jb_K_record 52 = .ok (.ifCond .ne 13, 3) := by decide +kernel
theorem jd_K_record_55 : decode jb_K_record 55 = .ok (.aload 7, 2) := by decide +kernel
theorem jd_K_record_57 : decode jb_K_record 57 = .ok (.iload_n 2, 1) := by decide +kernel
theorem jd_K_record_58 : decode jb_K_record 58 = .ok (.iload_n 3, 1) := by decide +kernel
theorem jd_K_record_59 : decode jb_K_record 59 = .ok (.invokevirtual 68, 3) := by decide +kernel
theorem jd_K_record_62 : decode jb_K_record 62 = .ok (.ifCond .eq 13, 3) := by decide +kernel
theorem jd_K_record_65 : decode jb_K_record 65 = .ok (.new 72, 3) := by decide +kernel
theorem jd_K_record_68 : decode jb_K_record 68 = .ok (.dup, 1) := by decide +kernel
theorem jd_K_record_69 : decode jb_K_record 69 = .ok (.ldc 74, 2) := by decide +kernel
theorem jd_K_record_71 : decode jb_K_record 71 = .ok (.invokespecial 76, 3) := by decide +kernel
theorem jd_K_record_74 : decode jb_K_record 74 = .ok (.athrow, 1) := by decide +kernel
theorem jd_K_record_75 : decode jb_K_record 75 = .ok (.aload 7, 2) := by decide +kernel
theorem jd_K_record_77 : decode jb_K_record 77 = .ok (.iload_n 2, 1) := by decide +kernel
theorem jd_K_record_78 : decode jb_K_record 78 = .ok (.iload_n 3, 1) := by decide +kernel
theorem jd_K_record_79 : decode jb_K_record 79 = .ok (.iload 4, 2) := by decide +kernel
theorem jd_K_record_81 : decode jb_K_record 81 = .ok (.iload 5, 2) := by decide +kernel
theorem jd_K_record_83 : decode jb_K_record 83 = .ok (.iload 6, 2) := by decide +kernel
theorem jd_K_record_85 : decode jb_K_record 85 = .ok (.invokevirtual 77, 3) := by decide +kernel
theorem jd_K_record_88 : decode jb_K_record 88 = .ok (.aload 7, 2) := by decide +kernel
theorem jd_K_record_90 : decode jb_K_record 90 = .ok (.getfield 81, 3) := by decide +kernel
theorem jd_K_record_93 : decode jb_K_record 93 = .ok (.ireturn, 1) := by decide +kernel
theorem jd_K_isStation_0 : decode jb_K_isStation 0 = .ok (.iload_n 0, 1) := by decide +kernel
theorem jd_K_isStation_1 : decode jb_K_isStation 1 = .ok (.ifCond .eq 8, 3) := by decide +kernel
theorem jd_K_isStation_4 : decode jb_K_isStation 4 = .ok (.iload_n 0, 1) := by decide +kernel
theorem jd_K_isStation_5 : decode jb_K_isStation 5 = .ok (.iconst 1, 1) := by decide +kernel
theorem jd_K_isStation_6 : decode jb_K_isStation 6 = .ok (.if_icmp .ne 7, 3) := by decide +kernel
theorem jd_K_isStation_9 : decode jb_K_isStation 9 = .ok (.iconst 1, 1) := by decide +kernel
theorem jd_K_isStation_10 : decode jb_K_isStation 10 = .ok (.goto 4, 3) := by decide +kernel
theorem jd_K_isStation_13 : decode jb_K_isStation 13 = .ok (.iconst 0, 1) := by decide +kernel
theorem jd_K_isStation_14 : decode jb_K_isStation 14 = .ok (.ireturn, 1) := by decide +kernel
theorem jd_K_stationOf_0 : decode jb_K_stationOf 0 = .ok (.iload_n 1, 1) := by decide +kernel
theorem jd_K_stationOf_1 : decode jb_K_stationOf 1 = .ok (.ifCond .ne 10, 3) := by decide +kernel
theorem jd_K_stationOf_4 : decode jb_K_stationOf 4 = .ok (.aload_n 0, 1) := by decide +kernel
theorem jd_K_stationOf_5 : decode jb_K_stationOf 5 = .ok (.getfield 10, 3) := by decide +kernel
theorem jd_K_stationOf_8 : decode jb_K_stationOf 8 = .ok (.goto 7, 3) := by decide +kernel
theorem jd_K_stationOf_11 : decode jb_K_stationOf 11 = .ok (.aload_n 0, 1) := by decide +kernel
theorem jd_K_stationOf_12 : decode jb_K_stationOf 12 = .ok (.getfield 16, 3) := by decide +kernel
theorem jd_K_stationOf_15 : decode jb_K_stationOf 15 = .ok (.areturn, 1) := by decide +kernel
theorem jd_K_isSifted_0 : decode jb_K_isSifted 0 = .ok (.aload_n 0, 1) := by decide +kernel
theorem jd_K_isSifted_1 : decode jb_K_isSifted 1 = .ok (.getfield 45, 3) := by decide +kernel
theorem jd_K_isSifted_4 : decode jb_K_isSifted 4 = .ok (.iconst (-1), 1) := by decide +kernel
theorem jd_K_isSifted_5 : decode jb_K_isSifted 5 = .ok (.if_icmp .eq 7, 3) := by decide +kernel
theorem jd_K_isSifted_8 : decode jb_K_isSifted 8 = .ok (.iconst 1, 1) := by decide +kernel
theorem jd_K_isSifted_9 : decode jb_K_isSifted 9 = .ok (.goto 4, 3) := by decide +kernel
theorem jd_K_isSifted_12 : decode jb_K_isSifted 12 = .ok (.iconst 0, 1) := by decide +kernel
theorem jd_K_isSifted_13 : decode jb_K_isSifted 13 = .ok (.ireturn, 1) := by decide +kernel
theorem jd_K_sift_0 : decode jb_K_sift 0 = .ok (.aload_n 0, 1) := by decide +kernel
theorem jd_K_sift_1 : decode jb_K_sift 1 = .ok (.invokevirtual 64, 3) := by decide +kernel
theorem jd_K_sift_4 : decode jb_K_sift 4 = .ok (.ifCond .eq 13, 3) := by decide +kernel
theorem jd_K_sift_7 : decode jb_K_sift 7 = .ok (.new 72, 3) := by decide +kernel
theorem jd_K_sift_10 : decode jb_K_sift 10 = .ok (.dup, 1) := by decide +kernel
theorem jd_K_sift_11 : decode jb_K_sift 11 = .ok (.ldc 84, 2) := by decide +kernel
theorem jd_K_sift_13 : decode jb_K_sift 13 = .ok (.invokespecial 76, 3) := by decide +kernel
theorem jd_K_sift_16 : decode jb_K_sift 16 = .ok (.athrow, 1) := by decide +kernel
theorem jd_K_sift_17 : decode jb_K_sift 17 = .ok (.iconst 0, 1) := by decide +kernel
theorem jd_K_sift_18 : decode jb_K_sift 18 = .ok (.istore_n 1, 1) := by decide +kernel
theorem jd_K_sift_19 : decode jb_K_sift 19 = .ok (.iconst 0, 1) := by decide +kernel
theorem jd_K_sift_20 : decode jb_K_sift 20 = .ok (.istore_n 2, 1) := by decide +kernel
theorem jd_K_sift_21 : decode jb_K_sift 21 = .ok (.iload_n 2, 1) := by decide +kernel
theorem jd_K_sift_22 : decode jb_K_sift 22 = .ok (.sipush 128, 3) := by decide +kernel
theorem jd_K_sift_25 : decode jb_K_sift 25 = .ok (.if_icmp .ge 56, 3) := by decide +kernel
theorem jd_K_sift_28 : decode jb_K_sift 28 = .ok (.aload_n 0, 1) := by decide +kernel
theorem jd_K_sift_29 : decode jb_K_sift 29 = .ok (.iload_n 2, 1) := by decide +kernel
theorem jd_K_sift_30 : decode jb_K_sift 30 = .ok (.invokevirtual 86, 3) := by decide +kernel
theorem jd_K_sift_33 : decode jb_K_sift 33 = .ok (.ifCond .eq 42, 3) := by decide +kernel
theorem jd_K_sift_36 : decode jb_K_sift 36 = .ok (.aload_n 0, 1) := by decide +kernel
theorem jd_K_sift_37 : decode jb_K_sift 37 = .ok (.getfield 10, 3) := by decide +kernel
theorem jd_K_sift_40 : decode jb_K_sift 40 = .ok (.getfield 89, 3) := by decide +kernel
theorem jd_K_sift_43 : decode jb_K_sift 43 = .ok (.iload_n 1, 1) := by decide +kernel
theorem jd_K_sift_44 : decode jb_K_sift 44 = .ok (.aload_n 0, 1) := by decide +kernel
theorem jd_K_sift_45 : decode jb_K_sift 45 = .ok (.getfield 10, 3) := by decide +kernel
theorem jd_K_sift_48 : decode jb_K_sift 48 = .ok (.getfield 92, 3) := by decide +kernel
theorem jd_K_sift_51 : decode jb_K_sift 51 = .ok (.iload_n 2, 1) := by decide +kernel
theorem jd_K_sift_52 : decode jb_K_sift 52 = .ok (.iaload, 1) := by decide +kernel
theorem jd_K_sift_53 : decode jb_K_sift 53 = .ok (.iastore, 1) := by decide +kernel
theorem jd_K_sift_54 : decode jb_K_sift 54 = .ok (.aload_n 0, 1) := by decide +kernel
theorem jd_K_sift_55 : decode jb_K_sift 55 = .ok (.getfield 16, 3) := by decide +kernel
theorem jd_K_sift_58 : decode jb_K_sift 58 = .ok (.getfield 89, 3) := by decide +kernel
theorem jd_K_sift_61 : decode jb_K_sift 61 = .ok (.iload_n 1, 1) := by decide +kernel
theorem jd_K_sift_62 : decode jb_K_sift 62 = .ok (.aload_n 0, 1) := by decide +kernel
theorem jd_K_sift_63 : decode jb_K_sift 63 = .ok (.getfield 16, 3) := by decide +kernel
theorem jd_K_sift_66 : decode jb_K_sift 66 = .ok (.getfield 92, 3) := by decide +kernel
theorem jd_K_sift_69 : decode jb_K_sift 69 = .ok (.iload_n 2, 1) := by decide +kernel
theorem jd_K_sift_70 : decode jb_K_sift 70 = .ok (.iaload, 1) := by decide +kernel
theorem jd_K_sift_71 : decode jb_K_sift 71 = .ok (.iastore, 1) := by decide +kernel
theorem jd_K_sift_72 : decode jb_K_sift 72 = .ok (.iinc 1 1, 3) := by decide +kernel
theorem jd_K_sift_75 : decode jb_K_sift 75 = .ok (.iinc 2 1, 3) := by decide +kernel
theorem jd_K_sift_78 : decode jb_K_sift 78 = .ok (.goto (-57), 3) := by decide +kernel
theorem jd_K_sift_81 : decode jb_K_sift 81 = .ok (.aload_n 0, 1) := by decide +kernel
theorem jd_K_sift_82 : decode jb_K_sift 82 = .ok (.iload_n 1, 1) := by decide +kernel
theorem jd_K_sift_83 : decode jb_K_sift 83 = .ok (.putfield 45, 3) := by decide +kernel
theorem jd_K_sift_86 : decode jb_K_sift 86 = .ok (.aload_n 0, 1) := by decide +kernel
theorem jd_K_sift_87 : decode jb_K_sift 87 = .ok (.getfield 45, 3) := by decide +kernel
theorem jd_K_sift_90 : decode jb_K_sift 90 = .ok (.ireturn, 1) := by decide +kernel
theorem jd_K_isKept_0 : decode jb_K_isKept 0 = .ok (.aload_n 0, 1) := by decide +kernel
theorem jd_K_isKept_1 : decode jb_K_isKept 1 = .ok (.getfield 10, 3) := by decide +kernel
theorem jd_K_isKept_4 : decode jb_K_isKept 4 = .ok (.getfield 230, 3) := by decide +kernel
theorem jd_K_isKept_7 : decode jb_K_isKept 7 = .ok (.iload_n 1, 1) := by decide +kernel
theorem jd_K_isKept_8 : decode jb_K_isKept 8 = .ok (.baload, 1) := by decide +kernel
theorem jd_K_isKept_9 : decode jb_K_isKept 9 = .ok (.ifCond .eq 53, 3) := by decide +kernel
theorem jd_K_isKept_12 : decode jb_K_isKept 12 = .ok (.aload_n 0, 1) := by decide +kernel
theorem jd_K_isKept_13 : decode jb_K_isKept 13 = .ok (.getfield 16, 3) := by decide +kernel
theorem jd_K_isKept_16 : decode jb_K_isKept 16 = .ok (.getfield 230, 3) := by decide +kernel
theorem jd_K_isKept_19 : decode jb_K_isKept 19 = .ok (.iload_n 1, 1) := by decide +kernel
theorem jd_K_isKept_20 : decode jb_K_isKept 20 = .ok (.baload, 1) := by decide +kernel
theorem jd_K_isKept_21 : decode jb_K_isKept 21 = .ok (.ifCond .eq 41, 3) := by decide +kernel
theorem jd_K_isKept_24 : decode jb_K_isKept 24 = .ok (.aload_n 0, 1) := by decide +kernel
theorem jd_K_isKept_25 : decode jb_K_isKept 25 = .ok (.getfield 16, 3) := by decide +kernel
theorem jd_K_isKept_28 : decode jb_K_isKept 28 = .ok (.getfield 234, 3) := by decide +kernel
theorem jd_K_isKept_31 : decode jb_K_isKept 31 = .ok (.iload_n 1, 1) := by decide +kernel
theorem jd_K_isKept_32 : decode jb_K_isKept 32 = .ok (.iaload, 1) := by decide +kernel
theorem jd_K_isKept_33 : decode jb_K_isKept 33 = .ok (.iconst 1, 1) := by decide +kernel
theorem jd_K_isKept_34 : decode jb_K_isKept 34 = .ok (.if_icmp .ne 28, 3) := by decide +kernel
theorem jd_K_isKept_37 : decode jb_K_isKept 37 = .ok (.aload_n 0, 1) := by decide +kernel
theorem jd_K_isKept_38 : decode jb_K_isKept 38 = .ok (.getfield 10, 3) := by decide +kernel
theorem jd_K_isKept_41 : decode jb_K_isKept 41 = .ok (.getfield 237, 3) := by decide +kernel
theorem jd_K_isKept_44 : decode jb_K_isKept 44 = .ok (.iload_n 1, 1) := by decide +kernel
theorem jd_K_isKept_45 : decode jb_K_isKept 45 = .ok (.iaload, 1) := by decide +kernel
theorem jd_K_isKept_46 : decode jb_K_isKept 46 = .ok (.aload_n 0, 1) := by decide +kernel
theorem jd_K_isKept_47 : decode jb_K_isKept 47 = .ok (.getfield 16, 3) := by decide +kernel
theorem jd_K_isKept_50 : decode jb_K_isKept 50 = .ok (.getfield 237, 3) := by decide +kernel
theorem jd_K_isKept_53 : decode jb_K_isKept 53 = .ok (.iload_n 1, 1) := by decide +kernel
theorem jd_K_isKept_54 : decode jb_K_isKept 54 = .ok (.iaload, 1) := by decide +kernel
theorem jd_K_isKept_55 : decode jb_K_isKept 55 = .ok (.if_icmp .ne 7, 3) := by decide +kernel
theorem jd_K_isKept_58 : decode jb_K_isKept 58 = .ok (.iconst 1, 1) := by decide +kernel
theorem jd_K_isKept_59 : decode jb_K_isKept 59 = .ok (.goto 4, 3) := by decide +kernel
theorem jd_K_isKept_62 : decode jb_K_isKept 62 = .ok (.iconst 0, 1) := by decide +kernel
theorem jd_K_isKept_63 : decode jb_K_isKept 63 = .ok (.ireturn, 1) := by decide +kernel
theorem jd_K_sample_0 : decode jb_K_sample 0 = .ok (.aload_n 0, 1) := by decide +kernel
theorem jd_K_sample_1 : decode jb_K_sample 1 = .ok (.invokevirtual 64, 3) := by decide +kernel
theorem jd_K_sample_4 : decode jb_K_sample 4 = .ok (.ifCond .eq 13, 3) := by decide +kernel
theorem jd_K_sample_7 : decode jb_K_sample 7 = .ok (.aload_n 0, 1) := by decide +kernel
theorem jd_K_sample_8 : decode jb_K_sample 8 = .ok (.getfield 31, 3) := by decide +kernel
theorem jd_K_sample_11 : decode jb_K_sample 11 = .ok (.invokevirtual 95, 3) := by decide +kernel
theorem jd_K_sample_14 : decode jb_K_sample 14 = .ok (.ifCond .eq 13, 3) := by decide +kernel
theorem jd_K_sample_17 : decode jb_K_sample 17 = .ok (.new 72, 3) := by decide +kernel
theorem jd_K_sample_20 : decode jb_K_sample 20 = .ok (.dup, 1) := by decide +kernel
theorem jd_K_sample_21 : decode jb_K_sample 21 = .ok (.ldc 98, 2) := by decide +kernel
theorem jd_K_sample_23 : decode jb_K_sample 23 = .ok (.invokespecial 76, 3) := by decide +kernel
theorem jd_K_sample_26 : decode jb_K_sample 26 = .ok (.athrow, 1) := by decide +kernel
theorem jd_K_sample_27 : decode jb_K_sample 27 = .ok (.iload_n 3, 1) := by decide +kernel
theorem jd_K_sample_28 : decode jb_K_sample 28 = .ok (.ifCond .lt 11, 3) := by decide +kernel
theorem jd_K_sample_31 : decode jb_K_sample 31 = .ok (.iload_n 3, 1) := by decide +kernel
theorem jd_K_sample_32 : decode jb_K_sample 32 = .ok (.aload_n 0, 1) := by decide +kernel
theorem jd_K_sample_33 : decode jb_K_sample 33 = .ok (.getfield 45, 3) := by decide +kernel
theorem jd_K_sample_36 : decode jb_K_sample 36 = .ok (.if_icmp .le 13, 3) := by decide +kernel
theorem jd_K_sample_39 : decode jb_K_sample 39 = .ok (.new 53, 3) := by decide +kernel
theorem jd_K_sample_42 : decode jb_K_sample 42 = .ok (.dup, 1) := by decide +kernel
theorem jd_K_sample_43 : decode jb_K_sample 43 = .ok (.ldc 100, 2) := by decide +kernel
theorem jd_K_sample_45 : decode jb_K_sample 45 = .ok (.invokespecial 57, 3) := by decide +kernel
theorem jd_K_sample_48 : decode jb_K_sample 48 = .ok (.athrow, 1) := by decide +kernel
theorem jd_K_sample_49 : decode jb_K_sample 49 = .ok (.aload_n 0, 1) := by decide +kernel
theorem jd_K_sample_50 : decode jb_K_sample 50 = .ok (.getfield 22, 3) := by decide +kernel
theorem jd_K_sample_53 : decode jb_K_sample 53 = .ok (.lload_n 1, 1) := by decide +kernel
theorem jd_K_sample_54 : decode jb_K_sample 54 = .ok (.aload_n 0, 1) := by decide +kernel
theorem jd_K_sample_55 : decode jb_K_sample 55 = .ok (.getfield 45, 3) := by decide +kernel
theorem jd_K_sample_58 : decode jb_K_sample 58 = .ok (.aload_n 0, 1) := by decide +kernel
theorem jd_K_sample_59 : decode jb_K_sample 59 = .ok (.getfield 35, 3) := by decide +kernel
theorem jd_K_sample_62 : decode jb_K_sample 62 = .ok (.invokevirtual 102, 3) := by decide +kernel
theorem jd_K_sample_65 : decode jb_K_sample 65 = .ok (.aload_n 0, 1) := by decide +kernel
theorem jd_K_sample_66 : decode jb_K_sample 66 = .ok (.getfield 39, 3) := by decide +kernel
theorem jd_K_sample_69 : decode jb_K_sample 69 = .ok (.iconst 0, 1) := by decide +kernel
theorem jd_K_sample_70 : decode jb_K_sample 70 = .ok (.invokestatic 106, 3) := by decide +kernel
theorem jd_K_sample_73 : decode jb_K_sample 73 = .ok (.iconst 0, 1) := by decide +kernel
theorem jd_K_sample_74 : decode jb_K_sample 74 = .ok (.istore 4, 2) := by decide +kernel
theorem jd_K_sample_76 : decode jb_K_sample 76 = .ok (.iconst 0, 1) := by decide +kernel
theorem jd_K_sample_77 : decode jb_K_sample 77 = .ok (.istore 5, 2) := by decide +kernel
theorem jd_K_sample_79 : decode jb_K_sample 79 = .ok (.iload 5, 2) := by decide +kernel
theorem jd_K_sample_81 : decode jb_K_sample 81 = .ok (.iload_n 3, 1) := by decide +kernel
theorem jd_K_sample_82 : decode jb_K_sample 82 = .ok (.if_icmp .ge 52, 3) := by decide +kernel
theorem jd_K_sample_85 : decode jb_K_sample 85 = .ok (.aload_n 0, 1) := by decide +kernel
theorem jd_K_sample_86 : decode jb_K_sample 86 = .ok (.getfield 35, 3) := by decide +kernel
theorem jd_K_sample_89 : decode jb_K_sample 89 = .ok (.iload 5, 2) := by decide +kernel
theorem jd_K_sample_91 : decode jb_K_sample 91 = .ok (.iaload, 1) := by decide +kernel
theorem jd_K_sample_92 : decode jb_K_sample 92 = .ok (.istore 6, 2) := by decide +kernel
theorem jd_K_sample_94 : decode jb_K_sample 94 = .ok (.aload_n 0, 1) := by decide +kernel
theorem jd_K_sample_95 : decode jb_K_sample 95 = .ok (.getfield 39, 3) := by decide +kernel
theorem jd_K_sample_98 : decode jb_K_sample 98 = .ok (.iload 6, 2) := by decide +kernel
theorem jd_K_sample_100 : decode jb_K_sample 100 = .ok (.iconst 1, 1) := by decide +kernel
theorem jd_K_sample_101 : decode jb_K_sample 101 = .ok (.iastore, 1) := by decide +kernel
theorem jd_K_sample_102 : decode jb_K_sample 102 = .ok (.iload 4, 2) := by decide +kernel
theorem jd_K_sample_104 : decode jb_K_sample 104 = .ok (.aload_n 0, 1) := by decide +kernel
theorem jd_K_sample_105 : decode jb_K_sample 105 = .ok (.getfield 10, 3) := by decide +kernel
theorem jd_K_sample_108 : decode jb_K_sample 108 = .ok (.getfield 89, 3) := by decide +kernel
theorem jd_K_sample_111 : decode jb_K_sample 111 = .ok (.iload 6, 2) := by decide +kernel
theorem jd_K_sample_113 : decode jb_K_sample 113 = .ok (.iaload, 1) := by decide +kernel
theorem jd_K_sample_114 : decode jb_K_sample 114 = .ok (.aload_n 0, 1) := by decide +kernel
theorem jd_K_sample_115 : decode jb_K_sample 115 = .ok (.getfield 16, 3) := by decide +kernel
theorem jd_K_sample_118 : decode jb_K_sample 118 = .ok (.getfield 89, 3) := by decide +kernel
theorem jd_K_sample_121 : decode jb_K_sample 121 = .ok (.iload 6, 2) := by decide +kernel
theorem jd_K_sample_123 : decode jb_K_sample 123 = .ok (.iaload, 1) := by decide +kernel
theorem jd_K_sample_124 : decode jb_K_sample 124 = .ok (.ixor, 1) := by decide +kernel
theorem jd_K_sample_125 : decode jb_K_sample 125 = .ok (.iadd, 1) := by decide +kernel
theorem jd_K_sample_126 : decode jb_K_sample 126 = .ok (.istore 4, 2) := by decide +kernel
theorem jd_K_sample_128 : decode jb_K_sample 128 = .ok (.iinc 5 1, 3) := by decide +kernel
theorem jd_K_sample_131 : decode jb_K_sample 131 = .ok (.goto (-52), 3) := by decide +kernel
theorem jd_K_sample_134 : decode jb_K_sample 134 = .ok (.aload_n 0, 1) := by decide +kernel
theorem jd_K_sample_135 : decode jb_K_sample 135 = .ok (.getfield 10, 3) := by decide +kernel
theorem jd_K_sample_138 : decode jb_K_sample 138 = .ok (.aload_n 0, 1) := by decide +kernel
theorem jd_K_sample_139 : decode jb_K_sample 139 = .ok (.getfield 39, 3) := by decide +kernel
theorem jd_K_sample_142 : decode jb_K_sample 142 = .ok (.aload_n 0, 1) := by decide +kernel
theorem jd_K_sample_143 : decode jb_K_sample 143 = .ok (.getfield 45, 3) := by decide +kernel
theorem jd_K_sample_146 : decode jb_K_sample 146 = .ok (.invokevirtual 112, 3) := by decide +kernel
theorem jd_K_sample_149 : decode jb_K_sample 149 = .ok (.aload_n 0, 1) := by decide +kernel
theorem jd_K_sample_150 : decode jb_K_sample 150 = .ok (.getfield 16, 3) := by decide +kernel
theorem jd_K_sample_153 : decode jb_K_sample 153 = .ok (.aload_n 0, 1) := by decide +kernel
theorem jd_K_sample_154 : decode jb_K_sample 154 = .ok (.getfield 39, 3) := by decide +kernel
theorem jd_K_sample_157 : decode jb_K_sample 157 = .ok (.aload_n 0, 1) := by decide +kernel
theorem jd_K_sample_158 : decode jb_K_sample 158 = .ok (.getfield 45, 3) := by decide +kernel
theorem jd_K_sample_161 : decode jb_K_sample 161 = .ok (.invokevirtual 112, 3) := by decide +kernel
theorem jd_K_sample_164 : decode jb_K_sample 164 = .ok (.aload_n 0, 1) := by decide +kernel
theorem jd_K_sample_165 : decode jb_K_sample 165 = .ok (.dup, 1) := by decide +kernel
theorem jd_K_sample_166 : decode jb_K_sample 166 = .ok (.getfield 45, 3) := by decide +kernel
theorem jd_K_sample_169 : decode jb_K_sample 169 = .ok (.iload_n 3, 1) := by decide +kernel
theorem jd_K_sample_170 : decode jb_K_sample 170 = .ok (.isub, 1) := by decide +kernel
theorem jd_K_sample_171 : decode jb_K_sample 171 = .ok (.putfield 45, 3) := by decide +kernel
theorem jd_K_sample_174 : decode jb_K_sample 174 = .ok (.aload_n 0, 1) := by decide +kernel
theorem jd_K_sample_175 : decode jb_K_sample 175 = .ok (.dup, 1) := by decide +kernel
theorem jd_K_sample_176 : decode jb_K_sample 176 = .ok (.getfield 115, 3) := by decide +kernel
theorem jd_K_sample_179 : decode jb_K_sample 179 = .ok (.iload_n 3, 1) := by decide +kernel
theorem jd_K_sample_180 : decode jb_K_sample 180 = .ok (.iadd, 1) := by decide +kernel
theorem jd_K_sample_181 : decode jb_K_sample 181 = .ok (.putfield 115, 3) := by decide +kernel
theorem jd_K_sample_184 : decode jb_K_sample 184 = .ok (.aload_n 0, 1) := by decide +kernel
theorem jd_K_sample_185 : decode jb_K_sample 185 = .ok (.dup, 1) := by decide +kernel
theorem jd_K_sample_186 : decode jb_K_sample 186 = .ok (.getfield 118, 3) := by decide +kernel
theorem jd_K_sample_189 : decode jb_K_sample 189 = .ok (.iload 4, 2) := by decide +kernel
theorem jd_K_sample_191 : decode jb_K_sample 191 = .ok (.iadd, 1) := by decide +kernel
theorem jd_K_sample_192 : decode jb_K_sample 192 = .ok (.putfield 118, 3) := by decide +kernel
theorem jd_K_sample_195 : decode jb_K_sample 195 = .ok (.iload 4, 2) := by decide +kernel
theorem jd_K_sample_197 : decode jb_K_sample 197 = .ok (.ireturn, 1) := by decide +kernel
theorem jd_K_start_0 : decode jb_K_start 0 = .ok (.aload_n 0, 1) := by decide +kernel
theorem jd_K_start_1 : decode jb_K_start 1 = .ok (.invokevirtual 64, 3) := by decide +kernel
theorem jd_K_start_4 : decode jb_K_start 4 = .ok (.ifCond .eq 13, 3) := by decide +kernel
theorem jd_K_start_7 : decode jb_K_start 7 = .ok (.aload_n 0, 1) := by decide +kernel
theorem jd_K_start_8 : decode jb_K_start 8 = .ok (.getfield 31, 3) := by decide +kernel
theorem jd_K_start_11 : decode jb_K_start 11 = .ok (.invokevirtual 95, 3) := by decide +kernel
theorem jd_K_start_14 : decode jb_K_start 14 = .ok (.ifCond .eq 13, 3) := by decide +kernel
theorem jd_K_start_17 : decode jb_K_start 17 = .ok (.new 72, 3) := by decide +kernel
theorem jd_K_start_20 : decode jb_K_start 20 = .ok (.dup, 1) := by decide +kernel
theorem jd_K_start_21 : decode jb_K_start 21 = .ok (.ldc 121, 2) := by decide +kernel
theorem jd_K_start_23 : decode jb_K_start 23 = .ok (.invokespecial 76, 3) := by decide +kernel
theorem jd_K_start_26 : decode jb_K_start 26 = .ok (.athrow, 1) := by decide +kernel
theorem jd_K_start_27 : decode jb_K_start 27 = .ok (.iload_n 1, 1) := by decide +kernel
theorem jd_K_start_28 : decode jb_K_start 28 = .ok (.iconst 4, 1) := by decide +kernel
theorem jd_K_start_29 : decode jb_K_start 29 = .ok (.if_icmp .lt 11, 3) := by decide +kernel
theorem jd_K_start_32 : decode jb_K_start 32 = .ok (.iload_n 1, 1) := by decide +kernel
theorem jd_K_start_33 : decode jb_K_start 33 = .ok (.aload_n 0, 1) := by decide +kernel
theorem jd_K_start_34 : decode jb_K_start 34 = .ok (.getfield 45, 3) := by decide +kernel
theorem jd_K_start_37 : decode jb_K_start 37 = .ok (.if_icmp .le 13, 3) := by decide +kernel
theorem jd_K_start_40 : decode jb_K_start 40 = .ok (.new 53, 3) := by decide +kernel
theorem jd_K_start_43 : decode jb_K_start 43 = .ok (.dup, 1) := by decide +kernel
theorem jd_K_start_44 : decode jb_K_start 44 = .ok (.ldc 123, 2) := by decide +kernel
theorem jd_K_start_46 : decode jb_K_start 46 = .ok (.invokespecial 57, 3) := by decide +kernel
theorem jd_K_start_49 : decode jb_K_start 49 = .ok (.athrow, 1) := by decide +kernel
theorem jd_K_start_50 : decode jb_K_start 50 = .ok (.iconst 0, 1) := by decide +kernel
theorem jd_K_start_51 : decode jb_K_start 51 = .ok (.istore 4, 2) := by decide +kernel
theorem jd_K_start_53 : decode jb_K_start 53 = .ok (.iload 4, 2) := by decide +kernel
theorem jd_K_start_55 : decode jb_K_start 55 = .ok (.iconst 4, 1) := by decide +kernel
theorem jd_K_start_56 : decode jb_K_start 56 = .ok (.if_icmp .ge 35, 3) := by decide +kernel
theorem jd_K_start_59 : decode jb_K_start 59 = .ok (.aload_n 0, 1) := by decide +kernel
theorem jd_K_start_60 : decode jb_K_start 60 = .ok (.getfield 22, 3) := by decide +kernel
theorem jd_K_start_63 : decode jb_K_start 63 = .ok (.lload_n 2, 1) := by decide +kernel
theorem jd_K_start_64 : decode jb_K_start 64 = .ok (.iload 4, 2) := by decide +kernel
theorem jd_K_start_66 : decode jb_K_start 66 = .ok (.i2l, 1) := by decide +kernel
theorem jd_K_start_67 : decode jb_K_start 67 = .ok (.ladd, 1) := by decide +kernel
theorem jd_K_start_68 : decode jb_K_start 68 = .ok (.aload_n 0, 1) := by decide +kernel
theorem jd_K_start_69 : decode jb_K_start 69 = .ok (.getfield 45, 3) := by decide +kernel
theorem jd_K_start_72 : decode jb_K_start 72 = .ok (.aload_n 0, 1) := by decide +kernel
theorem jd_K_start_73 : decode jb_K_start 73 = .ok (.getfield 31, 3) := by decide +kernel
theorem jd_K_start_76 : decode jb_K_start 76 = .ok (.getfield 125, 3) := by decide +kernel
theorem jd_K_start_79 : decode jb_K_start 79 = .ok (.iload 4, 2) := by decide +kernel
theorem jd_K_start_81 : decode jb_K_start 81 = .ok (.aaload, 1) := by decide +kernel
theorem jd_K_start_82 : decode jb_K_start 82 = .ok (.invokevirtual 102, 3) := by decide +kernel
theorem jd_K_start_85 : decode jb_K_start 85 = .ok (.iinc 4 1, 3) := by decide +kernel
theorem jd_K_start_88 : decode jb_K_start 88 = .ok (.goto (-35), 3) := by decide +kernel
theorem jd_K_start_91 : decode jb_K_start 91 = .ok (.aload_n 0, 1) := by decide +kernel
theorem jd_K_start_92 : decode jb_K_start 92 = .ok (.getfield 31, 3) := by decide +kernel
theorem jd_K_start_95 : decode jb_K_start 95 = .ok (.iload_n 1, 1) := by decide +kernel
theorem jd_K_start_96 : decode jb_K_start 96 = .ok (.aload_n 0, 1) := by decide +kernel
theorem jd_K_start_97 : decode jb_K_start 97 = .ok (.getfield 45, 3) := by decide +kernel
theorem jd_K_start_100 : decode jb_K_start 100 = .ok (.invokevirtual 129, 3) := by decide +kernel
theorem jd_K_start_103 : decode jb_K_start 103 = .ok (.aload_n 0, 1) := by decide +kernel
theorem jd_K_start_104 : decode jb_K_start 104 = .ok (.getfield 31, 3) := by decide +kernel
theorem jd_K_start_107 : decode jb_K_start 107 = .ok (.getfield 133, 3) := by decide +kernel
theorem jd_K_start_110 : decode jb_K_start 110 = .ok (.getfield 137, 3) := by decide +kernel
theorem jd_K_start_113 : decode jb_K_start 113 = .ok (.ireturn, 1) := by decide +kernel
theorem jd_K_letter_0 : decode jb_K_letter 0 = .ok (.iload_n 2, 1) := by decide +kernel
theorem jd_K_letter_1 : decode jb_K_letter 1 = .ok (.ifCond .lt 8, 3) := by decide +kernel
theorem jd_K_letter_4 : decode jb_K_letter 4 = .ok (.iload_n 2, 1) := by decide +kernel
theorem jd_K_letter_5 : decode jb_K_letter 5 = .ok (.iconst 2, 1) := by decide +kernel
theorem jd_K_letter_6 : decode jb_K_letter 6 = .ok (.if_icmp .le 13, 3) := by decide +kernel
theorem jd_K_letter_9 : decode jb_K_letter 9 = .ok (.new 53, 3) := by decide +kernel
theorem jd_K_letter_12 : decode jb_K_letter 12 = .ok (.dup, 1) := by decide +kernel
theorem jd_K_letter_13 : decode jb_K_letter 13 = .ok (.ldc 142, 2) := by decide +kernel
theorem jd_K_letter_15 : decode jb_K_letter 15 = .ok (.invokespecial 57, 3) := by decide +kernel
theorem jd_K_letter_18 : decode jb_K_letter 18 = .ok (.athrow, 1) := by decide +kernel
theorem jd_K_letter_19 : decode jb_K_letter 19 = .ok (.aload_n 0, 1) := by decide +kernel
theorem jd_K_letter_20 : decode jb_K_letter 20 = .ok (.getfield 31, 3) := by decide +kernel
theorem jd_K_letter_23 : decode jb_K_letter 23 = .ok (.getfield 133, 3) := by decide +kernel
theorem jd_K_letter_26 : decode jb_K_letter 26 = .ok (.astore_n 3, 1) := by decide +kernel
theorem jd_K_letter_27 : decode jb_K_letter 27 = .ok (.aload_n 3, 1) := by decide +kernel
theorem jd_K_letter_28 : decode jb_K_letter 28 = .ok (.iload_n 1, 1) := by decide +kernel
theorem jd_K_letter_29 : decode jb_K_letter 29 = .ok (.invokevirtual 144, 3) := by decide +kernel
theorem jd_K_letter_32 : decode jb_K_letter 32 = .ok (.ifCond .ne 13, 3) := by decide +kernel
theorem jd_K_letter_35 : decode jb_K_letter 35 = .ok (.new 147, 3) := by decide +kernel
theorem jd_K_letter_38 : decode jb_K_letter 38 = .ok (.dup, 1) := by decide +kernel
theorem jd_K_letter_39 : decode jb_K_letter 39 = .ok (.ldc 149, 2) := by decide +kernel
theorem jd_K_letter_41 : decode jb_K_letter 41 = .ok (.invokespecial 151, 3) := by decide +kernel
theorem jd_K_letter_44 : decode jb_K_letter 44 = .ok (.athrow, 1) := by decide +kernel
theorem jd_K_letter_45 : decode jb_K_letter 45 = .ok (.iload_n 2, 1) := by decide +kernel
theorem jd_K_letter_46 : decode jb_K_letter 46 = .ok (.iconst 2, 1) := by decide +kernel
theorem jd_K_letter_47 : decode jb_K_letter 47 = .ok (.if_icmp .ne 22, 3) := by decide +kernel
theorem jd_K_letter_50 : decode jb_K_letter 50 = .ok (.aload_n 3, 1) := by decide +kernel
theorem jd_K_letter_51 : decode jb_K_letter 51 = .ok (.getfield 137, 3) := by decide +kernel
theorem jd_K_letter_54 : decode jb_K_letter 54 = .ok (.bipush 16, 2) := by decide +kernel
theorem jd_K_letter_56 : decode jb_K_letter 56 = .ok (.if_icmp .ne 13, 3) := by decide +kernel
theorem jd_K_letter_59 : decode jb_K_letter 59 = .ok (.new 72, 3) := by decide +kernel
theorem jd_K_letter_62 : decode jb_K_letter 62 = .ok (.dup, 1) := by decide +kernel
theorem jd_K_letter_63 : decode jb_K_letter 63 = .ok (.ldc 152, 2) := by decide +kernel
theorem jd_K_letter_65 : decode jb_K_letter 65 = .ok (.invokespecial 76, 3) := by decide +kernel
theorem jd_K_letter_68 : decode jb_K_letter 68 = .ok (.athrow, 1) := by decide +kernel
theorem jd_K_letter_69 : decode jb_K_letter 69 = .ok (.iload_n 2, 1) := by decide +kernel
theorem jd_K_letter_70 : decode jb_K_letter 70 = .ok (.ifCond .ne 14, 3) := by decide +kernel
theorem jd_K_letter_73 : decode jb_K_letter 73 = .ok (.aload_n 0, 1) := by decide +kernel
theorem jd_K_letter_74 : decode jb_K_letter 74 = .ok (.getfield 31, 3) := by decide +kernel
theorem jd_K_letter_77 : decode jb_K_letter 77 = .ok (.iload_n 1, 1) := by decide +kernel
theorem jd_K_letter_78 : decode jb_K_letter 78 = .ok (.invokevirtual 154, 3) := by decide +kernel
theorem jd_K_letter_81 : decode jb_K_letter 81 = .ok (.goto 38, 3) := by decide +kernel
theorem jd_K_letter_84 : decode jb_K_letter 84 = .ok (.iload_n 2, 1) := by decide +kernel
theorem jd_K_letter_85 : decode jb_K_letter 85 = .ok (.iconst 1, 1) := by decide +kernel
theorem jd_K_letter_86 : decode jb_K_letter 86 = .ok (.if_icmp .ne 11, 3) := by decide +kernel
theorem jd_K_letter_89 : decode jb_K_letter 89 = .ok (.aload_n 3, 1) := by decide +kernel
theorem jd_K_letter_90 : decode jb_K_letter 90 = .ok (.iload_n 1, 1) := by decide +kernel
theorem jd_K_letter_91 : decode jb_K_letter 91 = .ok (.invokevirtual 158, 3) := by decide +kernel
theorem jd_K_letter_94 : decode jb_K_letter 94 = .ok (.goto 25, 3) := by decide +kernel
theorem jd_K_letter_97 : decode jb_K_letter 97 = .ok (.aload_n 3, 1) := by decide +kernel
theorem jd_K_letter_98 : decode jb_K_letter 98 = .ok (.aload_n 3, 1) := by decide +kernel
theorem jd_K_letter_99 : decode jb_K_letter 99 = .ok (.getfield 161, 3) := by decide +kernel
theorem jd_K_letter_102 : decode jb_K_letter 102 = .ok (.iload_n 1, 1) := by decide +kernel
theorem jd_K_letter_103 : decode jb_K_letter 103 = .ok (.iaload, 1) := by decide +kernel
theorem jd_K_letter_104 : decode jb_K_letter 104 = .ok (.aload_n 3, 1) := by decide +kernel
theorem jd_K_letter_105 : decode jb_K_letter 105 = .ok (.getfield 164, 3) := by decide +kernel
theorem jd_K_letter_108 : decode jb_K_letter 108 = .ok (.iload_n 1, 1) := by decide +kernel
theorem jd_K_letter_109 : decode jb_K_letter 109 = .ok (.iaload, 1) := by decide +kernel
theorem jd_K_letter_110 : decode jb_K_letter 110 = .ok (.aload_n 3, 1) := by decide +kernel
theorem jd_K_letter_111 : decode jb_K_letter 111 = .ok (.getfield 167, 3) := by decide +kernel
theorem jd_K_letter_114 : decode jb_K_letter 114 = .ok (.iload_n 1, 1) := by decide +kernel
theorem jd_K_letter_115 : decode jb_K_letter 115 = .ok (.iaload, 1) := by decide +kernel
theorem jd_K_letter_116 : decode jb_K_letter 116 = .ok (.invokevirtual 170, 3) := by decide +kernel
theorem jd_K_letter_119 : decode jb_K_letter 119 = .ok (.aload_n 3, 1) := by decide +kernel
theorem jd_K_letter_120 : decode jb_K_letter 120 = .ok (.getfield 137, 3) := by decide +kernel
theorem jd_K_letter_123 : decode jb_K_letter 123 = .ok (.ireturn, 1) := by decide +kernel
theorem jd_K_tick_0 : decode jb_K_tick 0 = .ok (.aload_n 0, 1) := by decide +kernel
theorem jd_K_tick_1 : decode jb_K_tick 1 = .ok (.getfield 31, 3) := by decide +kernel
theorem jd_K_tick_4 : decode jb_K_tick 4 = .ok (.invokevirtual 95, 3) := by decide +kernel
theorem jd_K_tick_7 : decode jb_K_tick 7 = .ok (.ifCond .ne 13, 3) := by decide +kernel
theorem jd_K_tick_10 : decode jb_K_tick 10 = .ok (.new 72, 3) := by decide +kernel
theorem jd_K_tick_13 : decode jb_K_tick 13 = .ok (.dup, 1) := by decide +kernel
theorem jd_K_tick_14 : decode jb_K_tick 14 = .ok (.ldc 178, 2) := by decide +kernel
theorem jd_K_tick_16 : decode jb_K_tick 16 = .ok (.invokespecial 76, 3) := by decide +kernel
theorem jd_K_tick_19 : decode jb_K_tick 19 = .ok (.athrow, 1) := by decide +kernel
theorem jd_K_tick_20 : decode jb_K_tick 20 = .ok (.aload_n 0, 1) := by decide +kernel
theorem jd_K_tick_21 : decode jb_K_tick 21 = .ok (.getfield 31, 3) := by decide +kernel
theorem jd_K_tick_24 : decode jb_K_tick 24 = .ok (.invokevirtual 180, 3) := by decide +kernel
theorem jd_K_tick_27 : decode jb_K_tick 27 = .ok (.aload_n 0, 1) := by decide +kernel
theorem jd_K_tick_28 : decode jb_K_tick 28 = .ok (.getfield 31, 3) := by decide +kernel
theorem jd_K_tick_31 : decode jb_K_tick 31 = .ok (.getfield 133, 3) := by decide +kernel
theorem jd_K_tick_34 : decode jb_K_tick 34 = .ok (.getfield 137, 3) := by decide +kernel
theorem jd_K_tick_37 : decode jb_K_tick 37 = .ok (.ireturn, 1) := by decide +kernel
theorem jd_K_bit_0 : decode jb_K_bit 0 = .ok (.aload_n 0, 1) := by decide +kernel
theorem jd_K_bit_1 : decode jb_K_bit 1 = .ok (.invokevirtual 64, 3) := by decide +kernel
theorem jd_K_bit_4 : decode jb_K_bit 4 = .ok (.ifCond .ne 13, 3) := by decide +kernel
theorem jd_K_bit_7 : decode jb_K_bit 7 = .ok (.new 72, 3) := by decide +kernel
theorem jd_K_bit_10 : decode jb_K_bit 10 = .ok (.dup, 1) := by decide +kernel
theorem jd_K_bit_11 : decode jb_K_bit 11 = .ok (.ldc 195, 2) := by decide +kernel
theorem jd_K_bit_13 : decode jb_K_bit 13 = .ok (.invokespecial 76, 3) := by decide +kernel
theorem jd_K_bit_16 : decode jb_K_bit 16 = .ok (.athrow, 1) := by decide +kernel
theorem jd_K_bit_17 : decode jb_K_bit 17 = .ok (.iload_n 1, 1) := by decide +kernel
theorem jd_K_bit_18 : decode jb_K_bit 18 = .ok (.invokestatic 49, 3) := by decide +kernel
theorem jd_K_bit_21 : decode jb_K_bit 21 = .ok (.ifCond .eq 15, 3) := by decide +kernel
theorem jd_K_bit_24 : decode jb_K_bit 24 = .ok (.iload_n 2, 1) := by decide +kernel
theorem jd_K_bit_25 : decode jb_K_bit 25 = .ok (.ifCond .lt 11, 3) := by decide +kernel
theorem jd_K_bit_28 : decode jb_K_bit 28 = .ok (.iload_n 2, 1) := by decide +kernel
theorem jd_K_bit_29 : decode jb_K_bit 29 = .ok (.aload_n 0, 1) := by decide +kernel
theorem jd_K_bit_30 : decode jb_K_bit 30 = .ok (.getfield 45, 3) := by decide +kernel
theorem jd_K_bit_33 : decode jb_K_bit 33 = .ok (.if_icmp .lt 13, 3) := by decide +kernel
theorem jd_K_bit_36 : decode jb_K_bit 36 = .ok (.new 147, 3) := by decide +kernel
theorem jd_K_bit_39 : decode jb_K_bit 39 = .ok (.dup, 1) := by decide +kernel
theorem jd_K_bit_40 : decode jb_K_bit 40 = .ok (.ldc 197, 2) := by decide +kernel
theorem jd_K_bit_42 : decode jb_K_bit 42 = .ok (.invokespecial 151, 3) := by decide +kernel
theorem jd_K_bit_45 : decode jb_K_bit 45 = .ok (.athrow, 1) := by decide +kernel
theorem jd_K_bit_46 : decode jb_K_bit 46 = .ok (.aload_n 0, 1) := by decide +kernel
theorem jd_K_bit_47 : decode jb_K_bit 47 = .ok (.iload_n 1, 1) := by decide +kernel
theorem jd_K_bit_48 : decode jb_K_bit 48 = .ok (.invokevirtual 60, 3) := by decide +kernel
theorem jd_K_bit_51 : decode jb_K_bit 51 = .ok (.getfield 89, 3) := by decide +kernel
theorem jd_K_bit_54 : decode jb_K_bit 54 = .ok (.iload_n 2, 1) := by decide +kernel
theorem jd_K_bit_55 : decode jb_K_bit 55 = .ok (.iaload, 1) := by decide +kernel
theorem jd_K_bit_56 : decode jb_K_bit 56 = .ok (.ireturn, 1) := by decide +kernel
theorem jd_K_item_0 : decode jb_K_item 0 = .ok (.aload_n 0, 1) := by decide +kernel
theorem jd_K_item_1 : decode jb_K_item 1 = .ok (.getfield 31, 3) := by decide +kernel
theorem jd_K_item_4 : decode jb_K_item 4 = .ok (.invokevirtual 95, 3) := by decide +kernel
theorem jd_K_item_7 : decode jb_K_item 7 = .ok (.ifCond .ne 13, 3) := by decide +kernel
theorem jd_K_item_10 : decode jb_K_item 10 = .ok (.new 72, 3) := by decide +kernel
theorem jd_K_item_13 : decode jb_K_item 13 = .ok (.dup, 1) := by decide +kernel
theorem jd_K_item_14 : decode jb_K_item 14 = .ok (.ldc 178, 2) := by decide +kernel
theorem jd_K_item_16 : decode jb_K_item 16 = .ok (.invokespecial 76, 3) := by decide +kernel
theorem jd_K_item_19 : decode jb_K_item 19 = .ok (.athrow, 1) := by decide +kernel
theorem jd_K_item_20 : decode jb_K_item 20 = .ok (.iload_n 1, 1) := by decide +kernel
theorem jd_K_item_21 : decode jb_K_item 21 = .ok (.ifCond .lt 20, 3) := by decide +kernel
theorem jd_K_item_24 : decode jb_K_item 24 = .ok (.iload_n 1, 1) := by decide +kernel
theorem jd_K_item_25 : decode jb_K_item 25 = .ok (.iconst 4, 1) := by decide +kernel
theorem jd_K_item_26 : decode jb_K_item 26 = .ok (.if_icmp .ge 15, 3) := by decide +kernel
theorem jd_K_item_29 : decode jb_K_item 29 = .ok (.iload_n 2, 1) := by decide +kernel
theorem jd_K_item_30 : decode jb_K_item 30 = .ok (.ifCond .lt 11, 3) := by decide +kernel
theorem jd_K_item_33 : decode jb_K_item 33 = .ok (.iload_n 2, 1) := by decide +kernel
theorem jd_K_item_34 : decode jb_K_item 34 = .ok (.aload_n 0, 1) := by decide +kernel
theorem jd_K_item_35 : decode jb_K_item 35 = .ok (.getfield 45, 3) := by decide +kernel
theorem jd_K_item_38 : decode jb_K_item 38 = .ok (.if_icmp .lt 13, 3) := by decide +kernel
theorem jd_K_item_41 : decode jb_K_item 41 = .ok (.new 147, 3) := by decide +kernel
theorem jd_K_item_44 : decode jb_K_item 44 = .ok (.dup, 1) := by decide +kernel
theorem jd_K_item_45 : decode jb_K_item 45 = .ok (.ldc 199, 2) := by decide +kernel
theorem jd_K_item_47 : decode jb_K_item 47 = .ok (.invokespecial 151, 3) := by decide +kernel
theorem jd_K_item_50 : decode jb_K_item 50 = .ok (.athrow, 1) := by decide +kernel
theorem jd_K_item_51 : decode jb_K_item 51 = .ok (.aload_n 0, 1) := by decide +kernel
theorem jd_K_item_52 : decode jb_K_item 52 = .ok (.getfield 31, 3) := by decide +kernel
theorem jd_K_item_55 : decode jb_K_item 55 = .ok (.getfield 125, 3) := by decide +kernel
theorem jd_K_item_58 : decode jb_K_item 58 = .ok (.iload_n 1, 1) := by decide +kernel
theorem jd_K_item_59 : decode jb_K_item 59 = .ok (.aaload, 1) := by decide +kernel
theorem jd_K_item_60 : decode jb_K_item 60 = .ok (.iload_n 2, 1) := by decide +kernel
theorem jd_K_item_61 : decode jb_K_item 61 = .ok (.iaload, 1) := by decide +kernel
theorem jd_K_item_62 : decode jb_K_item 62 = .ok (.ireturn, 1) := by decide +kernel
theorem jd_K_tag_0 : decode jb_K_tag 0 = .ok (.aload_n 0, 1) := by decide +kernel
theorem jd_K_tag_1 : decode jb_K_tag 1 = .ok (.invokevirtual 64, 3) := by decide +kernel
theorem jd_K_tag_4 : decode jb_K_tag 4 = .ok (.ifCond .ne 13, 3) := by decide +kernel
theorem jd_K_tag_7 : decode jb_K_tag 7 = .ok (.new 72, 3) := by decide +kernel
theorem jd_K_tag_10 : decode jb_K_tag 10 = .ok (.dup, 1) := by decide +kernel
theorem jd_K_tag_11 : decode jb_K_tag 11 = .ok (.ldc 195, 2) := by decide +kernel
theorem jd_K_tag_13 : decode jb_K_tag 13 = .ok (.invokespecial 76, 3) := by decide +kernel
theorem jd_K_tag_16 : decode jb_K_tag 16 = .ok (.athrow, 1) := by decide +kernel
theorem jd_K_tag_17 : decode jb_K_tag 17 = .ok (.iload_n 1, 1) := by decide +kernel
theorem jd_K_tag_18 : decode jb_K_tag 18 = .ok (.invokestatic 49, 3) := by decide +kernel
theorem jd_K_tag_21 : decode jb_K_tag 21 = .ok (.ifCond .eq 10, 3) := by decide +kernel
theorem jd_K_tag_24 : decode jb_K_tag 24 = .ok (.iload_n 2, 1) := by decide +kernel
theorem jd_K_tag_25 : decode jb_K_tag 25 = .ok (.invokestatic 201, 3) := by decide +kernel
theorem jd_K_tag_28 : decode jb_K_tag 28 = .ok (.ifCond .ne 13, 3) := by decide +kernel
theorem jd_K_tag_31 : decode jb_K_tag 31 = .ok (.new 53, 3) := by decide +kernel
theorem jd_K_tag_34 : decode jb_K_tag 34 = .ok (.dup, 1) := by decide +kernel
theorem jd_K_tag_35 : decode jb_K_tag 35 = .ok (.ldc 204, 2) := by decide +kernel
theorem jd_K_tag_37 : decode jb_K_tag 37 = .ok (.invokespecial 57, 3) := by decide +kernel
theorem jd_K_tag_40 : decode jb_K_tag 40 = .ok (.athrow, 1) := by decide +kernel
theorem jd_K_tag_41 : decode jb_K_tag 41 = .ok (.aload_n 0, 1) := by decide +kernel
theorem jd_K_tag_42 : decode jb_K_tag 42 = .ok (.iload_n 1, 1) := by decide +kernel
theorem jd_K_tag_43 : decode jb_K_tag 43 = .ok (.invokevirtual 60, 3) := by decide +kernel
theorem jd_K_tag_46 : decode jb_K_tag 46 = .ok (.iload_n 2, 1) := by decide +kernel
theorem jd_K_tag_47 : decode jb_K_tag 47 = .ok (.aload_n 0, 1) := by decide +kernel
theorem jd_K_tag_48 : decode jb_K_tag 48 = .ok (.getfield 45, 3) := by decide +kernel
theorem jd_K_tag_51 : decode jb_K_tag 51 = .ok (.invokevirtual 206, 3) := by decide +kernel
theorem jd_K_tag_54 : decode jb_K_tag 54 = .ok (.ireturn, 1) := by decide +kernel
theorem jd_K_isTagNumber_0 : decode jb_K_isTagNumber 0 = .ok (.iload_n 0, 1) := by decide +kernel
theorem jd_K_isTagNumber_1 : decode jb_K_isTagNumber 1 = .ok (.iconst 1, 1) := by decide +kernel
theorem jd_K_isTagNumber_2 : decode jb_K_isTagNumber 2 = .ok (.if_icmp .lt 13, 3) := by decide +kernel
theorem jd_K_isTagNumber_5 : decode jb_K_isTagNumber 5 = .ok (.iload_n 0, 1) := by decide +kernel
theorem jd_K_isTagNumber_6 : decode jb_K_isTagNumber 6 = .ok (.ldc 229, 2) := by decide +kernel
theorem jd_K_isTagNumber_8 : decode jb_K_isTagNumber 8 = .ok (.if_icmp .gt 7, 3) := by decide +kernel
theorem jd_K_isTagNumber_11 : decode jb_K_isTagNumber 11 = .ok (.iconst 1, 1) := by decide +kernel
theorem jd_K_isTagNumber_12 : decode jb_K_isTagNumber 12 = .ok (.goto 4, 3) := by decide +kernel
theorem jd_K_isTagNumber_15 : decode jb_K_isTagNumber 15 = .ok (.iconst 0, 1) := by decide +kernel
theorem jd_K_isTagNumber_16 : decode jb_K_isTagNumber 16 = .ok (.ireturn, 1) := by decide +kernel
theorem jd_K_shorten_0 : decode jb_K_shorten 0 = .ok (.aload_n 0, 1) := by decide +kernel
theorem jd_K_shorten_1 : decode jb_K_shorten 1 = .ok (.getfield 31, 3) := by decide +kernel
theorem jd_K_shorten_4 : decode jb_K_shorten 4 = .ok (.invokevirtual 183, 3) := by decide +kernel
theorem jd_K_shorten_7 : decode jb_K_shorten 7 = .ok (.ifCond .ne 13, 3) := by decide +kernel
theorem jd_K_shorten_10 : decode jb_K_shorten 10 = .ok (.new 72, 3) := by decide +kernel
theorem jd_K_shorten_13 : decode jb_K_shorten 13 = .ok (.dup, 1) := by decide +kernel
theorem jd_K_shorten_14 : decode jb_K_shorten 14 = .ok (.ldc 209, 2) := by decide +kernel
theorem jd_K_shorten_16 : decode jb_K_shorten 16 = .ok (.invokespecial 76, 3) := by decide +kernel
theorem jd_K_shorten_19 : decode jb_K_shorten 19 = .ok (.athrow, 1) := by decide +kernel
theorem jd_K_shorten_20 : decode jb_K_shorten 20 = .ok (.iload_n 3, 1) := by decide +kernel
theorem jd_K_shorten_21 : decode jb_K_shorten 21 = .ok (.invokestatic 201, 3) := by decide +kernel
theorem jd_K_shorten_24 : decode jb_K_shorten 24 = .ok (.ifCond .eq 16, 3) := by decide +kernel
theorem jd_K_shorten_27 : decode jb_K_shorten 27 = .ok (.iload 4, 2) := by decide +kernel
theorem jd_K_shorten_29 : decode jb_K_shorten 29 = .ok (.ifCond .lt 11, 3) := by decide +kernel
theorem jd_K_shorten_32 : decode jb_K_shorten 32 = .ok (.iload 4, 2) := by decide +kernel
theorem jd_K_shorten_34 : decode jb_K_shorten 34 = .ok (.sipush 128, 3) := by decide +kernel
theorem jd_K_shorten_37 : decode jb_K_shorten 37 = .ok (.if_icmp .le 13, 3) := by decide +kernel
theorem jd_K_shorten_40 : decode jb_K_shorten 40 = .ok (.new 53, 3) := by decide +kernel
theorem jd_K_shorten_43 : decode jb_K_shorten 43 = .ok (.dup, 1) := by decide +kernel
theorem jd_K_shorten_44 : decode jb_K_shorten 44 = .ok (.ldc 211, 2) := by decide +kernel
theorem jd_K_shorten_46 : decode jb_K_shorten 46 = .ok (.invokespecial 57, 3) := by decide +kernel
theorem jd_K_shorten_49 : decode jb_K_shorten 49 = .ok (.athrow, 1) := by decide +kernel
theorem jd_K_shorten_50 : decode jb_K_shorten 50 = .ok (.aload_n 0, 1) := by decide +kernel
theorem jd_K_shorten_51 : decode jb_K_shorten 51 = .ok (.getfield 45, 3) := by decide +kernel
theorem jd_K_shorten_54 : decode jb_K_shorten 54 = .ok (.aload_n 0, 1) := by decide +kernel
theorem jd_K_shorten_55 : decode jb_K_shorten 55 = .ok (.getfield 31, 3) := by decide +kernel
theorem jd_K_shorten_58 : decode jb_K_shorten 58 = .ok (.getfield 189, 3) := by decide +kernel
theorem jd_K_shorten_61 : decode jb_K_shorten 61 = .ok (.isub, 1) := by decide +kernel
theorem jd_K_shorten_62 : decode jb_K_shorten 62 = .ok (.iload 4, 2) := by decide +kernel
theorem jd_K_shorten_64 : decode jb_K_shorten 64 = .ok (.isub, 1) := by decide +kernel
theorem jd_K_shorten_65 : decode jb_K_shorten 65 = .ok (.bipush 16, 2) := by decide +kernel
theorem jd_K_shorten_67 : decode jb_K_shorten 67 = .ok (.isub, 1) := by decide +kernel
theorem jd_K_shorten_68 : decode jb_K_shorten 68 = .ok (.istore 5, 2) := by decide +kernel
theorem jd_K_shorten_70 : decode jb_K_shorten 70 = .ok (.iload 5, 2) := by decide +kernel
theorem jd_K_shorten_72 : decode jb_K_shorten 72 = .ok (.iconst 1, 1) := by decide +kernel
theorem jd_K_shorten_73 : decode jb_K_shorten 73 = .ok (.if_icmp .lt 30, 3) := by decide +kernel
theorem jd_K_shorten_76 : decode jb_K_shorten 76 = .ok (.aload_n 0, 1) := by decide +kernel
theorem jd_K_shorten_77 : decode jb_K_shorten 77 = .ok (.getfield 10, 3) := by decide +kernel
theorem jd_K_shorten_80 : decode jb_K_shorten 80 = .ok (.iload_n 3, 1) := by decide +kernel
theorem jd_K_shorten_81 : decode jb_K_shorten 81 = .ok (.aload_n 0, 1) := by decide +kernel
theorem jd_K_shorten_82 : decode jb_K_shorten 82 = .ok (.getfield 45, 3) := by decide +kernel
theorem jd_K_shorten_85 : decode jb_K_shorten 85 = .ok (.invokevirtual 206, 3) := by decide +kernel
theorem jd_K_shorten_88 : decode jb_K_shorten 88 = .ok (.aload_n 0, 1) := by decide +kernel
theorem jd_K_shorten_89 : decode jb_K_shorten 89 = .ok (.getfield 16, 3) := by decide +kernel
theorem jd_K_shorten_92 : decode jb_K_shorten 92 = .ok (.iload_n 3, 1) := by decide +kernel
theorem jd_K_shorten_93 : decode jb_K_shorten 93 = .ok (.aload_n 0, 1) := by decide +kernel
theorem jd_K_shorten_94 : decode jb_K_shorten 94 = .ok (.getfield 45, 3) := by decide +kernel
theorem jd_K_shorten_97 : decode jb_K_shorten 97 = .ok (.invokevirtual 206, 3) := by decide +kernel
theorem jd_K_shorten_100 : decode jb_K_shorten 100 = .ok (.if_icmp .eq 13, 3) := by decide +kernel
theorem jd_K_shorten_103 : decode jb_K_shorten 103 = .ok (.new 213, 3) := by decide +kernel
theorem jd_K_shorten_106 : decode jb_K_shorten 106 = .ok (.dup, 1) := by decide +kernel
theorem jd_K_shorten_107 : decode jb_K_shorten 107 = .ok (.ldc 215, 2) := by decide +kernel
theorem jd_K_shorten_109 : decode jb_K_shorten 109 = .ok (.invokespecial 217, 3) := by decide +kernel
theorem jd_K_shorten_112 : decode jb_K_shorten 112 = .ok (.athrow, 1) := by decide +kernel
theorem jd_K_shorten_113 : decode jb_K_shorten 113 = .ok (.aload_n 0, 1) := by decide +kernel
theorem jd_K_shorten_114 : decode jb_K_shorten 114 = .ok (.getfield 22, 3) := by decide +kernel
theorem jd_K_shorten_117 : decode jb_K_shorten 117 = .ok (.lload_n 1, 1) := by decide +kernel
theorem jd_K_shorten_118 : decode jb_K_shorten 118 = .ok (.invokevirtual 218, 3) := by decide +kernel
theorem jd_K_shorten_121 : decode jb_K_shorten 121 = .ok (.iconst 0, 1) := by decide +kernel
theorem jd_K_shorten_122 : decode jb_K_shorten 122 = .ok (.istore 6, 2) := by decide +kernel
theorem jd_K_shorten_124 : decode jb_K_shorten 124 = .ok (.iload 6, 2) := by decide +kernel
theorem jd_K_shorten_126 : decode jb_K_shorten 126 = .ok (.aload_n 0, 1) := by decide +kernel
theorem jd_K_shorten_127 : decode jb_K_shorten 127 = .ok (.getfield 45, 3) := by decide +kernel
theorem jd_K_shorten_130 : decode jb_K_shorten 130 = .ok (.iload 5, 2) := by decide +kernel
theorem jd_K_shorten_132 : decode jb_K_shorten 132 = .ok (.iadd, 1) := by decide +kernel
theorem jd_K_shorten_133 : decode jb_K_shorten 133 = .ok (.iconst 1, 1) := by decide +kernel
theorem jd_K_shorten_134 : decode jb_K_shorten 134 = .ok (.isub, 1) := by decide +kernel
theorem jd_K_shorten_135 : decode jb_K_shorten 135 = .ok (.if_icmp .ge 23, 3) := by decide +kernel
theorem jd_K_shorten_138 : decode jb_K_shorten 138 = .ok (.aload_n 0, 1) := by decide +kernel
theorem jd_K_shorten_139 : decode jb_K_shorten 139 = .ok (.getfield 42, 3) := by decide +kernel
theorem jd_K_shorten_142 : decode jb_K_shorten 142 = .ok (.iload 6, 2) := by decide +kernel
theorem jd_K_shorten_144 : decode jb_K_shorten 144 = .ok (.aload_n 0, 1) := by decide +kernel
theorem jd_K_shorten_145 : decode jb_K_shorten 145 = .ok (.getfield 22, 3) := by decide +kernel
theorem jd_K_shorten_148 : decode jb_K_shorten 148 = .ok (.invokevirtual 222, 3) := by decide +kernel
theorem jd_K_shorten_151 : decode jb_K_shorten 151 = .ok (.iastore, 1) := by decide +kernel
theorem jd_K_shorten_152 : decode jb_K_shorten 152 = .ok (.iinc 6 1, 3) := by decide +kernel
theorem jd_K_shorten_155 : decode jb_K_shorten 155 = .ok (.goto (-31), 3) := by decide +kernel
theorem jd_K_shorten_158 : decode jb_K_shorten 158 = .ok (.aload_n 0, 1) := by decide +kernel
theorem jd_K_shorten_159 : decode jb_K_shorten 159 = .ok (.iload 5, 2) := by decide +kernel
theorem jd_K_shorten_161 : decode jb_K_shorten 161 = .ok (.putfield 226, 3) := by decide +kernel
theorem jd_K_shorten_164 : decode jb_K_shorten 164 = .ok (.aload_n 0, 1) := by decide +kernel
theorem jd_K_shorten_165 : decode jb_K_shorten 165 = .ok (.getfield 226, 3) := by decide +kernel
theorem jd_K_shorten_168 : decode jb_K_shorten 168 = .ok (.ireturn, 1) := by decide +kernel
theorem jd_K_key_0 : decode jb_K_key 0 = .ok (.iload_n 1, 1) := by decide +kernel
theorem jd_K_key_1 : decode jb_K_key 1 = .ok (.invokestatic 49, 3) := by decide +kernel
theorem jd_K_key_4 : decode jb_K_key 4 = .ok (.ifCond .eq 15, 3) := by decide +kernel
theorem jd_K_key_7 : decode jb_K_key 7 = .ok (.iload_n 2, 1) := by decide +kernel
theorem jd_K_key_8 : decode jb_K_key 8 = .ok (.ifCond .lt 11, 3) := by decide +kernel
theorem jd_K_key_11 : decode jb_K_key 11 = .ok (.iload_n 2, 1) := by decide +kernel
theorem jd_K_key_12 : decode jb_K_key 12 = .ok (.aload_n 0, 1) := by decide +kernel
theorem jd_K_key_13 : decode jb_K_key 13 = .ok (.getfield 226, 3) := by decide +kernel
theorem jd_K_key_16 : decode jb_K_key 16 = .ok (.if_icmp .lt 13, 3) := by decide +kernel
theorem jd_K_key_19 : decode jb_K_key 19 = .ok (.new 147, 3) := by decide +kernel
theorem jd_K_key_22 : decode jb_K_key 22 = .ok (.dup, 1) := by decide +kernel
theorem jd_K_key_23 : decode jb_K_key 23 = .ok (.ldc 197, 2) := by decide +kernel
theorem jd_K_key_25 : decode jb_K_key 25 = .ok (.invokespecial 151, 3) := by decide +kernel
theorem jd_K_key_28 : decode jb_K_key 28 = .ok (.athrow, 1) := by decide +kernel
theorem jd_K_key_29 : decode jb_K_key 29 = .ok (.aload_n 0, 1) := by decide +kernel
theorem jd_K_key_30 : decode jb_K_key 30 = .ok (.iload_n 1, 1) := by decide +kernel
theorem jd_K_key_31 : decode jb_K_key 31 = .ok (.invokevirtual 60, 3) := by decide +kernel
theorem jd_K_key_34 : decode jb_K_key 34 = .ok (.getfield 89, 3) := by decide +kernel
theorem jd_K_key_37 : decode jb_K_key 37 = .ok (.astore_n 3, 1) := by decide +kernel
theorem jd_K_key_38 : decode jb_K_key 38 = .ok (.iconst 0, 1) := by decide +kernel
theorem jd_K_key_39 : decode jb_K_key 39 = .ok (.istore 4, 2) := by decide +kernel
theorem jd_K_key_41 : decode jb_K_key 41 = .ok (.iconst 0, 1) := by decide +kernel
theorem jd_K_key_42 : decode jb_K_key 42 = .ok (.istore 5, 2) := by decide +kernel
theorem jd_K_key_44 : decode jb_K_key 44 = .ok (.iload 5, 2) := by decide +kernel
theorem jd_K_key_46 : decode jb_K_key 46 = .ok (.aload_n 0, 1) := by decide +kernel
theorem jd_K_key_47 : decode jb_K_key 47 = .ok (.getfield 45, 3) := by decide +kernel
theorem jd_K_key_50 : decode jb_K_key 50 = .ok (.if_icmp .ge 35, 3) := by decide +kernel
theorem jd_K_key_53 : decode jb_K_key 53 = .ok (.iload 4, 2) := by decide +kernel
theorem jd_K_key_55 : decode jb_K_key 55 = .ok (.aload_n 3, 1) := by decide +kernel
theorem jd_K_key_56 : decode jb_K_key 56 = .ok (.iload 5, 2) := by decide +kernel
theorem jd_K_key_58 : decode jb_K_key 58 = .ok (.iaload, 1) := by decide +kernel
theorem jd_K_key_59 : decode jb_K_key 59 = .ok (.aload_n 0, 1) := by decide +kernel
theorem jd_K_key_60 : decode jb_K_key 60 = .ok (.getfield 42, 3) := by decide +kernel
theorem jd_K_key_63 : decode jb_K_key 63 = .ok (.iload 5, 2) := by decide +kernel
theorem jd_K_key_65 : decode jb_K_key 65 = .ok (.aload_n 0, 1) := by decide +kernel
theorem jd_K_key_66 : decode jb_K_key 66 = .ok (.getfield 226, 3) := by decide +kernel
theorem jd_K_key_69 : decode jb_K_key 69 = .ok (.iadd, 1) := by decide +kernel
theorem jd_K_key_70 : decode jb_K_key 70 = .ok (.iconst 1, 1) := by decide +kernel
theorem jd_K_key_71 : decode jb_K_key 71 = .ok (.isub, 1) := by decide +kernel
theorem jd_K_key_72 : decode jb_K_key 72 = .ok (.iload_n 2, 1) := by decide +kernel
theorem jd_K_key_73 : decode jb_K_key 73 = .ok (.isub, 1) := by decide +kernel
theorem jd_K_key_74 : decode jb_K_key 74 = .ok (.iaload, 1) := by decide +kernel
theorem jd_K_key_75 : decode jb_K_key 75 = .ok (.iand, 1) := by decide +kernel
theorem jd_K_key_76 : decode jb_K_key 76 = .ok (.ixor, 1) := by decide +kernel
theorem jd_K_key_77 : decode jb_K_key 77 = .ok (.istore 4, 2) := by decide +kernel
theorem jd_K_key_79 : decode jb_K_key 79 = .ok (.iinc 5 1, 3) := by decide +kernel
theorem jd_K_key_82 : decode jb_K_key 82 = .ok (.goto (-38), 3) := by decide +kernel
theorem jd_K_key_85 : decode jb_K_key 85 = .ok (.iload 4, 2) := by decide +kernel
theorem jd_K_key_87 : decode jb_K_key 87 = .ok (.ireturn, 1) := by decide +kernel
end
section
/-- Int32 by numbers: all of them -/
theorem kn_of (x : Int32) : ∃ k : Nat, k < 4294967296 ∧ x = nI k := ⟨x.toBitVec.toNat, x.toBitVec.isLt, by
  apply Int32.toBitVec_inj.mp
  show x.toBitVec = (Int32.ofNat x.toBitVec.toNat).toBitVec
  rw [Int32.toBitVec_ofNat']
  simp⟩
theorem kn_bv (k : Nat) : (nI k).toBitVec = BitVec.ofNat 32 k := by
  show (Int32.ofNat k).toBitVec = _
  rw [Int32.toBitVec_ofNat']
theorem kn_inj {x y : Int32} (h : x.toBitVec = y.toBitVec) : x = y := Int32.toBitVec_inj.mp h
theorem kn_eq {a b : Nat} (ha : a < 4294967296) (hb : b < 4294967296) : nI a = nI b ↔ a = b := by
  constructor
  · intro h
    have h1 := congrArg (fun z : Int32 => z.toBitVec.toNat) h
    simp only [kn_bv, BitVec.toNat_ofNat] at h1
    omega
  · intro h; rw [h]
theorem kn_xor (a b : Nat) : nI a ^^^ nI b = nI (a ^^^ b) := by
  apply kn_inj
  rw [Int32.toBitVec_xor, kn_bv, kn_bv, kn_bv]
  apply BitVec.eq_of_toNat_eq
  simp [BitVec.toNat_xor, Nat.xor_mod_two_pow]
theorem kn_and (a b : Nat) : nI a &&& nI b = nI (a &&& b) := by
  apply kn_inj
  rw [Int32.toBitVec_and, kn_bv, kn_bv, kn_bv]
  apply BitVec.eq_of_toNat_eq
  simp [BitVec.toNat_and, Nat.and_mod_two_pow]
theorem kn_or (a b : Nat) : nI a ||| nI b = nI (a ||| b) := by
  apply kn_inj
  rw [Int32.toBitVec_or, kn_bv, kn_bv, kn_bv]
  apply BitVec.eq_of_toNat_eq
  simp [BitVec.toNat_or, Nat.or_mod_two_pow]
theorem kn_m1 : (nI 4294967295) = (-1 : Int32) := by decide
theorem kn_toInt {a : Nat} (h : a < 4294967296) : (nI a).toInt = if a < 2147483648 then (a : Int) else (a : Int) - 4294967296 := by
  have : (nI a).toInt = (nI a).toBitVec.toInt := rfl
  rw [this, kn_bv, BitVec.toInt_eq_toNat_cond]
  simp only [BitVec.toNat_ofNat]
  rw [Nat.mod_eq_of_lt h]
  split <;> split <;> omega
section KN
variable {p : Program} {l : Launch} {e : Env} {R : Room} {s : State} {m : MethodId} {args : Array Value} {below : List Frame} {meth : Method} {c : Code} {H : Heap} {locs : List Loc} {cells slots : Nat} {Q : State → Prop}
variable {cc : ByteArray} {pc : Nat} {ls : Array Slot} {rest : List Value}
theorem kn_iadd (hx : p.tables.exec = Jvm.exec) (hb : c.code = cc) {x y : Nat} (hdg : decode cc pc = .ok (.iadd, 1)) (k : W p l e R s m args below meth c H locs cells slots Q (F0 m (pc + 1) ls (.int (nI (x + y)) :: rest))) : W p l e R s m args below meth c H locs cells slots Q (F0 m pc ls (.int (nI y) :: .int (nI x) :: rest)) :=
  lv_iadd hx hb hdg (by rw [nI_add]; exact k)
theorem kn_isub (hx : p.tables.exec = Jvm.exec) (hb : c.code = cc) {x y : Nat} (hdg : decode cc pc = .ok (.isub, 1)) (h : y ≤ x) (k : W p l e R s m args below meth c H locs cells slots Q (F0 m (pc + 1) ls (.int (nI (x - y)) :: rest))) : W p l e R s m args below meth c H locs cells slots Q (F0 m pc ls (.int (nI y) :: .int (nI x) :: rest)) :=
  lv_isub hx hb hdg (by rw [pk_sub h]; exact k)
theorem kn_imul (hx : p.tables.exec = Jvm.exec) (hb : c.code = cc) {x y : Nat} (hdg : decode cc pc = .ok (.imul, 1)) (k : W p l e R s m args below meth c H locs cells slots Q (F0 m (pc + 1) ls (.int (nI (x * y)) :: rest))) : W p l e R s m args below meth c H locs cells slots Q (F0 m pc ls (.int (nI y) :: .int (nI x) :: rest)) :=
  lv_imul hx hb hdg (by rw [pk_mul]; exact k)
theorem kn_ixor (hx : p.tables.exec = Jvm.exec) (hb : c.code = cc) {x y : Nat} (hdg : decode cc pc = .ok (.ixor, 1)) (k : W p l e R s m args below meth c H locs cells slots Q (F0 m (pc + 1) ls (.int (nI (x ^^^ y)) :: rest))) : W p l e R s m args below meth c H locs cells slots Q (F0 m pc ls (.int (nI y) :: .int (nI x) :: rest)) :=
  lv_ixor hx hb hdg (by rw [kn_xor]; exact k)
theorem kn_iand (hx : p.tables.exec = Jvm.exec) (hb : c.code = cc) {x y : Nat} (hdg : decode cc pc = .ok (.iand, 1)) (k : W p l e R s m args below meth c H locs cells slots Q (F0 m (pc + 1) ls (.int (nI (x &&& y)) :: rest))) : W p l e R s m args below meth c H locs cells slots Q (F0 m pc ls (.int (nI y) :: .int (nI x) :: rest)) :=
  lv_iand hx hb hdg (by rw [kn_and]; exact k)
theorem kn_ior (hx : p.tables.exec = Jvm.exec) (hb : c.code = cc) {x y : Nat} (hdg : decode cc pc = .ok (.ior, 1)) (k : W p l e R s m args below meth c H locs cells slots Q (F0 m (pc + 1) ls (.int (nI (x ||| y)) :: rest))) : W p l e R s m args below meth c H locs cells slots Q (F0 m pc ls (.int (nI y) :: .int (nI x) :: rest)) :=
  lv_ior hx hb hdg (by rw [kn_or]; exact k)
theorem kn_idiv (hx : p.tables.exec = Jvm.exec) (hb : c.code = cc) {x y : Nat} (hdg : decode cc pc = .ok (.idiv, 1)) (h : x < 2147483648 ∧ 0 < y ∧ y < 2147483648) (k : W p l e R s m args below meth c H locs cells slots Q (F0 m (pc + 1) ls (.int (nI (x / y)) :: rest))) : W p l e R s m args below meth c H locs cells slots Q (F0 m pc ls (.int (nI y) :: .int (nI x) :: rest)) :=
  lv_idiv hx hb hdg (nI_ne0 h.2.1 h.2.2) (by rw [pk_div h.1 h.2.1 h.2.2]; exact k)
theorem kn_irem (hx : p.tables.exec = Jvm.exec) (hb : c.code = cc) {x y : Nat} (hdg : decode cc pc = .ok (.irem, 1)) (h : x < 2147483648 ∧ 0 < y ∧ y < 2147483648) (k : W p l e R s m args below meth c H locs cells slots Q (F0 m (pc + 1) ls (.int (nI (x % y)) :: rest))) : W p l e R s m args below meth c H locs cells slots Q (F0 m pc ls (.int (nI y) :: .int (nI x) :: rest)) :=
  lv_irem hx hb hdg (nI_ne0 h.2.1 h.2.2) (by rw [pk_rem h.1 h.2.1 h.2.2]; exact k)
theorem kn_to {x y : Nat} (h : x = y) (k : W p l e R s m args below meth c H locs cells slots Q (F0 m pc ls (.int (nI y) :: rest))) : W p l e R s m args below meth c H locs cells slots Q (F0 m pc ls (.int (nI x) :: rest)) := by rw [h]; exact k
theorem kn_is {x : Int32} {y : Nat} (h : x = nI y) (k : W p l e R s m args below meth c H locs cells slots Q (F0 m pc ls (.int (nI y) :: rest))) : W p l e R s m args below meth c H locs cells slots Q (F0 m pc ls (.int x :: rest)) := by rw [h]; exact k
theorem kn_clt (hx : p.tables.exec = Jvm.exec) (hb : c.code = cc) {x y : Nat} {off : Int} {tgt : Nat} (hdg : decode cc pc = .ok (.if_icmp .lt off, 3)) (ht : (pc : Int) + off = (tgt : Int)) (h : x < 2147483648 ∧ y < 2147483648)
    (kt : x < y → W p l e R s m args below meth c H locs cells slots Q (F0 m tgt ls rest)) (kf : y ≤ x → W p l e R s m args below meth c H locs cells slots Q (F0 m (pc + 3) ls rest)) : W p l e R s m args below meth c H locs cells slots Q (F0 m pc ls (.int (nI y) :: .int (nI x) :: rest)) :=
  lv_icmp_lt hx hb hdg ht (fun z => kt ((nI_ltI h.1 h.2).mp z)) (fun z => kf (Nat.le_of_not_lt fun q => z ((nI_ltI h.1 h.2).mpr q)))
theorem kn_cge (hx : p.tables.exec = Jvm.exec) (hb : c.code = cc) {x y : Nat} {off : Int} {tgt : Nat} (hdg : decode cc pc = .ok (.if_icmp .ge off, 3)) (ht : (pc : Int) + off = (tgt : Int)) (h : x < 2147483648 ∧ y < 2147483648)
    (kt : y ≤ x → W p l e R s m args below meth c H locs cells slots Q (F0 m tgt ls rest)) (kf : x < y → W p l e R s m args below meth c H locs cells slots Q (F0 m (pc + 3) ls rest)) : W p l e R s m args below meth c H locs cells slots Q (F0 m pc ls (.int (nI y) :: .int (nI x) :: rest)) :=
  lv_icmp_ge hx hb hdg ht (fun z => kt ((nI_leI h.2 h.1).mp z)) (fun z => kf (Nat.lt_of_not_le fun q => z ((nI_leI h.2 h.1).mpr q)))
theorem kn_cgt (hx : p.tables.exec = Jvm.exec) (hb : c.code = cc) {x y : Nat} {off : Int} {tgt : Nat} (hdg : decode cc pc = .ok (.if_icmp .gt off, 3)) (ht : (pc : Int) + off = (tgt : Int)) (h : x < 2147483648 ∧ y < 2147483648)
    (kt : y < x → W p l e R s m args below meth c H locs cells slots Q (F0 m tgt ls rest)) (kf : x ≤ y → W p l e R s m args below meth c H locs cells slots Q (F0 m (pc + 3) ls rest)) : W p l e R s m args below meth c H locs cells slots Q (F0 m pc ls (.int (nI y) :: .int (nI x) :: rest)) :=
  lv_icmp_gt hx hb hdg ht (fun z => kt ((nI_ltI h.2 h.1).mp z)) (fun z => kf (Nat.le_of_not_lt fun q => z ((nI_ltI h.2 h.1).mpr q)))
theorem kn_cle (hx : p.tables.exec = Jvm.exec) (hb : c.code = cc) {x y : Nat} {off : Int} {tgt : Nat} (hdg : decode cc pc = .ok (.if_icmp .le off, 3)) (ht : (pc : Int) + off = (tgt : Int)) (h : x < 2147483648 ∧ y < 2147483648)
    (kt : x ≤ y → W p l e R s m args below meth c H locs cells slots Q (F0 m tgt ls rest)) (kf : y < x → W p l e R s m args below meth c H locs cells slots Q (F0 m (pc + 3) ls rest)) : W p l e R s m args below meth c H locs cells slots Q (F0 m pc ls (.int (nI y) :: .int (nI x) :: rest)) :=
  lv_icmp_le hx hb hdg ht (fun z => kt ((nI_leI h.1 h.2).mp z)) (fun z => kf (Nat.lt_of_not_le fun q => z ((nI_leI h.1 h.2).mpr q)))
theorem kn_ceq (hx : p.tables.exec = Jvm.exec) (hb : c.code = cc) {x y : Nat} {off : Int} {tgt : Nat} (hdg : decode cc pc = .ok (.if_icmp .eq off, 3)) (ht : (pc : Int) + off = (tgt : Int)) (h : x < 4294967296 ∧ y < 4294967296)
    (kt : x = y → W p l e R s m args below meth c H locs cells slots Q (F0 m tgt ls rest)) (kf : ¬ x = y → W p l e R s m args below meth c H locs cells slots Q (F0 m (pc + 3) ls rest)) : W p l e R s m args below meth c H locs cells slots Q (F0 m pc ls (.int (nI y) :: .int (nI x) :: rest)) :=
  lv_icmp_eq hx hb hdg ht (fun z => kt ((kn_eq h.1 h.2).mp z)) (fun z => kf (fun q => z ((kn_eq h.1 h.2).mpr q)))
theorem kn_cne (hx : p.tables.exec = Jvm.exec) (hb : c.code = cc) {x y : Nat} {off : Int} {tgt : Nat} (hdg : decode cc pc = .ok (.if_icmp .ne off, 3)) (ht : (pc : Int) + off = (tgt : Int)) (h : x < 4294967296 ∧ y < 4294967296)
    (kt : ¬ x = y → W p l e R s m args below meth c H locs cells slots Q (F0 m tgt ls rest)) (kf : x = y → W p l e R s m args below meth c H locs cells slots Q (F0 m (pc + 3) ls rest)) : W p l e R s m args below meth c H locs cells slots Q (F0 m pc ls (.int (nI y) :: .int (nI x) :: rest)) :=
  lv_icmp_ne hx hb hdg ht (fun z => kt (fun q => z ((kn_eq h.1 h.2).mpr q))) (fun z => kf ((kn_eq h.1 h.2).mp z))
theorem kn_eq0 (hx : p.tables.exec = Jvm.exec) (hb : c.code = cc) {x : Nat} {off : Int} {tgt : Nat} (hdg : decode cc pc = .ok (.ifCond .eq off, 3)) (ht : (pc : Int) + off = (tgt : Int)) (h : x < 4294967296)
    (kt : x = 0 → W p l e R s m args below meth c H locs cells slots Q (F0 m tgt ls rest)) (kf : ¬ x = 0 → W p l e R s m args below meth c H locs cells slots Q (F0 m (pc + 3) ls rest)) : W p l e R s m args below meth c H locs cells slots Q (F0 m pc ls (.int (nI x) :: rest)) :=
  lv_if_eq hx hb hdg ht (fun z => kt ((kn_eq (b := 0) h (by decide)).mp z)) (fun z => kf (fun q => z ((kn_eq (b := 0) h (by decide)).mpr q)))
theorem kn_ne0 (hx : p.tables.exec = Jvm.exec) (hb : c.code = cc) {x : Nat} {off : Int} {tgt : Nat} (hdg : decode cc pc = .ok (.ifCond .ne off, 3)) (ht : (pc : Int) + off = (tgt : Int)) (h : x < 4294967296)
    (kt : ¬ x = 0 → W p l e R s m args below meth c H locs cells slots Q (F0 m tgt ls rest)) (kf : x = 0 → W p l e R s m args below meth c H locs cells slots Q (F0 m (pc + 3) ls rest)) : W p l e R s m args below meth c H locs cells slots Q (F0 m pc ls (.int (nI x) :: rest)) :=
  lv_if_ne hx hb hdg ht (fun z => kt (fun q => z ((kn_eq (b := 0) h (by decide)).mpr q))) (fun z => kf ((kn_eq (b := 0) h (by decide)).mp z))
end KN
theorem kl_z {x t : Int} (h : x = 18446744073709551616 * t) (h1 : -18446744073709551616 < x) (h2 : x < 18446744073709551616) : x = 0 := by omega
theorem kl_b0 {e0 e1 e2 : Int} (c0 : -1099511627776 < e0 ∧ e0 < 1099511627776) (c1 : -1099511627776 < e1 ∧ e1 < 1099511627776) (c2 : -1099511627776 < e2 ∧ e2 < 1099511627776) : -18446744073709551616 < -2498093 * e0 + -397201 * e1 + 8218 * e2 ∧ -2498093 * e0 + -397201 * e1 + 8218 * e2 < 18446744073709551616 := by omega
theorem kl_f0 {e0 e1 e2 j0 j1 : Int} (r1 : e1 = 6364136223846793005 * e0 - 18446744073709551616 * j0) (r2 : e2 = 6364136223846793005 * e1 - 18446744073709551616 * j1) : -2498093 * e0 + -397201 * e1 + 8218 * e2 = 18446744073709551616 * (18043689649964084197072 * e0 + -52300471487572944517889 * j0 + -8218 * j1) := by omega
theorem kl_b1 {e0 e1 e2 : Int} (c0 : -1099511627776 < e0 ∧ e0 < 1099511627776) (c1 : -1099511627776 < e1 ∧ e1 < 1099511627776) (c2 : -1099511627776 < e2 ∧ e2 < 1099511627776) : -18446744073709551616 < 993613 * e0 + -1313894 * e1 + -1941511 * e2 ∧ 993613 * e0 + -1313894 * e1 + -1941511 * e2 < 18446744073709551616 := by omega
theorem kl_f1 {e0 e1 e2 j0 j1 : Int} (r1 : e1 = 6364136223846793005 * e0 - 18446744073709551616 * j0) (r2 : e2 = 6364136223846793005 * e1 - 18446744073709551616 * j1) : 993613 * e0 + -1313894 * e1 + -1941511 * e2 = 18446744073709551616 * (-4262840342661404154699527 * e0 + 12356040484097010935244449 * j0 + 1941511 * j1) := by omega
theorem kl_b2 {e0 e1 e2 : Int} (c0 : -1099511627776 < e0 ∧ e0 < 1099511627776) (c1 : -1099511627776 < e1 ∧ e1 < 1099511627776) (c2 : -1099511627776 < e2 ∧ e2 < 1099511627776) : -18446744073709551616 < 789167 * e0 + 2349913 * e1 + -2090292 * e2 ∧ 789167 * e0 + 2349913 * e1 + -2090292 * e2 < 18446744073709551616 := by omega
theorem kl_f2 {e0 e1 e2 j0 j1 : Int} (r1 : e1 = 6364136223846793005 * e0 - 18446744073709551616 * j0) (r2 : e2 = 6364136223846793005 * e1 - 18446744073709551616 * j1) : 789167 * e0 + 2349913 * e1 + -2090292 * e2 = 18446744073709551616 * (-4589508411511648304240173 * e0 + 13302903035617160641657547 * j0 + 2090292 * j1) := by omega
theorem kl_d (e0 e1 e2 : Int) : 7308804055591 * (-2498093 * e0 + -397201 * e1 + 8218 * e2) + -810954487658 * (993613 * e0 + -1313894 * e1 + -1941511 * e2) + 781967691603 * (789167 * e0 + 2349913 * e1 + -2090292 * e2) = -18446744073709551616 * e0 := by omega
theorem kl_r {x0 x1 x2 k0 k1 : Int} (h0 : x0 * 6364136223846793005 + 1442695040888963407 = 18446744073709551616 * k0 + x1) (h1 : x1 * 6364136223846793005 + 1442695040888963407 = 18446744073709551616 * k1 + x2) : x2 - x1 = 6364136223846793005 * (x1 - x0) - 18446744073709551616 * (k1 - k0) := by omega
theorem kl_o {x0 x1 k0 : Int} (h0 : x0 * 6364136223846793005 + 1442695040888963407 = 18446744073709551616 * k0 + x1) : ¬ x1 - x0 = 0 := by omega
theorem kl_e {x y : Int} (hx : 18446744073709551616 - 1099511627776 ≤ x ∧ x < 18446744073709551616) (hy : 18446744073709551616 - 1099511627776 ≤ y ∧ y < 18446744073709551616) : -1099511627776 < y - x ∧ y - x < 1099511627776 := by omega
theorem kl_fin {e0 e1 e2 j0 j1 : Int} (r1 : e1 = 6364136223846793005 * e0 - 18446744073709551616 * j0) (r2 : e2 = 6364136223846793005 * e1 - 18446744073709551616 * j1) (c0 : -1099511627776 < e0 ∧ e0 < 1099511627776) (c1 : -1099511627776 < e1 ∧ e1 < 1099511627776) (c2 : -1099511627776 < e2 ∧ e2 < 1099511627776) : e0 = 0 := by
  have g0 := kl_z (kl_f0 r1 r2) (kl_b0 c0 c1 c2).1 (kl_b0 c0 c1 c2).2
  have g1 := kl_z (kl_f1 r1 r2) (kl_b1 c0 c1 c2).1 (kl_b1 c0 c1 c2).2
  have g2 := kl_z (kl_f2 r1 r2) (kl_b2 c0 c1 c2).1 (kl_b2 c0 c1 c2).2
  have h := kl_d e0 e1 e2
  simp only [g0, g1, g2] at h
  clear r1 r2 c0 c1 c2 g0 g1 g2
  omega
/-- four numbers in a row of the generator can't all lie in the top 2^40 -/
theorem kl_core (x0 x1 x2 x3 k0 k1 k2 : Int) (h0 : x0 * 6364136223846793005 + 1442695040888963407 = 18446744073709551616 * k0 + x1) (h1 : x1 * 6364136223846793005 + 1442695040888963407 = 18446744073709551616 * k1 + x2) (h2 : x2 * 6364136223846793005 + 1442695040888963407 = 18446744073709551616 * k2 + x3)
    (b0 : 18446744073709551616 - 1099511627776 ≤ x0 ∧ x0 < 18446744073709551616) (b1 : 18446744073709551616 - 1099511627776 ≤ x1 ∧ x1 < 18446744073709551616) (b2 : 18446744073709551616 - 1099511627776 ≤ x2 ∧ x2 < 18446744073709551616) (b3 : 18446744073709551616 - 1099511627776 ≤ x3 ∧ x3 < 18446744073709551616) : False := kl_o h0 (kl_fin (kl_r h0 h1) (kl_r h1 h2) (kl_e b0 b1) (kl_e b1 b2) (kl_e b2 b3))
end
section
/-! the world of both: 52 cells at addresses a, their numbers n, their longs g. Printed by wip/gen/gen08.py -/
def ku (n : Nat → Nat → Nat) (i j v : Nat) : Nat → Nat → Nat := fun x y => if x = i then (if y = j then v else n x y) else n x y
def kg (g : Nat → Nat) (i v : Nat) : Nat → Nat := fun x => if x = i then v else g x
theorem ku_s (n : Nat → Nat → Nat) (i j v : Nat) : ku n i j v i j = v := by simp [ku]
theorem ku_n {n : Nat → Nat → Nat} {i j v x y : Nat} (h : x ≠ i) : ku n i j v x y = n x y := by simp [ku, h]
theorem ku_m {n : Nat → Nat → Nat} {i j v x y : Nat} (h : y ≠ j) : ku n i j v x y = n x y := by simp [ku, h]
theorem ku_row {n : Nat → Nat → Nat} {i j v x : Nat} (h : x ≠ i) : ku n i j v x = n x := by funext y; exact ku_n h
theorem kg_s (g : Nat → Nat) (i v : Nat) : kg g i v i = v := by simp [kg]
theorem kg_n {g : Nat → Nat} {i v x : Nat} (h : x ≠ i) : kg g i v x = g x := by simp [kg, h]
abbrev jTy (d : Nat → Nat) : List (ClassId × FieldType) := [(d 0, .int), (d 1, .boolean), (d 2, .long), (d 3, .array .int)]
def jE (d a : Nat → Nat) (n : Nat → Nat → Nat) (g : Nat → Nat) : Nat → va_E
  | 0 => .inr (4, [.ref (a 1), .ref (a 7), .ref (a 13), .ref (a 14), .ref (a 30), .ref (a 31), .ref (a 32), .int (nI (n 0 0)), .int (nI (n 0 1)), .int (nI (n 0 2)), .int (nI (n 0 3))])
  | 1 => .inr (0, [.ref (a 2), .ref (a 3), .ref (a 4), .ref (a 5), .ref (a 6), .int (nI (n 1 0))])
  | 2 => .inl (d 1, 128, .inl (fun j => nI (n 2 j)))
  | 3 => .inl (d 0, 128, .inl (fun j => nI (n 3 j)))
  | 4 => .inl (d 0, 128, .inl (fun j => nI (n 4 j)))
  | 5 => .inl (d 0, 128, .inl (fun j => nI (n 5 j)))
  | 6 => .inl (d 0, 128, .inl (fun j => nI (n 6 j)))
  | 7 => .inr (0, [.ref (a 8), .ref (a 9), .ref (a 10), .ref (a 11), .ref (a 12), .int (nI (n 7 0))])
  | 8 => .inl (d 1, 128, .inl (fun j => nI (n 8 j)))
  | 9 => .inl (d 0, 128, .inl (fun j => nI (n 9 j)))
  | 10 => .inl (d 0, 128, .inl (fun j => nI (n 10 j)))
  | 11 => .inl (d 0, 128, .inl (fun j => nI (n 11 j)))
  | 12 => .inl (d 0, 128, .inl (fun j => nI (n 12 j)))
  | 13 => .inr (1, [.long (lN (g 0))])
  | 14 => .inr (3, [.ref (a 1), .ref (a 7), .ref (a 15), .ref (a 19), .ref (a 24), .ref (a 29), .int (nI (n 14 0)), .int (nI (n 14 1)), .int (nI (n 14 2)), .int (nI (n 14 3)), .int (nI (n 14 4)), .int (nI (n 14 5))])
  | 15 => .inr (2, [.ref (a 16), .ref (a 17), .ref (a 18), .int (nI (n 15 0))])
  | 16 => .inl (d 0, 16, .inl (fun j => nI (n 16 j)))
  | 17 => .inl (d 0, 16, .inl (fun j => nI (n 17 j)))
  | 18 => .inl (d 0, 16, .inl (fun j => nI (n 18 j)))
  | 19 => .inl (d 3, 4, .inr (.inr (.inr (.inr (fun j => some (a (20 + j)))))))
  | 20 => .inl (d 0, 128, .inl (fun j => nI (n 20 j)))
  | 21 => .inl (d 0, 128, .inl (fun j => nI (n 21 j)))
  | 22 => .inl (d 0, 128, .inl (fun j => nI (n 22 j)))
  | 23 => .inl (d 0, 128, .inl (fun j => nI (n 23 j)))
  | 24 => .inl (d 3, 4, .inr (.inr (.inr (.inr (fun j => some (a (25 + j)))))))
  | 25 => .inl (d 0, 128, .inl (fun j => nI (n 25 j)))
  | 26 => .inl (d 0, 128, .inl (fun j => nI (n 26 j)))
  | 27 => .inl (d 0, 128, .inl (fun j => nI (n 27 j)))
  | 28 => .inl (d 0, 128, .inl (fun j => nI (n 28 j)))
  | 29 => .inl (d 0, 512, .inl (fun j => nI (n 29 j)))
  | 30 => .inl (d 0, 128, .inl (fun j => nI (n 30 j)))
  | 31 => .inl (d 0, 128, .inl (fun j => nI (n 31 j)))
  | 32 => .inl (d 0, 256, .inl (fun j => nI (n 32 j)))
  | 33 => .inr (5, [.int (nI (n 33 0)), .ref (a 34), .ref (a 35), .ref (a 36), .ref (a 37), .int (nI (n 33 1)), .int (nI (n 33 2)), .ref (a 38), .int (nI (n 33 3)), .int (nI (n 33 4)), .long (lN (g 1)), .ref (a 39), .ref (a 40), .int (nI (n 33 5)), .int (nI (n 33 6)), .int (nI (n 33 7)), .ref (a 41), .int (nI (n 33 8)), .int (nI (n 33 9)), .int (nI (n 33 10)), .ref (a 42), .ref (a 43), .ref (a 44), .ref (a 45), .int (nI (n 33 11)), .ref (a 46), .ref (a 47), .ref (a 48), .int (nI (n 33 12)), .ref (a 49), .ref (a 50)])
  | 34 => .inl (d 1, 256, .inl (fun j => nI (n 34 j)))
  | 35 => .inl (d 0, 256, .inl (fun j => nI (n 35 j)))
  | 36 => .inl (d 0, 256, .inl (fun j => nI (n 36 j)))
  | 37 => .inl (d 1, 128, .inl (fun j => nI (n 37 j)))
  | 38 => .inl (d 0, 256, .inl (fun j => nI (n 38 j)))
  | 39 => .inl (d 0, 128, .inl (fun j => nI (n 39 j)))
  | 40 => .inl (d 1, 128, .inl (fun j => nI (n 40 j)))
  | 41 => .inl (d 0, 512, .inl (fun j => nI (n 41 j)))
  | 42 => .inl (d 0, 700, .inl (fun j => nI (n 42 j)))
  | 43 => .inl (d 0, 700, .inl (fun j => nI (n 43 j)))
  | 44 => .inl (d 0, 700, .inl (fun j => nI (n 44 j)))
  | 45 => .inl (d 0, 700, .inl (fun j => nI (n 45 j)))
  | 46 => .inl (d 1, 17, .inl (fun j => nI (n 46 j)))
  | 47 => .inl (d 0, 17, .inl (fun j => nI (n 47 j)))
  | 48 => .inl (d 0, 17, .inl (fun j => nI (n 48 j)))
  | 49 => .inl (d 0, 256, .inl (fun j => nI (n 49 j)))
  | 50 => .inl (d 0, 256, .inl (fun j => nI (n 50 j)))
  | _ => .inl (d 2, 1, .inr (.inl (fun _ => lN (g 2))))
def jW (d a : Nat → Nat) (n : Nat → Nat → Nat) (g : Nat → Nat) : va_W := (List.range 52).map (fun i => (a i, jE d a n g i))
theorem jW_g {d a : Nat → Nat} {n : Nat → Nat → Nat} {g : Nat → Nat} (i : Nat) (h : i < 52) : (jW d a n g)[i]? = some (a i, jE d a n g i) := by
  unfold jW
  rw [List.getElem?_map, List.getElem?_range h]
  rfl
theorem jW_s {d a : Nat → Nat} {n n2 : Nat → Nat → Nat} {g g2 : Nat → Nat} (i : Nat) {e : va_E} (h : jE d a n2 g2 i = e) (ho : ∀ k, k < 52 → k ≠ i → jE d a n2 g2 k = jE d a n g k) : (jW d a n g).set i (a i, e) = jW d a n2 g2 := by
  apply List.ext_getElem?
  intro k
  by_cases hk : k < 52
  · by_cases hi : k = i
    · subst hi
      rw [List.getElem?_set_self (by simp [jW]; exact hk), jW_g k hk, h]
    · rw [List.getElem?_set_ne (fun z => hi z.symm), jW_g k hk, jW_g k hk, ho k hk hi]
  · rw [List.getElem?_eq_none (by simp [jW]; omega), List.getElem?_eq_none (by simp [jW]; omega)]
theorem jE_c {d a : Nat → Nat} {n n2 : Nat → Nat → Nat} {g g2 : Nat → Nat} (h : n = n2) (h2 : g = g2) : jE d a n g = jE d a n2 g2 := by rw [h, h2]
theorem jE_n {d a : Nat → Nat} {n n2 : Nat → Nat → Nat} {g g2 : Nat → Nat} : ∀ k, k < 52 → n k = n2 k → (k = 13 → g 0 = g2 0) → (k = 33 → g 1 = g2 1) → (k = 51 → g 2 = g2 2) → jE d a n g k = jE d a n2 g2 k := by
  intro k hk h h0 h1 h2
  rcases (show k = 0 ∨ k = 1 ∨ k = 2 ∨ k = 3 ∨ k = 4 ∨ k = 5 ∨ k = 6 ∨ k = 7 ∨ k = 8 ∨ k = 9 ∨ k = 10 ∨ k = 11 ∨ k = 12 ∨ k = 13 ∨ k = 14 ∨ k = 15 ∨ k = 16 ∨ k = 17 ∨ k = 18 ∨ k = 19 ∨ k = 20 ∨ k = 21 ∨ k = 22 ∨ k = 23 ∨ k = 24 ∨ k = 25 ∨ k = 26 ∨ k = 27 ∨ k = 28 ∨ k = 29 ∨ k = 30 ∨ k = 31 ∨ k = 32 ∨ k = 33 ∨ k = 34 ∨ k = 35 ∨ k = 36 ∨ k = 37 ∨ k = 38 ∨ k = 39 ∨ k = 40 ∨ k = 41 ∨ k = 42 ∨ k = 43 ∨ k = 44 ∨ k = 45 ∨ k = 46 ∨ k = 47 ∨ k = 48 ∨ k = 49 ∨ k = 50 ∨ k = 51 by omega) with rfl | rfl | rfl | rfl | rfl | rfl | rfl | rfl | rfl | rfl | rfl | rfl | rfl | rfl | rfl | rfl | rfl | rfl | rfl | rfl | rfl | rfl | rfl | rfl | rfl | rfl | rfl | rfl | rfl | rfl | rfl | rfl | rfl | rfl | rfl | rfl | rfl | rfl | rfl | rfl | rfl | rfl | rfl | rfl | rfl | rfl | rfl | rfl | rfl | rfl | rfl | rfl
  · simp only [jE, h]
  · simp only [jE, h]
  · simp only [jE, h]
  · simp only [jE, h]
  · simp only [jE, h]
  · simp only [jE, h]
  · simp only [jE, h]
  · simp only [jE, h]
  · simp only [jE, h]
  · simp only [jE, h]
  · simp only [jE, h]
  · simp only [jE, h]
  · simp only [jE, h]
  · simp only [jE, h0 rfl]
  · simp only [jE, h]
  · simp only [jE, h]
  · simp only [jE, h]
  · simp only [jE, h]
  · simp only [jE, h]
  · rfl
  · simp only [jE, h]
  · simp only [jE, h]
  · simp only [jE, h]
  · simp only [jE, h]
  · rfl
  · simp only [jE, h]
  · simp only [jE, h]
  · simp only [jE, h]
  · simp only [jE, h]
  · simp only [jE, h]
  · simp only [jE, h]
  · simp only [jE, h]
  · simp only [jE, h]
  · simp only [jE, h, h1 rfl]
  · simp only [jE, h]
  · simp only [jE, h]
  · simp only [jE, h]
  · simp only [jE, h]
  · simp only [jE, h]
  · simp only [jE, h]
  · simp only [jE, h]
  · simp only [jE, h]
  · simp only [jE, h]
  · simp only [jE, h]
  · simp only [jE, h]
  · simp only [jE, h]
  · simp only [jE, h]
  · simp only [jE, h]
  · simp only [jE, h]
  · simp only [jE, h]
  · simp only [jE, h]
  · simp only [jE, h2 rfl]
/-- a number is written -/
theorem jW_u {d a : Nat → Nat} {n : Nat → Nat → Nat} {g : Nat → Nat} (i j v : Nat) {e : va_E} (h : jE d a (ku n i j v) g i = e) : (jW d a n g).set i (a i, e) = jW d a (ku n i j v) g :=
  jW_s i h (fun k hk hi => jE_n k hk (ku_row hi) (fun _ => rfl) (fun _ => rfl) (fun _ => rfl))
theorem jW_l {d a : Nat → Nat} {n : Nat → Nat → Nat} {g : Nat → Nat} (i j v : Nat) (hij : (i = 13 ∧ j = 0) ∨ (i = 33 ∧ j = 1) ∨ (i = 51 ∧ j = 2)) {e : va_E} (h : jE d a n (kg g j v) i = e) : (jW d a n g).set i (a i, e) = jW d a n (kg g j v) :=
  jW_s i h (fun k hk hi => jE_n k hk rfl (fun z => kg_n (by omega)) (fun z => kg_n (by omega)) (fun z => kg_n (by omega)))
theorem ku_fun (n : Nat → Nat → Nat) (i j v : Nat) : (fun y => nI (ku n i j v i y)) = upd (fun y => nI (n i y)) j (nI v) := by
  funext y
  by_cases h : y = j
  · subst h; simp [ku, upd]
  · simp [ku, upd, h]
/-- where the rows of ints lie, and how long they are -/
def jI : Nat → Nat
  | 3 => 128
  | 4 => 128
  | 5 => 128
  | 6 => 128
  | 9 => 128
  | 10 => 128
  | 11 => 128
  | 12 => 128
  | 16 => 16
  | 17 => 16
  | 18 => 16
  | 20 => 128
  | 21 => 128
  | 22 => 128
  | 23 => 128
  | 25 => 128
  | 26 => 128
  | 27 => 128
  | 28 => 128
  | 29 => 512
  | 30 => 128
  | 31 => 128
  | 32 => 256
  | 35 => 256
  | 36 => 256
  | 38 => 256
  | 39 => 128
  | 41 => 512
  | 42 => 700
  | 43 => 700
  | 44 => 700
  | 45 => 700
  | 47 => 17
  | 48 => 17
  | 49 => 256
  | 50 => 256
  | _ => 0
def jZ : Nat → Nat
  | 2 => 128
  | 8 => 128
  | 34 => 256
  | 37 => 128
  | 40 => 128
  | 46 => 17
  | _ => 0
theorem jE_I {d a : Nat → Nat} {n : Nat → Nat → Nat} {g : Nat → Nat} : ∀ i, i < 52 → 0 < jI i → jE d a n g i = .inl (d 0, jI i, .inl (fun j => nI (n i j))) := by
  intro i hi h
  rcases (show i = 0 ∨ i = 1 ∨ i = 2 ∨ i = 3 ∨ i = 4 ∨ i = 5 ∨ i = 6 ∨ i = 7 ∨ i = 8 ∨ i = 9 ∨ i = 10 ∨ i = 11 ∨ i = 12 ∨ i = 13 ∨ i = 14 ∨ i = 15 ∨ i = 16 ∨ i = 17 ∨ i = 18 ∨ i = 19 ∨ i = 20 ∨ i = 21 ∨ i = 22 ∨ i = 23 ∨ i = 24 ∨ i = 25 ∨ i = 26 ∨ i = 27 ∨ i = 28 ∨ i = 29 ∨ i = 30 ∨ i = 31 ∨ i = 32 ∨ i = 33 ∨ i = 34 ∨ i = 35 ∨ i = 36 ∨ i = 37 ∨ i = 38 ∨ i = 39 ∨ i = 40 ∨ i = 41 ∨ i = 42 ∨ i = 43 ∨ i = 44 ∨ i = 45 ∨ i = 46 ∨ i = 47 ∨ i = 48 ∨ i = 49 ∨ i = 50 ∨ i = 51 by omega) with rfl | rfl | rfl | rfl | rfl | rfl | rfl | rfl | rfl | rfl | rfl | rfl | rfl | rfl | rfl | rfl | rfl | rfl | rfl | rfl | rfl | rfl | rfl | rfl | rfl | rfl | rfl | rfl | rfl | rfl | rfl | rfl | rfl | rfl | rfl | rfl | rfl | rfl | rfl | rfl | rfl | rfl | rfl | rfl | rfl | rfl | rfl | rfl | rfl | rfl | rfl | rfl <;> first | rfl | exact absurd h (by decide)
theorem jE_Z {d a : Nat → Nat} {n : Nat → Nat → Nat} {g : Nat → Nat} : ∀ i, i < 52 → 0 < jZ i → jE d a n g i = .inl (d 1, jZ i, .inl (fun j => nI (n i j))) := by
  intro i hi h
  rcases (show i = 0 ∨ i = 1 ∨ i = 2 ∨ i = 3 ∨ i = 4 ∨ i = 5 ∨ i = 6 ∨ i = 7 ∨ i = 8 ∨ i = 9 ∨ i = 10 ∨ i = 11 ∨ i = 12 ∨ i = 13 ∨ i = 14 ∨ i = 15 ∨ i = 16 ∨ i = 17 ∨ i = 18 ∨ i = 19 ∨ i = 20 ∨ i = 21 ∨ i = 22 ∨ i = 23 ∨ i = 24 ∨ i = 25 ∨ i = 26 ∨ i = 27 ∨ i = 28 ∨ i = 29 ∨ i = 30 ∨ i = 31 ∨ i = 32 ∨ i = 33 ∨ i = 34 ∨ i = 35 ∨ i = 36 ∨ i = 37 ∨ i = 38 ∨ i = 39 ∨ i = 40 ∨ i = 41 ∨ i = 42 ∨ i = 43 ∨ i = 44 ∨ i = 45 ∨ i = 46 ∨ i = 47 ∨ i = 48 ∨ i = 49 ∨ i = 50 ∨ i = 51 by omega) with rfl | rfl | rfl | rfl | rfl | rfl | rfl | rfl | rfl | rfl | rfl | rfl | rfl | rfl | rfl | rfl | rfl | rfl | rfl | rfl | rfl | rfl | rfl | rfl | rfl | rfl | rfl | rfl | rfl | rfl | rfl | rfl | rfl | rfl | rfl | rfl | rfl | rfl | rfl | rfl | rfl | rfl | rfl | rfl | rfl | rfl | rfl | rfl | rfl | rfl | rfl | rfl <;> first | rfl | exact absurd h (by decide)
end
section
/-! what every method is told, and the rows over the world. Printed by wip/gen/gen09.py -/
def jN : List Cond := [Cond.methodLinkNest "KeyDistiller" 9 ⟨"KeyDistiller$Station", "<init>", "()V"⟩ "KeyDistiller", Cond.fieldLinkNest "KeyDistiller" 230 "KeyDistiller$Station" "noted" "[Z" "KeyDistiller", Cond.fieldLinkNest "KeyDistiller" 237 "KeyDistiller$Station" "bases" "[I" "KeyDistiller", Cond.fieldLinkNest "KeyDistiller" 92 "KeyDistiller$Station" "values" "[I" "KeyDistiller", Cond.fieldLinkNest "KeyDistiller" 234 "KeyDistiller$Station" "seen" "[I" "KeyDistiller", Cond.fieldLinkNest "KeyDistiller" 89 "KeyDistiller$Station" "string" "[I" "KeyDistiller", Cond.fieldLinkNest "KeyDistiller$Dialogue" 145 "KeyDistiller$Station" "string" "[I" "KeyDistiller", Cond.fieldLinkNest "KeyDistiller" 81 "KeyDistiller$Station" "notedInAll" "I" "KeyDistiller", Cond.methodLinkNest "KeyDistiller" 21 ⟨"KeyDistiller$Drawing", "<init>", "()V"⟩ "KeyDistiller", Cond.methodLinkNest "KeyDistiller" 28 ⟨"KeyDistiller$Dialogue", "<init>", "(LKeyDistiller$Station;LKeyDistiller$Station;)V"⟩ "KeyDistiller", Cond.methodLinkNest "KeyDistiller$Dialogue" 11 ⟨"KeyDistiller$Letters", "<init>", "()V"⟩ "KeyDistiller", Cond.fieldLinkNest "KeyDistiller$Dialogue" 59 "KeyDistiller$Letters" "kinds" "[I" "KeyDistiller", Cond.fieldLinkNest "KeyDistiller" 161 "KeyDistiller$Letters" "kinds" "[I" "KeyDistiller", Cond.fieldLinkNest "KeyDistiller$Dialogue" 56 "KeyDistiller$Letters" "numbers" "[I" "KeyDistiller", Cond.fieldLinkNest "KeyDistiller" 164 "KeyDistiller$Letters" "numbers" "[I" "KeyDistiller", Cond.fieldLinkNest "KeyDistiller$Dialogue" 66 "KeyDistiller$Letters" "parities" "[I" "KeyDistiller", Cond.fieldLinkNest "KeyDistiller" 167 "KeyDistiller$Letters" "parities" "[I" "KeyDistiller", Cond.fieldLinkNest "KeyDistiller" 137 "KeyDistiller$Letters" "count" "I" "KeyDistiller", Cond.fieldLinkNest "KeyDistiller" 133 "KeyDistiller$Dialogue" "letters" "LKeyDistiller$Letters;" "KeyDistiller", Cond.fieldLinkNest "KeyDistiller" 125 "KeyDistiller$Dialogue" "orders" "[[I" "KeyDistiller", Cond.fieldLinkNest "KeyDistiller" 192 "KeyDistiller$Dialogue" "questions" "[I" "KeyDistiller", Cond.fieldLinkNest "KeyDistiller" 189 "KeyDistiller$Dialogue" "disclosures" "I" "KeyDistiller", Cond.fieldLinkNest "KeyDistiller" 186 "KeyDistiller$Dialogue" "current" "I" "KeyDistiller", Cond.methodLinkNest "KeyDistiller" 144 ⟨"KeyDistiller$Letters", "has", "(I)Z"⟩ "KeyDistiller", Cond.methodLinkNest "KeyDistiller" 174 ⟨"KeyDistiller$Dialogue", "tell", "(II)I"⟩ "KeyDistiller", Cond.methodLinkNest "KeyDistiller" 183 ⟨"KeyDistiller$Dialogue", "isOver", "()Z"⟩ "KeyDistiller", Cond.methodLinkNest "KeyDistiller" 68 ⟨"KeyDistiller$Station", "hasAnyOf", "(II)Z"⟩ "KeyDistiller", Cond.methodLinkNest "KeyDistiller" 77 ⟨"KeyDistiller$Station", "note", "(IIIII)V"⟩ "KeyDistiller", Cond.methodLinkNest "KeyDistiller" 95 ⟨"KeyDistiller$Dialogue", "isBegun", "()Z"⟩ "KeyDistiller", Cond.methodLinkNest "KeyDistiller" 102 ⟨"KeyDistiller$Drawing", "shuffle", "(JI[I)V"⟩ "KeyDistiller", Cond.methodLinkNest "KeyDistiller" 112 ⟨"KeyDistiller$Station", "leaveOut", "([II)V"⟩ "KeyDistiller", Cond.methodLinkNest "KeyDistiller" 129 ⟨"KeyDistiller$Dialogue", "begin", "(II)V"⟩ "KeyDistiller", Cond.methodLinkNest "KeyDistiller$Dialogue" 107 ⟨"KeyDistiller$Letters", "send", "(III)V"⟩ "KeyDistiller", Cond.methodLinkNest "KeyDistiller$Dialogue" 101 ⟨"KeyDistiller$Station", "parity", "([III)I"⟩ "KeyDistiller", Cond.methodLinkNest "KeyDistiller" 154 ⟨"KeyDistiller$Dialogue", "deliver", "(I)V"⟩ "KeyDistiller", Cond.methodLinkNest "KeyDistiller$Dialogue" 75 ⟨"KeyDistiller$Letters", "takeOut", "(I)V"⟩ "KeyDistiller", Cond.methodLinkNest "KeyDistiller" 158 ⟨"KeyDistiller$Letters", "takeOut", "(I)V"⟩ "KeyDistiller", Cond.methodLinkNest "KeyDistiller" 170 ⟨"KeyDistiller$Letters", "send", "(III)V"⟩ "KeyDistiller", Cond.methodLinkNest "KeyDistiller" 180 ⟨"KeyDistiller$Dialogue", "askAgain", "()V"⟩ "KeyDistiller", Cond.methodLinkNest "KeyDistiller" 206 ⟨"KeyDistiller$Station", "tagWith", "(II)I"⟩ "KeyDistiller", Cond.methodLinkNest "KeyDistiller" 218 ⟨"KeyDistiller$Drawing", "restart", "(J)V"⟩ "KeyDistiller", Cond.methodLinkNest "KeyDistiller" 222 ⟨"KeyDistiller$Drawing", "drawBit", "()I"⟩ "KeyDistiller"]
def jIsN : Cond → Bool
  | .fieldLinkNest .. => true
  | .methodLinkNest .. => true
  | _ => false
theorem jN_all : ∀ w ∈ jN, jIsN w = true := by decide +kernel
theorem jN_on : ∀ w ∈ jN, w.onTables = true := by decide +kernel
/-- the tables' facts that a method is told -/
def jC (d : Nat → Nat) (D : va_G) (U : State) : Prop := va_K D jCl (jTy d) U ∧ ∀ w ∈ jN, va_Nw w U
theorem jC.warm {d : Nat → Nat} {D : va_G} {s U : State} (hW : s.WarmedH U.vm) (h : jC d D s) : jC d D U :=
  ⟨va_K.moved hW.alike h.1, fun w hw => by
    have h1 := jN_all w hw
    have h2 := h.2 w hw
    cases w <;> first | exact va_Nw.warmF hW h2 | exact va_Nw.warmM hW h2 | exact absurd h1 (by simp [jIsN])⟩
theorem jC.same {d : Nat → Nat} {D : va_G} {u U : State} (hv : u.vm = U.vm) (h : jC d D u) : jC d D U :=
  ⟨va_K.moved (by rw [hv]; exact Vm.Alike.refl _) h.1, fun w hw => va_Nw.same (jN_on w hw) hv (h.2 w hw)⟩
def jU (d : Nat → Nat) (D : va_G) (a : Nat → Nat) (n : Nat → Nat → Nat) (g : Nat → Nat) (U : State) : Prop := jC d D U ∧ va_P D jCl (jW d a n g) U.heap
theorem jU_b {d : Nat → Nat} {D : va_G} {a : Nat → Nat} {n : Nat → Nat → Nat} {g : Nat → Nat} {av : List Value} : FrameBlind (va_Pc av (jU d D a n g)) := by
  intro A U f mk h
  exact ⟨h.1, jC.same (u := U) (U := U.calling f mk A) rfl h.2.1, h.2.2⟩
theorem jU_bs {d : Nat → Nat} {D : va_G} {a : Nat → Nat} {n : Nat → Nat → Nat} {g : Nat → Nat} {av : List Value} {sz : Nat} : FrameBlind (va_Pc av (fun U => U.heap.size = sz ∧ jU d D a n g U)) := by
  intro A U f mk h
  exact ⟨h.1, h.2.1, jC.same (u := U) (U := U.calling f mk A) rfl h.2.2.1, h.2.2.2⟩
/-- a pure method: it answers v, the heap stays -/
def jQ (v : Option Value) : Array Value → State → Outcome → State → Prop := fun _ st oc t => oc = .returned v ∧ t.heap = st.heap
abbrev jPure (l : Launch) (d : Nat → Nat) (D : va_G) (a : Nat → Nat) (n : Nat → Nat → Nat) (g : Nat → Nat) (y : MethodName) (b : ByteArray) (mx : Nat) (ret : Option FieldType) (rm : Room) (av : List Value) (v : Option Value) : Prop :=
  Met l y (.code y b mx ret :: jT) rm (va_Pc av (jU d D a n g)) (jQ v) 0 0 (fun _ => False)
def jAa (a : Nat → Nat) (sz : Nat) : Nat → Prop := fun q => (∃ i, i < 52 ∧ q = a i) ∨ sz ≤ q
theorem jAa.mono {a : Nat → Nat} {x y q : Nat} (h : x ≤ y) (hq : jAa a y q) : jAa a x q := hq.elim Or.inl (fun z => Or.inr (Nat.le_trans h z))
/-- a method that changes the world's numbers -/
def jQE (post : Option Value → (Nat → Nat → Nat) → (Nat → Nat) → Prop) (d : Nat → Nat) (D : va_G) (a : Nat → Nat) (sz : Nat) : Array Value → State → Outcome → State → Prop := fun _ st oc t =>
  (∃ (v : Option Value) (n2 : Nat → Nat → Nat) (g2 : Nat → Nat), oc = .returned v ∧ post v n2 g2 ∧ va_P D jCl (jW d a n2 g2) t.heap) ∧ va_F (jAa a sz) st t
abbrev jEff (l : Launch) (d : Nat → Nat) (D : va_G) (a : Nat → Nat) (n : Nat → Nat → Nat) (g : Nat → Nat) (y : MethodName) (b : ByteArray) (mx : Nat) (ret : Option FieldType) (rm : Room) (av : List Value) (post : Option Value → (Nat → Nat → Nat) → (Nat → Nat) → Prop) : Prop :=
  ∀ sz : Nat, Met l y (.code y b mx ret :: jT) rm (va_Pc av (fun U => U.heap.size = sz ∧ jU d D a n g U)) (jQE post d D a sz) 0 0 (jAa a sz)
/-- what a walk knows all along -/
def jX (p : Program) (s : State) (m : MethodId) (args : Array Value) (meth : Method) (c : Code) (b : ByteArray) (mx : Nat) (ret : Option FieldType) (own : String) (d : Nat → Nat) (D : va_G) : Prop :=
  p.tables.exec = Jvm.exec ∧ c.code = b ∧ c.maxLocals = mx ∧ meth.sig.returnType = ret ∧ meth.locks = false ∧ s.vm.findClass own = some m.cls ∧ (∀ w ∈ jT, w.before args s = true) ∧ jC d D s
theorem j_pure {l : Launch} {d : Nat → Nat} {D : va_G} {a : Nat → Nat} {n : Nat → Nat → Nat} {g : Nat → Nat} {y : MethodName} {b : ByteArray} {mx : Nat} {ret : Option FieldType} {rm : Room} {av : List Value} {v : Option Value} (hy : plainName y.cls = true) (hle : (lg_sl av).length ≤ mx)
    (body : ∀ (p : Program) (e : Env) (s : State) (m : MethodId) (below : List Frame) (meth : Method) (c : Code) (ls : Array Slot), jX p s m av.toArray meth c b mx ret y.cls d D → va_P D jCl (jW d a n g) s.heap → lv_has ls mx (lv_args 0 av) →
      W p l e rm s m av.toArray below meth c s.heap [] 0 0 (MQ below (jQ v) av.toArray s 0 0 (fun _ => False)) (F0 m 0 ls [])) : jPure l d D a n g y b mx ret rm av v := by
  refine Met.ofW (cc := b) (maxL := mx) (ret := ret) hy rfl ?_
  intro p e s m args below meth c s₁ B hml hv
  obtain ⟨rfl, hC, hP⟩ := hv
  have hts := atoms_spec (ws := (Cond.code y b mx ret :: jT)) B.pre
  rw [lg_entry_eq]
  exact body p e s m below meth c _ ⟨B.exec, B.bytes, hml, B.returns, B.notSynchronized, findClass_of_methodNamed B.named, fun w h => hts w (List.mem_cons_of_mem _ h), hC⟩ hP (lv_entry av hle)
theorem j_eff {l : Launch} {d : Nat → Nat} {D : va_G} {a : Nat → Nat} {n : Nat → Nat → Nat} {g : Nat → Nat} {y : MethodName} {b : ByteArray} {mx : Nat} {ret : Option FieldType} {rm : Room} {av : List Value} {post : Option Value → (Nat → Nat → Nat) → (Nat → Nat) → Prop} (hy : plainName y.cls = true) (hle : (lg_sl av).length ≤ mx)
    (body : ∀ (p : Program) (e : Env) (s : State) (m : MethodId) (below : List Frame) (meth : Method) (c : Code) (ls : Array Slot), jX p s m av.toArray meth c b mx ret y.cls d D → va_P D jCl (jW d a n g) s.heap → lv_has ls mx (lv_args 0 av) →
      W p l e rm s m av.toArray below meth c s.heap [] 0 0 (MQ below (jQE post d D a s.heap.size) av.toArray s 0 0 (jAa a s.heap.size)) (F0 m 0 ls [])) : jEff l d D a n g y b mx ret rm av post := by
  intro sz
  refine Met.ofW (cc := b) (maxL := mx) (ret := ret) hy rfl ?_
  intro p e s m args below meth c s₁ B hml hv
  obtain ⟨rfl, rfl, hC, hP⟩ := hv
  have hts := atoms_spec (ws := (Cond.code y b mx ret :: jT)) B.pre
  rw [lg_entry_eq]
  exact body p e s m below meth c _ ⟨B.exec, B.bytes, hml, B.returns, B.notSynchronized, findClass_of_methodNamed B.named, fun w h => hts w (List.mem_cons_of_mem _ h), hC⟩ hP (lv_entry av hle)
theorem jD {d a : Nat → Nat} {n : Nat → Nat → Nat} {g : Nat → Nat} {sz : Nat} (hap : ∀ i j : Nat, i < 52 → j < 52 → a i = a j → i = j) : va_D (jAa a sz) (jW d a n g) := by
  have key : ∀ (k : Nat) (q : Nat × va_E), (jW d a n g)[k]? = some q → k < 52 ∧ q.1 = a k := by
    intro k q h
    have hk : k < 52 := by
      have := (List.getElem?_eq_some_iff.mp h).1
      simpa [jW] using this
    rw [jW_g k hk] at h
    cases h
    exact ⟨hk, rfl⟩
  refine ⟨fun i j x y hi hj hxy => ?_, fun k q hk => ?_⟩
  · obtain ⟨h1, e1⟩ := key i x hi
    obtain ⟨h2, e2⟩ := key j y hj
    exact hap i j h1 h2 (by rw [← e1, ← e2]; exact hxy)
  · obtain ⟨h1, e1⟩ := key k q hk
    exact Or.inl ⟨k, h1, e1⟩
theorem jnar {x : Nat} (h : x < 2) : vp_nar .boolean (nI x) = nI x := by
  rcases (show x = 0 ∨ x = 1 by omega) with rfl | rfl <;> decide
section J9
variable {p : Program} {l : Launch} {e : Env} {R : Room} {s : State} {m : MethodId} {args : Array Value} {below : List Frame} {meth : Method} {c : Code} {H : Heap} {locs : List Loc} {cells slots : Nat} {Q : State → Prop}
variable {cc : ByteArray} {pc : Nat} {ls : Array Slot} {rest : List Value} {d : Nat → Nat} {D : va_G} {a : Nat → Nat} {n : Nat → Nat → Nat} {g : Nat → Nat} {mx : Nat} {ret : Option FieldType} {own : String} {H0 : Heap}
theorem j_ald (X : jX p s m args meth c cc mx ret own d D) (hP : va_P D jCl (jW d a n g) H) (i k : Nat) (hi : i < 52) (h : k < jI i) (hj : jI i < 1000) (hdg : decode cc pc = .ok (.iaload, 1))
    (kk : W p l e R s m args below meth c H locs cells slots Q (F0 m (pc + 1) ls (.int (nI (n i k)) :: rest))) : W p l e R s m args below meth c H locs cells slots Q (F0 m pc ls (.int (nI k) :: .ref (a i) :: rest)) := by
  have hh := va_iald (rest := rest) (Q := Q) (l := l) (e := e) (R := R) (m := m) (args := args) (below := below) (meth := meth) (locs := locs) (cells := cells) (slots := slots) (pc := pc) (ls := ls) X.1 X.2.1 X.2.2.2.2.2.2.2.1 hP i 0 (by rw [jW_g i hi, jE_I i hi (by omega)]) rfl (i := nI k) (vp_in_nI h (by omega)) hdg
  rw [nI_clamp (by omega)] at hh
  exact hh kk
theorem j_zald (X : jX p s m args meth c cc mx ret own d D) (hP : va_P D jCl (jW d a n g) H) (i k : Nat) (hi : i < 52) (h : k < jZ i) (hj : jZ i < 1000) (hdg : decode cc pc = .ok (.baload, 1))
    (kk : W p l e R s m args below meth c H locs cells slots Q (F0 m (pc + 1) ls (.int (nI (n i k)) :: rest))) : W p l e R s m args below meth c H locs cells slots Q (F0 m pc ls (.int (nI k) :: .ref (a i) :: rest)) := by
  have hh := va_zald (rest := rest) (Q := Q) (l := l) (e := e) (R := R) (m := m) (args := args) (below := below) (meth := meth) (locs := locs) (cells := cells) (slots := slots) (pc := pc) (ls := ls) X.1 X.2.1 X.2.2.2.2.2.2.2.1 hP i 1 (by rw [jW_g i hi, jE_Z i hi (by omega)]) rfl (i := nI k) (vp_in_nI h (by omega)) hdg
  rw [nI_clamp (by omega)] at hh
  exact hh kk
theorem j_ast (X : jX p s m args meth c cc mx ret own d D) (hap : ∀ i j : Nat, i < 52 → j < 52 → a i = a j → i = j) (hP : va_P D jCl (jW d a n g) H) (hS : va_S (jAa a H0.size) H0 H locs) (i k x : Nat) (hi : i < 52) (h : k < jI i) (hj : jI i < 1000) (hdg : decode cc pc = .ok (.iastore, 1))
    (kk : ∀ (H1 : Heap) (locs1 : List Loc), va_P D jCl (jW d a (ku n i k x) g) H1 → va_S (jAa a H0.size) H0 H1 locs1 → W p l e R s m args below meth c H1 locs1 cells slots Q (F0 m (pc + 1) ls rest)) : W p l e R s m args below meth c H locs cells slots Q (F0 m pc ls (.int (nI x) :: .int (nI k) :: .ref (a i) :: rest)) := by
  refine va_iast X.1 X.2.1 X.2.2.2.2.2.2.2.1 hP (jD hap) hS i 0 (by rw [jW_g i hi, jE_I i hi (by omega)]) rfl (i := nI k) (vp_in_nI h (by omega)) hdg (fun H1 locs1 h1 _ h3 => kk H1 locs1 ?_ h3)
  rw [nI_clamp (by omega), jW_u i k x (by rw [jE_I i hi (by omega), ku_fun])] at h1
  exact h1
theorem j_zast (X : jX p s m args meth c cc mx ret own d D) (hap : ∀ i j : Nat, i < 52 → j < 52 → a i = a j → i = j) (hP : va_P D jCl (jW d a n g) H) (hS : va_S (jAa a H0.size) H0 H locs) (i k x : Nat) (hi : i < 52) (h : k < jZ i) (hj : jZ i < 1000) (hx2 : x < 2) (hdg : decode cc pc = .ok (.bastore, 1))
    (kk : ∀ (H1 : Heap) (locs1 : List Loc), va_P D jCl (jW d a (ku n i k x) g) H1 → va_S (jAa a H0.size) H0 H1 locs1 → W p l e R s m args below meth c H1 locs1 cells slots Q (F0 m (pc + 1) ls rest)) : W p l e R s m args below meth c H locs cells slots Q (F0 m pc ls (.int (nI x) :: .int (nI k) :: .ref (a i) :: rest)) := by
  refine va_zast X.1 X.2.1 X.2.2.2.2.2.2.2.1 hP (jD hap) hS i 1 (by rw [jW_g i hi, jE_Z i hi (by omega)]) rfl (i := nI k) (vp_in_nI h (by omega)) hdg (fun H1 locs1 h1 _ h3 => kk H1 locs1 ?_ h3)
  rw [nI_clamp (by omega), jnar hx2, jW_u i k x (by rw [jE_Z i hi (by omega), ku_fun])] at h1
  exact h1
theorem j_get (X : jX p s m args meth c cc mx ret own d D) (hP : va_P D jCl (jW d a n g) H) {C : String} {T : u_T} {N ci index : Nat} (i k : Nat) (hi : i < 52) {fs : List Value} (hE : jE d a n g i = .inr (ci, fs)) (hc : jCl[ci]? = some (C, T, N)) (hin : ∀ w ∈ u_ws C T N, w ∈ jT) (hk : k < N) (hl : Cond.fieldLink own index (T k).1 (T k).2.1 (T k).2.2.1 ∈ jT) {v : Value} (hv : fs[k]? = some v) (hdg : decode cc pc = .ok (.getfield index, 3))
    (kk : W p l e R s m args below meth c H locs cells slots Q (F0 m (pc + 3) ls (v :: rest))) : W p l e R s m args below meth c H locs cells slots Q (F0 m pc ls (.ref (a i) :: rest)) :=
  va_get X.1 X.2.1 X.2.2.2.2.2.2.1 hin X.2.2.2.2.2.1 X.2.2.2.2.2.2.2.1 hP i (by rw [jW_g i hi, hE]) hc k hk (X.2.2.2.2.2.2.1 _ hl) (fun _ h => h) hv hdg kk
theorem j_getN (X : jX p s m args meth c cc mx ret own d D) (hP : va_P D jCl (jW d a n g) H) {C host : String} {T : u_T} {N ci index : Nat} (i k : Nat) (hi : i < 52) {fs : List Value} (hE : jE d a n g i = .inr (ci, fs)) (hc : jCl[ci]? = some (C, T, N)) (hin : ∀ w ∈ u_ws C T N, w ∈ jT) (hk : k < N) (hl : Cond.fieldLinkNest own index (T k).1 (T k).2.1 (T k).2.2.1 host ∈ jN) {v : Value} (hv : fs[k]? = some v) (hdg : decode cc pc = .ok (.getfield index, 3))
    (kk : W p l e R s m args below meth c H locs cells slots Q (F0 m (pc + 3) ls (v :: rest))) : W p l e R s m args below meth c H locs cells slots Q (F0 m pc ls (.ref (a i) :: rest)) :=
  va_getN X.1 X.2.1 X.2.2.2.2.2.2.1 hin X.2.2.2.2.2.1 X.2.2.2.2.2.2.2.1 hP i (by rw [jW_g i hi, hE]) hc k hk (va_Nw.use rfl (X.2.2.2.2.2.2.2.2 _ hl)) (fun _ h => h) hv hdg kk
theorem j_put (X : jX p s m args meth c cc mx ret own d D) (hap : ∀ i j : Nat, i < 52 → j < 52 → a i = a j → i = j) (hP : va_P D jCl (jW d a n g) H) (hS : va_S (jAa a H0.size) H0 H locs) {C : String} {T : u_T} {N ci index : Nat} (i k : Nat) {n2 : Nat → Nat → Nat} {g2 : Nat → Nat} (hi : i < 52) {fs : List Value} (hE : jE d a n g i = .inr (ci, fs)) {v : Value} (hW : (jW d a n g).set i (a i, .inr (ci, fs.set k v)) = jW d a n2 g2) (hc : jCl[ci]? = some (C, T, N)) (hin : ∀ w ∈ u_ws C T N, w ∈ jT) (ty0 : Nat → FieldType) (hty : ∀ k, k < N → parseFieldDescriptor (T k).2.2.1 = some (ty0 k)) (hnm : ∀ a, a < N → ∀ b, b < N → a ≠ b → (T a).2.1 ≠ (T b).2.1) (hk : k < N) (hl : Cond.fieldLink own index (T k).1 (T k).2.1 (T k).2.2.1 ∈ jT) (hfin : (T k).2.2.2 = false) {ty : FieldType} (hd : parseFieldDescriptor (T k).2.2.1 = some ty) (hn : narrow ty v = v) (hfit : fits ty v = true) (hlen : k < fs.length) (hdg : decode cc pc = .ok (.putfield index, 3))
    (kk : ∀ (H1 : Heap) (locs1 : List Loc), va_P D jCl (jW d a n2 g2) H1 → va_S (jAa a H0.size) H0 H1 locs1 → W p l e R s m args below meth c H1 locs1 cells slots Q (F0 m (pc + 3) ls rest)) : W p l e R s m args below meth c H locs cells slots Q (F0 m pc ls (v :: .ref (a i) :: rest)) :=
  va_put X.1 X.2.1 X.2.2.2.2.2.2.1 hin ty0 hty hnm X.2.2.2.2.2.1 X.2.2.2.2.2.2.2.1 hP (jD hap) hS i (by rw [jW_g i hi, hE]) hc k hk (X.2.2.2.2.2.2.1 _ hl) (fun _ h => h) hfin hd hn hfit hlen hdg (fun H1 locs1 h1 _ h3 => kk H1 locs1 (by rw [← hW]; exact h1) h3)
/-- an int[][]'s row -/
theorem j_aald (X : jX p s m args meth c cc mx ret own d D) (hP : va_P D jCl (jW d a n g) H) (i k : Nat) (hi : i = 19 ∨ i = 24) (h : k < 4) (hdg : decode cc pc = .ok (.aaload, 1))
    (kk : W p l e R s m args below meth c H locs cells slots Q (F0 m (pc + 1) ls (.ref (a (i + 1 + k)) :: rest))) : W p l e R s m args below meth c H locs cells slots Q (F0 m pc ls (.int (nI k) :: .ref (a i) :: rest)) := by
  have hcell : H[a i]? = some (arrV (d 3) 4 (fun j => va_rf (some (a (i + 1 + j))))) := by
    have h1 := hP i (a i, jE d a n g i) (jW_g i (by omega))
    rcases hi with rfl | rfl <;> exact h1
  have hn : k < 4 := h
  refine W.aald (v := .ref (a (i + 1 + k))) X.1 X.2.1 hcell ((X.2.2.2.2.2.2.2.1.2 3 (d 3, .array .int) rfl).1 4 _) rfl (fun q => by cases q) ?_ ?_ rfl rfl hdg kk
  · rw [arrV_size]; exact vp_in_nI hn (by omega)
  · rw [nI_clamp (by omega), arrV_read _ _ hn]; rfl
/-- a call of a pure method -/
theorem j_run {v : Option Value} {st0 : List Value} {av : Array Value} (hr : va_Run p l e R s m args below meth c H locs cells slots 0 0 (F0 m pc ls st0) rest (jQ v av) (fun _ => False))
    (kk : W p l e R s m args below meth c H locs cells slots Q (F0 m (pc + 3) ls (v.toList ++ rest))) : W p l e R s m args below meth c H locs cells slots Q (F0 m pc ls st0) := by
  intro T hT X
  obtain ⟨v', st₀, t, T', L, h0, X', hL, e1, e2, ⟨hv, hh⟩, st⟩ := hr T hT X
  cases hv
  have hL0 : L = [] := List.eq_nil_iff_forall_not_mem.mpr (fun q hq => hL q hq)
  subst hL0
  rw [List.append_nil] at X'
  obtain ⟨t2, a1, b1⟩ := kk T' (by rw [e1, hh, h0]) X'
  exact ⟨t2, st t2 a1, b1⟩
/-- a call of a method that changes numbers -/
theorem j_rune {post : Option Value → (Nat → Nat → Nat) → (Nat → Nat) → Prop} {st0 : List Value} {av : Array Value} (hr : va_Run p l e R s m args below meth c H locs cells slots 0 0 (F0 m pc ls st0) rest (jQE post d D a H.size av) (jAa a H.size)) (hS : va_S (jAa a H0.size) H0 H locs)
    (kk : ∀ (v : Option Value) (n2 : Nat → Nat → Nat) (g2 : Nat → Nat) (H1 : Heap) (locs1 : List Loc), post v n2 g2 → va_P D jCl (jW d a n2 g2) H1 → va_S (jAa a H0.size) H0 H1 locs1 → W p l e R s m args below meth c H1 locs1 cells slots Q (F0 m (pc + 3) ls (v.toList ++ rest))) : W p l e R s m args below meth c H locs cells slots Q (F0 m pc ls st0) := by
  intro T hT X
  obtain ⟨v', st₀, t, T', L, h0, X', hL, e1, e2, ⟨⟨v, n2, g2, hv, hp, hw⟩, hz, hk⟩, st⟩ := hr T hT X
  cases hv
  rw [h0] at hz hk
  obtain ⟨t2, a1, b1⟩ := kk v' n2 g2 T'.heap (locs ++ L) hp (by rw [e1]; exact hw) ⟨Nat.le_trans hS.1 (by rw [e1]; exact hz), fun q h1 h2 => by
      rw [e1, hk q (Nat.lt_of_lt_of_le h1 hS.1) (fun z => h2 (jAa.mono hS.1 z))]
      exact hS.2.1 q h1 h2, fun q hq => by
      rcases List.mem_append.mp hq with h | h
      · exact hS.2.2 q h
      · exact jAa.mono hS.1 (hL q h)⟩ T' rfl X'
  exact ⟨t2, st t2 a1, b1⟩
end J9
end
section
/-! calls over the world; fields by their links. Printed by wip/gen/gen10.py -/
section J10
variable {p : Program} {l : Launch} {e : Env} {R : Room} {s : State} {m : MethodId} {args : Array Value} {below : List Frame} {meth : Method} {c : Code} {H : Heap} {locs : List Loc} {cells slots : Nat} {Q : State → Prop}
variable {cc : ByteArray} {pc : Nat} {ls : Array Slot} {rest : List Value} {d : Nat → Nat} {D : va_G} {a : Nat → Nat} {n : Nat → Nat → Nat} {g : Nat → Nat} {mx : Nat} {ret : Option FieldType} {own : String} {H0 : Heap}
variable {y : MethodName} {bytes : ByteArray} {maxL index i : Nat} {rt : Option FieldType} {rm : Room} {As st0 : List Value} {Pc : Array Value → State → Prop} {Qc : Array Value → State → Outcome → State → Prop} {free : Addr → Prop}
def jOk (y : MethodName) (k : Nat) : Prop := y.cls ≠ "java/lang/invoke/MethodHandle" ∧ y.cls ≠ "java/lang/invoke/VarHandle" ∧ (parseMethodDescriptor y.desc).map (fun d => d.parameters.length) = some k
theorem j_mkV (X : jX p s m args meth c cc mx ret own d D) (hP : va_P D jCl (jW d a n g) H) (hM : Met l y (.code y bytes maxL rt :: jT) rm Pc Qc 0 0 free) (hbl : FrameBlind Pc) (hpre : ∀ U : State, U.heap = H → s.WarmedH U.vm → Pc (Value.ref (a i) :: As).toArray U) (w1 : Cond.code y bytes maxL rt ∈ jT) (w2 : Cond.instanceMethod y ∈ jT) (w3 : Cond.selects y.cls y y ∈ jT) (w4 : Cond.initialized y.cls ∈ jT) (w5 : Cond.methodLink own index y ∈ jT)
    {ci : Nat} {fs : List Value} {T : u_T} {N : Nat} (hi : i < 52) (hE : jE d a n g i = .inr (ci, fs)) (hc : jCl[ci]? = some (y.cls, T, N)) (hd : jOk y As.length) (hR : rm.frames + 1 ≤ R.frames ∧ 8 + (maxL + 11) + rm.locals ≤ R.locals) (hz : rm.cells = 0 ∧ rm.slots = 0) (hls : ls.size = mx) (hst : st0 = As.reverse ++ .ref (a i) :: rest) (hro : (rest.map fun v => v.category).sum ≤ 8) (hcs : cells ≤ R.cells ∧ slots ≤ R.slots) (hdg : decode cc pc = .ok (.invokevirtual index, 3)) :
    va_Run p l e R s m args below meth c H locs cells slots 0 0 (F0 m pc ls st0) rest (Qc (Value.ref (a i) :: As).toArray) free := by
  have hts := X.2.2.2.2.2.2.1
  exact va_runV (Ts := jT) (own := own) (C := y.cls) (n := As.length) (bytes := bytes) (maxL := maxL) (ret := rt) ⟨X.1, X.2.1, X.2.2.1, X.2.2.2.2.2.1, hts⟩ hM ⟨callB_of (Ts := jT) As.length hts (fun w h => by
      rcases List.mem_cons.mp h with rfl | h
      · exact ⟨w1, good_of_word (List.mem_filter.mp w1).2⟩
      · exact ⟨h, good_of_word (List.mem_filter.mp h).2⟩) rfl hz.1 hz.2 (hts _ w4) (hts _ w5) hd hR, hts _ w2, hts _ w3⟩ ⟨hbl, va_recv X.2.2.2.2.2.2.2.1 hP hc (by rw [jW_g i hi, hE]), hpre⟩ rfl rfl hls hst (lv_room hro) hdg hcs
theorem j_mkN {host : String} (X : jX p s m args meth c cc mx ret own d D) (hP : va_P D jCl (jW d a n g) H) (hM : Met l y (.code y bytes maxL rt :: jT) rm Pc Qc 0 0 free) (hbl : FrameBlind Pc) (hpre : ∀ U : State, U.heap = H → s.WarmedH U.vm → Pc (Value.ref (a i) :: As).toArray U) (w1 : Cond.code y bytes maxL rt ∈ jT) (w2 : Cond.instanceMethod y ∈ jT) (w3 : Cond.selects y.cls y y ∈ jT) (w4 : Cond.initialized y.cls ∈ jT) (w5 : Cond.methodLinkNest own index y host ∈ jN)
    {ci : Nat} {fs : List Value} {T : u_T} {N : Nat} (hi : i < 52) (hE : jE d a n g i = .inr (ci, fs)) (hc : jCl[ci]? = some (y.cls, T, N)) (hd : jOk y As.length) (hR : rm.frames + 1 ≤ R.frames ∧ 8 + (maxL + 11) + rm.locals ≤ R.locals) (hz : rm.cells = 0 ∧ rm.slots = 0) (hls : ls.size = mx) (hst : st0 = As.reverse ++ .ref (a i) :: rest) (hro : (rest.map fun v => v.category).sum ≤ 8) (hcs : cells ≤ R.cells ∧ slots ≤ R.slots) (hdg : decode cc pc = .ok (.invokevirtual index, 3)) :
    va_Run p l e R s m args below meth c H locs cells slots 0 0 (F0 m pc ls st0) rest (Qc (Value.ref (a i) :: As).toArray) free := by
  have hts := X.2.2.2.2.2.2.1
  exact va_runVN (Ts := jT) (own := own) (C := y.cls) (n := As.length) (bytes := bytes) (maxL := maxL) (ret := rt) ⟨X.1, X.2.1, X.2.2.1, X.2.2.2.2.2.1, hts⟩ hM ⟨va_cnB (Ts := jT) As.length hts (fun w h => by
      rcases List.mem_cons.mp h with rfl | h
      · exact ⟨w1, good_of_word (List.mem_filter.mp w1).2⟩
      · exact ⟨h, good_of_word (List.mem_filter.mp h).2⟩) rfl hz.1 hz.2 (X.2.2.2.2.2.2.2.2 _ w5) (hts _ w4) hd hR, hts _ w2, hts _ w3⟩ ⟨hbl, va_recv X.2.2.2.2.2.2.2.1 hP hc (by rw [jW_g i hi, hE]), hpre⟩ rfl rfl hls hst (lv_room hro) hdg hcs
theorem j_mkS (X : jX p s m args meth c cc mx ret own d D) (hM : Met l y (.code y bytes maxL rt :: jT) rm Pc Qc 0 0 free) (hbl : FrameBlind Pc) (hpre : ∀ U : State, U.heap = H → s.WarmedH U.vm → Pc As.toArray U) (w1 : Cond.code y bytes maxL rt ∈ jT) (w2 : Cond.static y ∈ jT) (w4 : Cond.initialized y.cls ∈ jT) (w5 : Cond.methodLink own index y ∈ jT)
    (hd : jOk y As.length) (hR : rm.frames + 1 ≤ R.frames ∧ 8 + (maxL + 11) + rm.locals ≤ R.locals) (hz : rm.cells = 0 ∧ rm.slots = 0) (hls : ls.size = mx) (hst : st0 = As.reverse ++ rest) (hro : (rest.map fun v => v.category).sum ≤ 8) (hcs : cells ≤ R.cells ∧ slots ≤ R.slots) (hdg : decode cc pc = .ok (.invokestatic index, 3)) :
    va_Run p l e R s m args below meth c H locs cells slots 0 0 (F0 m pc ls st0) rest (Qc As.toArray) free := by
  have hts := X.2.2.2.2.2.2.1
  exact va_runS (Ts := jT) (own := own) (n := As.length) (bytes := bytes) (maxL := maxL) (ret := rt) ⟨X.1, X.2.1, X.2.2.1, X.2.2.2.2.2.1, hts⟩ hM ⟨callB_of (Ts := jT) As.length hts (fun w h => by
      rcases List.mem_cons.mp h with rfl | h
      · exact ⟨w1, good_of_word (List.mem_filter.mp w1).2⟩
      · exact ⟨h, good_of_word (List.mem_filter.mp h).2⟩) rfl hz.1 hz.2 (hts _ w4) (hts _ w5) hd hR, hts _ w2⟩ ⟨hbl, hpre⟩ rfl rfl hls hst (lv_room hro) hdg hcs
theorem j_pp (X : jX p s m args meth c cc mx ret own d D) (hP : va_P D jCl (jW d a n g) H) {av : List Value} : ∀ U : State, U.heap = H → s.WarmedH U.vm → va_Pc av (jU d D a n g) av.toArray U := fun U hU hW => ⟨rfl, jC.warm hW X.2.2.2.2.2.2.2, by rw [hU]; exact hP⟩
theorem j_pe (X : jX p s m args meth c cc mx ret own d D) (hP : va_P D jCl (jW d a n g) H) {av : List Value} : ∀ U : State, U.heap = H → s.WarmedH U.vm → va_Pc av (fun U => U.heap.size = H.size ∧ jU d D a n g U) av.toArray U := fun U hU hW => ⟨rfl, by rw [hU], jC.warm hW X.2.2.2.2.2.2.2, by rw [hU]; exact hP⟩
theorem jnz {x : Nat} (h : x < 2) : narrow .boolean (.int (nI x)) = .int (nI x) := by
  rcases (show x = 0 ∨ x = 1 by omega) with rfl | rfl <;> decide
theorem jfz {x : Nat} (h : x < 2) : fits .boolean (.int (nI x)) = true := by
  rcases (show x = 0 ∨ x = 1 by omega) with rfl | rfl <;> decide

theorem jg_S_9_1 (X : jX p s m args meth c cc mx ret "KeyDistiller$Station" d D) (hP : va_P D jCl (jW d a n g) H) (hdg : decode cc pc = .ok (.getfield 9, 3)) (kk : W p l e R s m args below meth c H locs cells slots Q (F0 m (pc + 3) ls (.ref (a 2) :: rest))) : W p l e R s m args below meth c H locs cells slots Q (F0 m pc ls (.ref (a 1) :: rest)) := j_get X hP 1 0 (by decide) rfl rfl ju_S (by decide) jm_30 rfl hdg kk
theorem jg_S_9_7 (X : jX p s m args meth c cc mx ret "KeyDistiller$Station" d D) (hP : va_P D jCl (jW d a n g) H) (hdg : decode cc pc = .ok (.getfield 9, 3)) (kk : W p l e R s m args below meth c H locs cells slots Q (F0 m (pc + 3) ls (.ref (a 8) :: rest))) : W p l e R s m args below meth c H locs cells slots Q (F0 m pc ls (.ref (a 7) :: rest)) := j_get X hP 7 0 (by decide) rfl rfl ju_S (by decide) jm_30 rfl hdg kk
theorem jg_K_230_1 (X : jX p s m args meth c cc mx ret "KeyDistiller" d D) (hP : va_P D jCl (jW d a n g) H) (hdg : decode cc pc = .ok (.getfield 230, 3)) (kk : W p l e R s m args below meth c H locs cells slots Q (F0 m (pc + 3) ls (.ref (a 2) :: rest))) : W p l e R s m args below meth c H locs cells slots Q (F0 m pc ls (.ref (a 1) :: rest)) := j_getN (host := "KeyDistiller") X hP 1 0 (by decide) rfl rfl ju_S (by decide) (by decide +kernel) rfl hdg kk
theorem jg_K_230_7 (X : jX p s m args meth c cc mx ret "KeyDistiller" d D) (hP : va_P D jCl (jW d a n g) H) (hdg : decode cc pc = .ok (.getfield 230, 3)) (kk : W p l e R s m args below meth c H locs cells slots Q (F0 m (pc + 3) ls (.ref (a 8) :: rest))) : W p l e R s m args below meth c H locs cells slots Q (F0 m pc ls (.ref (a 7) :: rest)) := j_getN (host := "KeyDistiller") X hP 7 0 (by decide) rfl rfl ju_S (by decide) (by decide +kernel) rfl hdg kk
theorem jg_S_15_1 (X : jX p s m args meth c cc mx ret "KeyDistiller$Station" d D) (hP : va_P D jCl (jW d a n g) H) (hdg : decode cc pc = .ok (.getfield 15, 3)) (kk : W p l e R s m args below meth c H locs cells slots Q (F0 m (pc + 3) ls (.ref (a 3) :: rest))) : W p l e R s m args below meth c H locs cells slots Q (F0 m pc ls (.ref (a 1) :: rest)) := j_get X hP 1 1 (by decide) rfl rfl ju_S (by decide) jm_32 rfl hdg kk
theorem jg_S_15_7 (X : jX p s m args meth c cc mx ret "KeyDistiller$Station" d D) (hP : va_P D jCl (jW d a n g) H) (hdg : decode cc pc = .ok (.getfield 15, 3)) (kk : W p l e R s m args below meth c H locs cells slots Q (F0 m (pc + 3) ls (.ref (a 9) :: rest))) : W p l e R s m args below meth c H locs cells slots Q (F0 m pc ls (.ref (a 7) :: rest)) := j_get X hP 7 1 (by decide) rfl rfl ju_S (by decide) jm_32 rfl hdg kk
theorem jg_K_237_1 (X : jX p s m args meth c cc mx ret "KeyDistiller" d D) (hP : va_P D jCl (jW d a n g) H) (hdg : decode cc pc = .ok (.getfield 237, 3)) (kk : W p l e R s m args below meth c H locs cells slots Q (F0 m (pc + 3) ls (.ref (a 3) :: rest))) : W p l e R s m args below meth c H locs cells slots Q (F0 m pc ls (.ref (a 1) :: rest)) := j_getN (host := "KeyDistiller") X hP 1 1 (by decide) rfl rfl ju_S (by decide) (by decide +kernel) rfl hdg kk
theorem jg_K_237_7 (X : jX p s m args meth c cc mx ret "KeyDistiller" d D) (hP : va_P D jCl (jW d a n g) H) (hdg : decode cc pc = .ok (.getfield 237, 3)) (kk : W p l e R s m args below meth c H locs cells slots Q (F0 m (pc + 3) ls (.ref (a 9) :: rest))) : W p l e R s m args below meth c H locs cells slots Q (F0 m pc ls (.ref (a 7) :: rest)) := j_getN (host := "KeyDistiller") X hP 7 1 (by decide) rfl rfl ju_S (by decide) (by decide +kernel) rfl hdg kk
theorem jg_S_19_1 (X : jX p s m args meth c cc mx ret "KeyDistiller$Station" d D) (hP : va_P D jCl (jW d a n g) H) (hdg : decode cc pc = .ok (.getfield 19, 3)) (kk : W p l e R s m args below meth c H locs cells slots Q (F0 m (pc + 3) ls (.ref (a 4) :: rest))) : W p l e R s m args below meth c H locs cells slots Q (F0 m pc ls (.ref (a 1) :: rest)) := j_get X hP 1 2 (by decide) rfl rfl ju_S (by decide) jm_34 rfl hdg kk
theorem jg_S_19_7 (X : jX p s m args meth c cc mx ret "KeyDistiller$Station" d D) (hP : va_P D jCl (jW d a n g) H) (hdg : decode cc pc = .ok (.getfield 19, 3)) (kk : W p l e R s m args below meth c H locs cells slots Q (F0 m (pc + 3) ls (.ref (a 10) :: rest))) : W p l e R s m args below meth c H locs cells slots Q (F0 m pc ls (.ref (a 7) :: rest)) := j_get X hP 7 2 (by decide) rfl rfl ju_S (by decide) jm_34 rfl hdg kk
theorem jg_K_92_1 (X : jX p s m args meth c cc mx ret "KeyDistiller" d D) (hP : va_P D jCl (jW d a n g) H) (hdg : decode cc pc = .ok (.getfield 92, 3)) (kk : W p l e R s m args below meth c H locs cells slots Q (F0 m (pc + 3) ls (.ref (a 4) :: rest))) : W p l e R s m args below meth c H locs cells slots Q (F0 m pc ls (.ref (a 1) :: rest)) := j_getN (host := "KeyDistiller") X hP 1 2 (by decide) rfl rfl ju_S (by decide) (by decide +kernel) rfl hdg kk
theorem jg_K_92_7 (X : jX p s m args meth c cc mx ret "KeyDistiller" d D) (hP : va_P D jCl (jW d a n g) H) (hdg : decode cc pc = .ok (.getfield 92, 3)) (kk : W p l e R s m args below meth c H locs cells slots Q (F0 m (pc + 3) ls (.ref (a 10) :: rest))) : W p l e R s m args below meth c H locs cells slots Q (F0 m pc ls (.ref (a 7) :: rest)) := j_getN (host := "KeyDistiller") X hP 7 2 (by decide) rfl rfl ju_S (by decide) (by decide +kernel) rfl hdg kk
theorem jg_S_22_1 (X : jX p s m args meth c cc mx ret "KeyDistiller$Station" d D) (hP : va_P D jCl (jW d a n g) H) (hdg : decode cc pc = .ok (.getfield 22, 3)) (kk : W p l e R s m args below meth c H locs cells slots Q (F0 m (pc + 3) ls (.ref (a 5) :: rest))) : W p l e R s m args below meth c H locs cells slots Q (F0 m pc ls (.ref (a 1) :: rest)) := j_get X hP 1 3 (by decide) rfl rfl ju_S (by decide) jm_36 rfl hdg kk
theorem jg_S_22_7 (X : jX p s m args meth c cc mx ret "KeyDistiller$Station" d D) (hP : va_P D jCl (jW d a n g) H) (hdg : decode cc pc = .ok (.getfield 22, 3)) (kk : W p l e R s m args below meth c H locs cells slots Q (F0 m (pc + 3) ls (.ref (a 11) :: rest))) : W p l e R s m args below meth c H locs cells slots Q (F0 m pc ls (.ref (a 7) :: rest)) := j_get X hP 7 3 (by decide) rfl rfl ju_S (by decide) jm_36 rfl hdg kk
theorem jg_K_234_1 (X : jX p s m args meth c cc mx ret "KeyDistiller" d D) (hP : va_P D jCl (jW d a n g) H) (hdg : decode cc pc = .ok (.getfield 234, 3)) (kk : W p l e R s m args below meth c H locs cells slots Q (F0 m (pc + 3) ls (.ref (a 5) :: rest))) : W p l e R s m args below meth c H locs cells slots Q (F0 m pc ls (.ref (a 1) :: rest)) := j_getN (host := "KeyDistiller") X hP 1 3 (by decide) rfl rfl ju_S (by decide) (by decide +kernel) rfl hdg kk
theorem jg_K_234_7 (X : jX p s m args meth c cc mx ret "KeyDistiller" d D) (hP : va_P D jCl (jW d a n g) H) (hdg : decode cc pc = .ok (.getfield 234, 3)) (kk : W p l e R s m args below meth c H locs cells slots Q (F0 m (pc + 3) ls (.ref (a 11) :: rest))) : W p l e R s m args below meth c H locs cells slots Q (F0 m pc ls (.ref (a 7) :: rest)) := j_getN (host := "KeyDistiller") X hP 7 3 (by decide) rfl rfl ju_S (by decide) (by decide +kernel) rfl hdg kk
theorem jg_S_25_1 (X : jX p s m args meth c cc mx ret "KeyDistiller$Station" d D) (hP : va_P D jCl (jW d a n g) H) (hdg : decode cc pc = .ok (.getfield 25, 3)) (kk : W p l e R s m args below meth c H locs cells slots Q (F0 m (pc + 3) ls (.ref (a 6) :: rest))) : W p l e R s m args below meth c H locs cells slots Q (F0 m pc ls (.ref (a 1) :: rest)) := j_get X hP 1 4 (by decide) rfl rfl ju_S (by decide) jm_38 rfl hdg kk
theorem jg_S_25_7 (X : jX p s m args meth c cc mx ret "KeyDistiller$Station" d D) (hP : va_P D jCl (jW d a n g) H) (hdg : decode cc pc = .ok (.getfield 25, 3)) (kk : W p l e R s m args below meth c H locs cells slots Q (F0 m (pc + 3) ls (.ref (a 12) :: rest))) : W p l e R s m args below meth c H locs cells slots Q (F0 m pc ls (.ref (a 7) :: rest)) := j_get X hP 7 4 (by decide) rfl rfl ju_S (by decide) jm_38 rfl hdg kk
theorem jg_K_89_1 (X : jX p s m args meth c cc mx ret "KeyDistiller" d D) (hP : va_P D jCl (jW d a n g) H) (hdg : decode cc pc = .ok (.getfield 89, 3)) (kk : W p l e R s m args below meth c H locs cells slots Q (F0 m (pc + 3) ls (.ref (a 6) :: rest))) : W p l e R s m args below meth c H locs cells slots Q (F0 m pc ls (.ref (a 1) :: rest)) := j_getN (host := "KeyDistiller") X hP 1 4 (by decide) rfl rfl ju_S (by decide) (by decide +kernel) rfl hdg kk
theorem jg_K_89_7 (X : jX p s m args meth c cc mx ret "KeyDistiller" d D) (hP : va_P D jCl (jW d a n g) H) (hdg : decode cc pc = .ok (.getfield 89, 3)) (kk : W p l e R s m args below meth c H locs cells slots Q (F0 m (pc + 3) ls (.ref (a 12) :: rest))) : W p l e R s m args below meth c H locs cells slots Q (F0 m pc ls (.ref (a 7) :: rest)) := j_getN (host := "KeyDistiller") X hP 7 4 (by decide) rfl rfl ju_S (by decide) (by decide +kernel) rfl hdg kk
theorem jg_D_145_1 (X : jX p s m args meth c cc mx ret "KeyDistiller$Dialogue" d D) (hP : va_P D jCl (jW d a n g) H) (hdg : decode cc pc = .ok (.getfield 145, 3)) (kk : W p l e R s m args below meth c H locs cells slots Q (F0 m (pc + 3) ls (.ref (a 6) :: rest))) : W p l e R s m args below meth c H locs cells slots Q (F0 m pc ls (.ref (a 1) :: rest)) := j_getN (host := "KeyDistiller") X hP 1 4 (by decide) rfl rfl ju_S (by decide) (by decide +kernel) rfl hdg kk
theorem jg_D_145_7 (X : jX p s m args meth c cc mx ret "KeyDistiller$Dialogue" d D) (hP : va_P D jCl (jW d a n g) H) (hdg : decode cc pc = .ok (.getfield 145, 3)) (kk : W p l e R s m args below meth c H locs cells slots Q (F0 m (pc + 3) ls (.ref (a 12) :: rest))) : W p l e R s m args below meth c H locs cells slots Q (F0 m pc ls (.ref (a 7) :: rest)) := j_getN (host := "KeyDistiller") X hP 7 4 (by decide) rfl rfl ju_S (by decide) (by decide +kernel) rfl hdg kk
theorem jg_K_81_1 (X : jX p s m args meth c cc mx ret "KeyDistiller" d D) (hP : va_P D jCl (jW d a n g) H) (hdg : decode cc pc = .ok (.getfield 81, 3)) (kk : W p l e R s m args below meth c H locs cells slots Q (F0 m (pc + 3) ls (.int (nI (n 1 0)) :: rest))) : W p l e R s m args below meth c H locs cells slots Q (F0 m pc ls (.ref (a 1) :: rest)) := j_getN (host := "KeyDistiller") X hP 1 5 (by decide) rfl rfl ju_S (by decide) (by decide +kernel) rfl hdg kk
theorem jg_K_81_7 (X : jX p s m args meth c cc mx ret "KeyDistiller" d D) (hP : va_P D jCl (jW d a n g) H) (hdg : decode cc pc = .ok (.getfield 81, 3)) (kk : W p l e R s m args below meth c H locs cells slots Q (F0 m (pc + 3) ls (.int (nI (n 7 0)) :: rest))) : W p l e R s m args below meth c H locs cells slots Q (F0 m pc ls (.ref (a 7) :: rest)) := j_getN (host := "KeyDistiller") X hP 7 5 (by decide) rfl rfl ju_S (by decide) (by decide +kernel) rfl hdg kk
theorem jg_S_28_1 (X : jX p s m args meth c cc mx ret "KeyDistiller$Station" d D) (hP : va_P D jCl (jW d a n g) H) (hdg : decode cc pc = .ok (.getfield 28, 3)) (kk : W p l e R s m args below meth c H locs cells slots Q (F0 m (pc + 3) ls (.int (nI (n 1 0)) :: rest))) : W p l e R s m args below meth c H locs cells slots Q (F0 m pc ls (.ref (a 1) :: rest)) := j_get X hP 1 5 (by decide) rfl rfl ju_S (by decide) jm_42 rfl hdg kk
theorem jp_S_28_1 (X : jX p s m args meth c cc mx ret "KeyDistiller$Station" d D) (hap : ∀ i j : Nat, i < 52 → j < 52 → a i = a j → i = j) (hP : va_P D jCl (jW d a n g) H) (hS : va_S (jAa a H0.size) H0 H locs) {x : Nat} (hdg : decode cc pc = .ok (.putfield 28, 3)) (kk : ∀ (H1 : Heap) (locs1 : List Loc), va_P D jCl (jW d a (ku n 1 0 x) g) H1 → va_S (jAa a H0.size) H0 H1 locs1 → W p l e R s m args below meth c H1 locs1 cells slots Q (F0 m (pc + 3) ls rest)) : W p l e R s m args below meth c H locs cells slots Q (F0 m pc ls (.int (nI x) :: .ref (a 1) :: rest)) := j_put X hap hP hS 1 5 (by decide) rfl (jW_u 1 0 x rfl) rfl ju_S jt_S jo_S jn_S (by decide) jm_42 rfl (ty := .int) (by decide +kernel) rfl rfl (Nat.le_of_ble_eq_true rfl) hdg kk
theorem jg_S_28_7 (X : jX p s m args meth c cc mx ret "KeyDistiller$Station" d D) (hP : va_P D jCl (jW d a n g) H) (hdg : decode cc pc = .ok (.getfield 28, 3)) (kk : W p l e R s m args below meth c H locs cells slots Q (F0 m (pc + 3) ls (.int (nI (n 7 0)) :: rest))) : W p l e R s m args below meth c H locs cells slots Q (F0 m pc ls (.ref (a 7) :: rest)) := j_get X hP 7 5 (by decide) rfl rfl ju_S (by decide) jm_42 rfl hdg kk
theorem jp_S_28_7 (X : jX p s m args meth c cc mx ret "KeyDistiller$Station" d D) (hap : ∀ i j : Nat, i < 52 → j < 52 → a i = a j → i = j) (hP : va_P D jCl (jW d a n g) H) (hS : va_S (jAa a H0.size) H0 H locs) {x : Nat} (hdg : decode cc pc = .ok (.putfield 28, 3)) (kk : ∀ (H1 : Heap) (locs1 : List Loc), va_P D jCl (jW d a (ku n 7 0 x) g) H1 → va_S (jAa a H0.size) H0 H1 locs1 → W p l e R s m args below meth c H1 locs1 cells slots Q (F0 m (pc + 3) ls rest)) : W p l e R s m args below meth c H locs cells slots Q (F0 m pc ls (.int (nI x) :: .ref (a 7) :: rest)) := j_put X hap hP hS 7 5 (by decide) rfl (jW_u 7 0 x rfl) rfl ju_S jt_S jo_S jn_S (by decide) jm_42 rfl (ty := .int) (by decide +kernel) rfl rfl (Nat.le_of_ble_eq_true rfl) hdg kk
theorem jg_G_7_13 (X : jX p s m args meth c cc mx ret "KeyDistiller$Drawing" d D) (hP : va_P D jCl (jW d a n g) H) (hdg : decode cc pc = .ok (.getfield 7, 3)) (kk : W p l e R s m args below meth c H locs cells slots Q (F0 m (pc + 3) ls (.long (lN (g 0)) :: rest))) : W p l e R s m args below meth c H locs cells slots Q (F0 m pc ls (.ref (a 13) :: rest)) := j_get X hP 13 0 (by decide) rfl rfl ju_G (by decide) jm_64 rfl hdg kk
theorem jp_G_7_13 (X : jX p s m args meth c cc mx ret "KeyDistiller$Drawing" d D) (hap : ∀ i j : Nat, i < 52 → j < 52 → a i = a j → i = j) (hP : va_P D jCl (jW d a n g) H) (hS : va_S (jAa a H0.size) H0 H locs) {x : Nat} (hdg : decode cc pc = .ok (.putfield 7, 3)) (kk : ∀ (H1 : Heap) (locs1 : List Loc), va_P D jCl (jW d a n (kg g 0 x)) H1 → va_S (jAa a H0.size) H0 H1 locs1 → W p l e R s m args below meth c H1 locs1 cells slots Q (F0 m (pc + 3) ls rest)) : W p l e R s m args below meth c H locs cells slots Q (F0 m pc ls (.long (lN x) :: .ref (a 13) :: rest)) := j_put X hap hP hS 13 0 (by decide) rfl (jW_l 13 0 x (by decide) rfl) rfl ju_G jt_G jo_G jn_G (by decide) jm_64 rfl (ty := .long) (by decide +kernel) rfl rfl (Nat.le_of_ble_eq_true rfl) hdg kk
theorem jg_E_9_15 (X : jX p s m args meth c cc mx ret "KeyDistiller$Letters" d D) (hP : va_P D jCl (jW d a n g) H) (hdg : decode cc pc = .ok (.getfield 9, 3)) (kk : W p l e R s m args below meth c H locs cells slots Q (F0 m (pc + 3) ls (.ref (a 16) :: rest))) : W p l e R s m args below meth c H locs cells slots Q (F0 m pc ls (.ref (a 15) :: rest)) := j_get X hP 15 0 (by decide) rfl rfl ju_E (by decide) jm_80 rfl hdg kk
theorem jg_D_59_15 (X : jX p s m args meth c cc mx ret "KeyDistiller$Dialogue" d D) (hP : va_P D jCl (jW d a n g) H) (hdg : decode cc pc = .ok (.getfield 59, 3)) (kk : W p l e R s m args below meth c H locs cells slots Q (F0 m (pc + 3) ls (.ref (a 16) :: rest))) : W p l e R s m args below meth c H locs cells slots Q (F0 m pc ls (.ref (a 15) :: rest)) := j_getN (host := "KeyDistiller") X hP 15 0 (by decide) rfl rfl ju_E (by decide) (by decide +kernel) rfl hdg kk
theorem jg_K_161_15 (X : jX p s m args meth c cc mx ret "KeyDistiller" d D) (hP : va_P D jCl (jW d a n g) H) (hdg : decode cc pc = .ok (.getfield 161, 3)) (kk : W p l e R s m args below meth c H locs cells slots Q (F0 m (pc + 3) ls (.ref (a 16) :: rest))) : W p l e R s m args below meth c H locs cells slots Q (F0 m pc ls (.ref (a 15) :: rest)) := j_getN (host := "KeyDistiller") X hP 15 0 (by decide) rfl rfl ju_E (by decide) (by decide +kernel) rfl hdg kk
theorem jg_E_15_15 (X : jX p s m args meth c cc mx ret "KeyDistiller$Letters" d D) (hP : va_P D jCl (jW d a n g) H) (hdg : decode cc pc = .ok (.getfield 15, 3)) (kk : W p l e R s m args below meth c H locs cells slots Q (F0 m (pc + 3) ls (.ref (a 17) :: rest))) : W p l e R s m args below meth c H locs cells slots Q (F0 m pc ls (.ref (a 15) :: rest)) := j_get X hP 15 1 (by decide) rfl rfl ju_E (by decide) jm_83 rfl hdg kk
theorem jg_D_56_15 (X : jX p s m args meth c cc mx ret "KeyDistiller$Dialogue" d D) (hP : va_P D jCl (jW d a n g) H) (hdg : decode cc pc = .ok (.getfield 56, 3)) (kk : W p l e R s m args below meth c H locs cells slots Q (F0 m (pc + 3) ls (.ref (a 17) :: rest))) : W p l e R s m args below meth c H locs cells slots Q (F0 m pc ls (.ref (a 15) :: rest)) := j_getN (host := "KeyDistiller") X hP 15 1 (by decide) rfl rfl ju_E (by decide) (by decide +kernel) rfl hdg kk
theorem jg_K_164_15 (X : jX p s m args meth c cc mx ret "KeyDistiller" d D) (hP : va_P D jCl (jW d a n g) H) (hdg : decode cc pc = .ok (.getfield 164, 3)) (kk : W p l e R s m args below meth c H locs cells slots Q (F0 m (pc + 3) ls (.ref (a 17) :: rest))) : W p l e R s m args below meth c H locs cells slots Q (F0 m pc ls (.ref (a 15) :: rest)) := j_getN (host := "KeyDistiller") X hP 15 1 (by decide) rfl rfl ju_E (by decide) (by decide +kernel) rfl hdg kk
theorem jg_E_18_15 (X : jX p s m args meth c cc mx ret "KeyDistiller$Letters" d D) (hP : va_P D jCl (jW d a n g) H) (hdg : decode cc pc = .ok (.getfield 18, 3)) (kk : W p l e R s m args below meth c H locs cells slots Q (F0 m (pc + 3) ls (.ref (a 18) :: rest))) : W p l e R s m args below meth c H locs cells slots Q (F0 m pc ls (.ref (a 15) :: rest)) := j_get X hP 15 2 (by decide) rfl rfl ju_E (by decide) jm_86 rfl hdg kk
theorem jg_D_66_15 (X : jX p s m args meth c cc mx ret "KeyDistiller$Dialogue" d D) (hP : va_P D jCl (jW d a n g) H) (hdg : decode cc pc = .ok (.getfield 66, 3)) (kk : W p l e R s m args below meth c H locs cells slots Q (F0 m (pc + 3) ls (.ref (a 18) :: rest))) : W p l e R s m args below meth c H locs cells slots Q (F0 m pc ls (.ref (a 15) :: rest)) := j_getN (host := "KeyDistiller") X hP 15 2 (by decide) rfl rfl ju_E (by decide) (by decide +kernel) rfl hdg kk
theorem jg_K_167_15 (X : jX p s m args meth c cc mx ret "KeyDistiller" d D) (hP : va_P D jCl (jW d a n g) H) (hdg : decode cc pc = .ok (.getfield 167, 3)) (kk : W p l e R s m args below meth c H locs cells slots Q (F0 m (pc + 3) ls (.ref (a 18) :: rest))) : W p l e R s m args below meth c H locs cells slots Q (F0 m pc ls (.ref (a 15) :: rest)) := j_getN (host := "KeyDistiller") X hP 15 2 (by decide) rfl rfl ju_E (by decide) (by decide +kernel) rfl hdg kk
theorem jg_E_21_15 (X : jX p s m args meth c cc mx ret "KeyDistiller$Letters" d D) (hP : va_P D jCl (jW d a n g) H) (hdg : decode cc pc = .ok (.getfield 21, 3)) (kk : W p l e R s m args below meth c H locs cells slots Q (F0 m (pc + 3) ls (.int (nI (n 15 0)) :: rest))) : W p l e R s m args below meth c H locs cells slots Q (F0 m pc ls (.ref (a 15) :: rest)) := j_get X hP 15 3 (by decide) rfl rfl ju_E (by decide) jm_89 rfl hdg kk
theorem jp_E_21_15 (X : jX p s m args meth c cc mx ret "KeyDistiller$Letters" d D) (hap : ∀ i j : Nat, i < 52 → j < 52 → a i = a j → i = j) (hP : va_P D jCl (jW d a n g) H) (hS : va_S (jAa a H0.size) H0 H locs) {x : Nat} (hdg : decode cc pc = .ok (.putfield 21, 3)) (kk : ∀ (H1 : Heap) (locs1 : List Loc), va_P D jCl (jW d a (ku n 15 0 x) g) H1 → va_S (jAa a H0.size) H0 H1 locs1 → W p l e R s m args below meth c H1 locs1 cells slots Q (F0 m (pc + 3) ls rest)) : W p l e R s m args below meth c H locs cells slots Q (F0 m pc ls (.int (nI x) :: .ref (a 15) :: rest)) := j_put X hap hP hS 15 3 (by decide) rfl (jW_u 15 0 x rfl) rfl ju_E jt_E jo_E jn_E (by decide) jm_89 rfl (ty := .int) (by decide +kernel) rfl rfl (Nat.le_of_ble_eq_true rfl) hdg kk
theorem jg_K_137_15 (X : jX p s m args meth c cc mx ret "KeyDistiller" d D) (hP : va_P D jCl (jW d a n g) H) (hdg : decode cc pc = .ok (.getfield 137, 3)) (kk : W p l e R s m args below meth c H locs cells slots Q (F0 m (pc + 3) ls (.int (nI (n 15 0)) :: rest))) : W p l e R s m args below meth c H locs cells slots Q (F0 m pc ls (.ref (a 15) :: rest)) := j_getN (host := "KeyDistiller") X hP 15 3 (by decide) rfl rfl ju_E (by decide) (by decide +kernel) rfl hdg kk
theorem jg_D_34_14 (X : jX p s m args meth c cc mx ret "KeyDistiller$Dialogue" d D) (hP : va_P D jCl (jW d a n g) H) (hdg : decode cc pc = .ok (.getfield 34, 3)) (kk : W p l e R s m args below meth c H locs cells slots Q (F0 m (pc + 3) ls (.ref (a 1) :: rest))) : W p l e R s m args below meth c H locs cells slots Q (F0 m pc ls (.ref (a 14) :: rest)) := j_get X hP 14 0 (by decide) rfl rfl ju_D (by decide) jm_102 rfl hdg kk
theorem jg_D_38_14 (X : jX p s m args meth c cc mx ret "KeyDistiller$Dialogue" d D) (hP : va_P D jCl (jW d a n g) H) (hdg : decode cc pc = .ok (.getfield 38, 3)) (kk : W p l e R s m args below meth c H locs cells slots Q (F0 m (pc + 3) ls (.ref (a 7) :: rest))) : W p l e R s m args below meth c H locs cells slots Q (F0 m pc ls (.ref (a 14) :: rest)) := j_get X hP 14 1 (by decide) rfl rfl ju_D (by decide) jm_103 rfl hdg kk
theorem jg_D_12_14 (X : jX p s m args meth c cc mx ret "KeyDistiller$Dialogue" d D) (hP : va_P D jCl (jW d a n g) H) (hdg : decode cc pc = .ok (.getfield 12, 3)) (kk : W p l e R s m args below meth c H locs cells slots Q (F0 m (pc + 3) ls (.ref (a 15) :: rest))) : W p l e R s m args below meth c H locs cells slots Q (F0 m pc ls (.ref (a 14) :: rest)) := j_get X hP 14 2 (by decide) rfl rfl ju_D (by decide) jm_104 rfl hdg kk
theorem jg_K_133_14 (X : jX p s m args meth c cc mx ret "KeyDistiller" d D) (hP : va_P D jCl (jW d a n g) H) (hdg : decode cc pc = .ok (.getfield 133, 3)) (kk : W p l e R s m args below meth c H locs cells slots Q (F0 m (pc + 3) ls (.ref (a 15) :: rest))) : W p l e R s m args below meth c H locs cells slots Q (F0 m pc ls (.ref (a 14) :: rest)) := j_getN (host := "KeyDistiller") X hP 14 2 (by decide) rfl rfl ju_D (by decide) (by decide +kernel) rfl hdg kk
theorem jg_D_20_14 (X : jX p s m args meth c cc mx ret "KeyDistiller$Dialogue" d D) (hP : va_P D jCl (jW d a n g) H) (hdg : decode cc pc = .ok (.getfield 20, 3)) (kk : W p l e R s m args below meth c H locs cells slots Q (F0 m (pc + 3) ls (.ref (a 19) :: rest))) : W p l e R s m args below meth c H locs cells slots Q (F0 m pc ls (.ref (a 14) :: rest)) := j_get X hP 14 3 (by decide) rfl rfl ju_D (by decide) jm_106 rfl hdg kk
theorem jg_K_125_14 (X : jX p s m args meth c cc mx ret "KeyDistiller" d D) (hP : va_P D jCl (jW d a n g) H) (hdg : decode cc pc = .ok (.getfield 125, 3)) (kk : W p l e R s m args below meth c H locs cells slots Q (F0 m (pc + 3) ls (.ref (a 19) :: rest))) : W p l e R s m args below meth c H locs cells slots Q (F0 m pc ls (.ref (a 14) :: rest)) := j_getN (host := "KeyDistiller") X hP 14 3 (by decide) rfl rfl ju_D (by decide) (by decide +kernel) rfl hdg kk
theorem jg_D_23_14 (X : jX p s m args meth c cc mx ret "KeyDistiller$Dialogue" d D) (hP : va_P D jCl (jW d a n g) H) (hdg : decode cc pc = .ok (.getfield 23, 3)) (kk : W p l e R s m args below meth c H locs cells slots Q (F0 m (pc + 3) ls (.ref (a 24) :: rest))) : W p l e R s m args below meth c H locs cells slots Q (F0 m pc ls (.ref (a 14) :: rest)) := j_get X hP 14 4 (by decide) rfl rfl ju_D (by decide) jm_108 rfl hdg kk
theorem jg_D_26_14 (X : jX p s m args meth c cc mx ret "KeyDistiller$Dialogue" d D) (hP : va_P D jCl (jW d a n g) H) (hdg : decode cc pc = .ok (.getfield 26, 3)) (kk : W p l e R s m args below meth c H locs cells slots Q (F0 m (pc + 3) ls (.ref (a 29) :: rest))) : W p l e R s m args below meth c H locs cells slots Q (F0 m pc ls (.ref (a 14) :: rest)) := j_get X hP 14 5 (by decide) rfl rfl ju_D (by decide) jm_109 rfl hdg kk
theorem jg_K_192_14 (X : jX p s m args meth c cc mx ret "KeyDistiller" d D) (hP : va_P D jCl (jW d a n g) H) (hdg : decode cc pc = .ok (.getfield 192, 3)) (kk : W p l e R s m args below meth c H locs cells slots Q (F0 m (pc + 3) ls (.ref (a 29) :: rest))) : W p l e R s m args below meth c H locs cells slots Q (F0 m pc ls (.ref (a 14) :: rest)) := j_getN (host := "KeyDistiller") X hP 14 5 (by decide) rfl rfl ju_D (by decide) (by decide +kernel) rfl hdg kk
theorem jg_D_82_14 (X : jX p s m args meth c cc mx ret "KeyDistiller$Dialogue" d D) (hP : va_P D jCl (jW d a n g) H) (hdg : decode cc pc = .ok (.getfield 82, 3)) (kk : W p l e R s m args below meth c H locs cells slots Q (F0 m (pc + 3) ls (.int (nI (n 14 0)) :: rest))) : W p l e R s m args below meth c H locs cells slots Q (F0 m pc ls (.ref (a 14) :: rest)) := j_get X hP 14 6 (by decide) rfl rfl ju_D (by decide) jm_111 rfl hdg kk
theorem jp_D_82_14 (X : jX p s m args meth c cc mx ret "KeyDistiller$Dialogue" d D) (hap : ∀ i j : Nat, i < 52 → j < 52 → a i = a j → i = j) (hP : va_P D jCl (jW d a n g) H) (hS : va_S (jAa a H0.size) H0 H locs) {x : Nat} (hdg : decode cc pc = .ok (.putfield 82, 3)) (kk : ∀ (H1 : Heap) (locs1 : List Loc), va_P D jCl (jW d a (ku n 14 0 x) g) H1 → va_S (jAa a H0.size) H0 H1 locs1 → W p l e R s m args below meth c H1 locs1 cells slots Q (F0 m (pc + 3) ls rest)) : W p l e R s m args below meth c H locs cells slots Q (F0 m pc ls (.int (nI x) :: .ref (a 14) :: rest)) := j_put X hap hP hS 14 6 (by decide) rfl (jW_u 14 0 x rfl) rfl ju_D jt_D jo_D jn_D (by decide) jm_111 rfl (ty := .int) (by decide +kernel) rfl rfl (Nat.le_of_ble_eq_true rfl) hdg kk
theorem jg_D_89_14 (X : jX p s m args meth c cc mx ret "KeyDistiller$Dialogue" d D) (hP : va_P D jCl (jW d a n g) H) (hdg : decode cc pc = .ok (.getfield 89, 3)) (kk : W p l e R s m args below meth c H locs cells slots Q (F0 m (pc + 3) ls (.int (nI (n 14 1)) :: rest))) : W p l e R s m args below meth c H locs cells slots Q (F0 m pc ls (.ref (a 14) :: rest)) := j_get X hP 14 7 (by decide) rfl rfl ju_D (by decide) jm_112 rfl hdg kk
theorem jp_D_89_14 (X : jX p s m args meth c cc mx ret "KeyDistiller$Dialogue" d D) (hap : ∀ i j : Nat, i < 52 → j < 52 → a i = a j → i = j) (hP : va_P D jCl (jW d a n g) H) (hS : va_S (jAa a H0.size) H0 H locs) {x : Nat} (hdg : decode cc pc = .ok (.putfield 89, 3)) (kk : ∀ (H1 : Heap) (locs1 : List Loc), va_P D jCl (jW d a (ku n 14 1 x) g) H1 → va_S (jAa a H0.size) H0 H1 locs1 → W p l e R s m args below meth c H1 locs1 cells slots Q (F0 m (pc + 3) ls rest)) : W p l e R s m args below meth c H locs cells slots Q (F0 m pc ls (.int (nI x) :: .ref (a 14) :: rest)) := j_put X hap hP hS 14 7 (by decide) rfl (jW_u 14 1 x rfl) rfl ju_D jt_D jo_D jn_D (by decide) jm_112 rfl (ty := .int) (by decide +kernel) rfl rfl (Nat.le_of_ble_eq_true rfl) hdg kk
theorem jg_D_92_14 (X : jX p s m args meth c cc mx ret "KeyDistiller$Dialogue" d D) (hP : va_P D jCl (jW d a n g) H) (hdg : decode cc pc = .ok (.getfield 92, 3)) (kk : W p l e R s m args below meth c H locs cells slots Q (F0 m (pc + 3) ls (.int (nI (n 14 2)) :: rest))) : W p l e R s m args below meth c H locs cells slots Q (F0 m pc ls (.ref (a 14) :: rest)) := j_get X hP 14 8 (by decide) rfl rfl ju_D (by decide) jm_113 rfl hdg kk
theorem jp_D_92_14 (X : jX p s m args meth c cc mx ret "KeyDistiller$Dialogue" d D) (hap : ∀ i j : Nat, i < 52 → j < 52 → a i = a j → i = j) (hP : va_P D jCl (jW d a n g) H) (hS : va_S (jAa a H0.size) H0 H locs) {x : Nat} (hdg : decode cc pc = .ok (.putfield 92, 3)) (kk : ∀ (H1 : Heap) (locs1 : List Loc), va_P D jCl (jW d a (ku n 14 2 x) g) H1 → va_S (jAa a H0.size) H0 H1 locs1 → W p l e R s m args below meth c H1 locs1 cells slots Q (F0 m (pc + 3) ls rest)) : W p l e R s m args below meth c H locs cells slots Q (F0 m pc ls (.int (nI x) :: .ref (a 14) :: rest)) := j_put X hap hP hS 14 8 (by decide) rfl (jW_u 14 2 x rfl) rfl ju_D jt_D jo_D jn_D (by decide) jm_113 rfl (ty := .int) (by decide +kernel) rfl rfl (Nat.le_of_ble_eq_true rfl) hdg kk
theorem jg_K_189_14 (X : jX p s m args meth c cc mx ret "KeyDistiller" d D) (hP : va_P D jCl (jW d a n g) H) (hdg : decode cc pc = .ok (.getfield 189, 3)) (kk : W p l e R s m args below meth c H locs cells slots Q (F0 m (pc + 3) ls (.int (nI (n 14 2)) :: rest))) : W p l e R s m args below meth c H locs cells slots Q (F0 m pc ls (.ref (a 14) :: rest)) := j_getN (host := "KeyDistiller") X hP 14 8 (by decide) rfl rfl ju_D (by decide) (by decide +kernel) rfl hdg kk
theorem jg_D_30_14 (X : jX p s m args meth c cc mx ret "KeyDistiller$Dialogue" d D) (hP : va_P D jCl (jW d a n g) H) (hdg : decode cc pc = .ok (.getfield 30, 3)) (kk : W p l e R s m args below meth c H locs cells slots Q (F0 m (pc + 3) ls (.int (nI (n 14 3)) :: rest))) : W p l e R s m args below meth c H locs cells slots Q (F0 m pc ls (.ref (a 14) :: rest)) := j_get X hP 14 9 (by decide) rfl rfl ju_D (by decide) jm_115 rfl hdg kk
theorem jp_D_30_14 (X : jX p s m args meth c cc mx ret "KeyDistiller$Dialogue" d D) (hap : ∀ i j : Nat, i < 52 → j < 52 → a i = a j → i = j) (hP : va_P D jCl (jW d a n g) H) (hS : va_S (jAa a H0.size) H0 H locs) {x : Nat} (hdg : decode cc pc = .ok (.putfield 30, 3)) (kk : ∀ (H1 : Heap) (locs1 : List Loc), va_P D jCl (jW d a (ku n 14 3 x) g) H1 → va_S (jAa a H0.size) H0 H1 locs1 → W p l e R s m args below meth c H1 locs1 cells slots Q (F0 m (pc + 3) ls rest)) : W p l e R s m args below meth c H locs cells slots Q (F0 m pc ls (.int (nI x) :: .ref (a 14) :: rest)) := j_put X hap hP hS 14 9 (by decide) rfl (jW_u 14 3 x rfl) rfl ju_D jt_D jo_D jn_D (by decide) jm_115 rfl (ty := .int) (by decide +kernel) rfl rfl (Nat.le_of_ble_eq_true rfl) hdg kk
theorem jg_K_186_14 (X : jX p s m args meth c cc mx ret "KeyDistiller" d D) (hP : va_P D jCl (jW d a n g) H) (hdg : decode cc pc = .ok (.getfield 186, 3)) (kk : W p l e R s m args below meth c H locs cells slots Q (F0 m (pc + 3) ls (.int (nI (n 14 3)) :: rest))) : W p l e R s m args below meth c H locs cells slots Q (F0 m pc ls (.ref (a 14) :: rest)) := j_getN (host := "KeyDistiller") X hP 14 9 (by decide) rfl rfl ju_D (by decide) (by decide +kernel) rfl hdg kk
theorem jg_D_41_14 (X : jX p s m args meth c cc mx ret "KeyDistiller$Dialogue" d D) (hP : va_P D jCl (jW d a n g) H) (hdg : decode cc pc = .ok (.getfield 41, 3)) (kk : W p l e R s m args below meth c H locs cells slots Q (F0 m (pc + 3) ls (.int (nI (n 14 4)) :: rest))) : W p l e R s m args below meth c H locs cells slots Q (F0 m pc ls (.ref (a 14) :: rest)) := j_get X hP 14 10 (by decide) rfl rfl ju_D (by decide) jm_117 rfl hdg kk
theorem jp_D_41_14 (X : jX p s m args meth c cc mx ret "KeyDistiller$Dialogue" d D) (hap : ∀ i j : Nat, i < 52 → j < 52 → a i = a j → i = j) (hP : va_P D jCl (jW d a n g) H) (hS : va_S (jAa a H0.size) H0 H locs) {x : Nat} (hdg : decode cc pc = .ok (.putfield 41, 3)) (kk : ∀ (H1 : Heap) (locs1 : List Loc), va_P D jCl (jW d a (ku n 14 4 x) g) H1 → va_S (jAa a H0.size) H0 H1 locs1 → W p l e R s m args below meth c H1 locs1 cells slots Q (F0 m (pc + 3) ls rest)) : W p l e R s m args below meth c H locs cells slots Q (F0 m pc ls (.int (nI x) :: .ref (a 14) :: rest)) := j_put X hap hP hS 14 10 (by decide) rfl (jW_u 14 4 x rfl) rfl ju_D jt_D jo_D jn_D (by decide) jm_117 rfl (ty := .int) (by decide +kernel) rfl rfl (Nat.le_of_ble_eq_true rfl) hdg kk
theorem jg_D_44_14 (X : jX p s m args meth c cc mx ret "KeyDistiller$Dialogue" d D) (hP : va_P D jCl (jW d a n g) H) (hdg : decode cc pc = .ok (.getfield 44, 3)) (kk : W p l e R s m args below meth c H locs cells slots Q (F0 m (pc + 3) ls (.int (nI (n 14 5)) :: rest))) : W p l e R s m args below meth c H locs cells slots Q (F0 m pc ls (.ref (a 14) :: rest)) := j_get X hP 14 11 (by decide) rfl rfl ju_D (by decide) jm_118 rfl hdg kk
theorem jp_D_44_14 (X : jX p s m args meth c cc mx ret "KeyDistiller$Dialogue" d D) (hap : ∀ i j : Nat, i < 52 → j < 52 → a i = a j → i = j) (hP : va_P D jCl (jW d a n g) H) (hS : va_S (jAa a H0.size) H0 H locs) {x : Nat} (hdg : decode cc pc = .ok (.putfield 44, 3)) (kk : ∀ (H1 : Heap) (locs1 : List Loc), va_P D jCl (jW d a (ku n 14 5 x) g) H1 → va_S (jAa a H0.size) H0 H1 locs1 → W p l e R s m args below meth c H1 locs1 cells slots Q (F0 m (pc + 3) ls rest)) : W p l e R s m args below meth c H locs cells slots Q (F0 m pc ls (.int (nI x) :: .ref (a 14) :: rest)) := j_put X hap hP hS 14 11 (by decide) rfl (jW_u 14 5 x rfl) rfl ju_D jt_D jo_D jn_D (by decide) jm_118 rfl (ty := .int) (by decide +kernel) rfl rfl (Nat.le_of_ble_eq_true rfl) hdg kk
theorem jg_K_10_0 (X : jX p s m args meth c cc mx ret "KeyDistiller" d D) (hP : va_P D jCl (jW d a n g) H) (hdg : decode cc pc = .ok (.getfield 10, 3)) (kk : W p l e R s m args below meth c H locs cells slots Q (F0 m (pc + 3) ls (.ref (a 1) :: rest))) : W p l e R s m args below meth c H locs cells slots Q (F0 m pc ls (.ref (a 0) :: rest)) := j_get X hP 0 0 (by decide) rfl rfl ju_K (by decide) jm_144 rfl hdg kk
theorem jg_K_16_0 (X : jX p s m args meth c cc mx ret "KeyDistiller" d D) (hP : va_P D jCl (jW d a n g) H) (hdg : decode cc pc = .ok (.getfield 16, 3)) (kk : W p l e R s m args below meth c H locs cells slots Q (F0 m (pc + 3) ls (.ref (a 7) :: rest))) : W p l e R s m args below meth c H locs cells slots Q (F0 m pc ls (.ref (a 0) :: rest)) := j_get X hP 0 1 (by decide) rfl rfl ju_K (by decide) jm_145 rfl hdg kk
theorem jg_K_22_0 (X : jX p s m args meth c cc mx ret "KeyDistiller" d D) (hP : va_P D jCl (jW d a n g) H) (hdg : decode cc pc = .ok (.getfield 22, 3)) (kk : W p l e R s m args below meth c H locs cells slots Q (F0 m (pc + 3) ls (.ref (a 13) :: rest))) : W p l e R s m args below meth c H locs cells slots Q (F0 m pc ls (.ref (a 0) :: rest)) := j_get X hP 0 2 (by decide) rfl rfl ju_K (by decide) jm_146 rfl hdg kk
theorem jg_K_31_0 (X : jX p s m args meth c cc mx ret "KeyDistiller" d D) (hP : va_P D jCl (jW d a n g) H) (hdg : decode cc pc = .ok (.getfield 31, 3)) (kk : W p l e R s m args below meth c H locs cells slots Q (F0 m (pc + 3) ls (.ref (a 14) :: rest))) : W p l e R s m args below meth c H locs cells slots Q (F0 m pc ls (.ref (a 0) :: rest)) := j_get X hP 0 3 (by decide) rfl rfl ju_K (by decide) jm_147 rfl hdg kk
theorem jg_K_35_0 (X : jX p s m args meth c cc mx ret "KeyDistiller" d D) (hP : va_P D jCl (jW d a n g) H) (hdg : decode cc pc = .ok (.getfield 35, 3)) (kk : W p l e R s m args below meth c H locs cells slots Q (F0 m (pc + 3) ls (.ref (a 30) :: rest))) : W p l e R s m args below meth c H locs cells slots Q (F0 m pc ls (.ref (a 0) :: rest)) := j_get X hP 0 4 (by decide) rfl rfl ju_K (by decide) jm_148 rfl hdg kk
theorem jg_K_39_0 (X : jX p s m args meth c cc mx ret "KeyDistiller" d D) (hP : va_P D jCl (jW d a n g) H) (hdg : decode cc pc = .ok (.getfield 39, 3)) (kk : W p l e R s m args below meth c H locs cells slots Q (F0 m (pc + 3) ls (.ref (a 31) :: rest))) : W p l e R s m args below meth c H locs cells slots Q (F0 m pc ls (.ref (a 0) :: rest)) := j_get X hP 0 5 (by decide) rfl rfl ju_K (by decide) jm_149 rfl hdg kk
theorem jg_K_42_0 (X : jX p s m args meth c cc mx ret "KeyDistiller" d D) (hP : va_P D jCl (jW d a n g) H) (hdg : decode cc pc = .ok (.getfield 42, 3)) (kk : W p l e R s m args below meth c H locs cells slots Q (F0 m (pc + 3) ls (.ref (a 32) :: rest))) : W p l e R s m args below meth c H locs cells slots Q (F0 m pc ls (.ref (a 0) :: rest)) := j_get X hP 0 6 (by decide) rfl rfl ju_K (by decide) jm_150 rfl hdg kk
theorem jg_K_45_0 (X : jX p s m args meth c cc mx ret "KeyDistiller" d D) (hP : va_P D jCl (jW d a n g) H) (hdg : decode cc pc = .ok (.getfield 45, 3)) (kk : W p l e R s m args below meth c H locs cells slots Q (F0 m (pc + 3) ls (.int (nI (n 0 0)) :: rest))) : W p l e R s m args below meth c H locs cells slots Q (F0 m pc ls (.ref (a 0) :: rest)) := j_get X hP 0 7 (by decide) rfl rfl ju_K (by decide) jm_151 rfl hdg kk
theorem jp_K_45_0 (X : jX p s m args meth c cc mx ret "KeyDistiller" d D) (hap : ∀ i j : Nat, i < 52 → j < 52 → a i = a j → i = j) (hP : va_P D jCl (jW d a n g) H) (hS : va_S (jAa a H0.size) H0 H locs) {x : Nat} (hdg : decode cc pc = .ok (.putfield 45, 3)) (kk : ∀ (H1 : Heap) (locs1 : List Loc), va_P D jCl (jW d a (ku n 0 0 x) g) H1 → va_S (jAa a H0.size) H0 H1 locs1 → W p l e R s m args below meth c H1 locs1 cells slots Q (F0 m (pc + 3) ls rest)) : W p l e R s m args below meth c H locs cells slots Q (F0 m pc ls (.int (nI x) :: .ref (a 0) :: rest)) := j_put X hap hP hS 0 7 (by decide) rfl (jW_u 0 0 x rfl) rfl ju_K jt_K jo_K jn_K (by decide) jm_151 rfl (ty := .int) (by decide +kernel) rfl rfl (Nat.le_of_ble_eq_true rfl) hdg kk
theorem jg_K_115_0 (X : jX p s m args meth c cc mx ret "KeyDistiller" d D) (hP : va_P D jCl (jW d a n g) H) (hdg : decode cc pc = .ok (.getfield 115, 3)) (kk : W p l e R s m args below meth c H locs cells slots Q (F0 m (pc + 3) ls (.int (nI (n 0 1)) :: rest))) : W p l e R s m args below meth c H locs cells slots Q (F0 m pc ls (.ref (a 0) :: rest)) := j_get X hP 0 8 (by decide) rfl rfl ju_K (by decide) jm_152 rfl hdg kk
theorem jp_K_115_0 (X : jX p s m args meth c cc mx ret "KeyDistiller" d D) (hap : ∀ i j : Nat, i < 52 → j < 52 → a i = a j → i = j) (hP : va_P D jCl (jW d a n g) H) (hS : va_S (jAa a H0.size) H0 H locs) {x : Nat} (hdg : decode cc pc = .ok (.putfield 115, 3)) (kk : ∀ (H1 : Heap) (locs1 : List Loc), va_P D jCl (jW d a (ku n 0 1 x) g) H1 → va_S (jAa a H0.size) H0 H1 locs1 → W p l e R s m args below meth c H1 locs1 cells slots Q (F0 m (pc + 3) ls rest)) : W p l e R s m args below meth c H locs cells slots Q (F0 m pc ls (.int (nI x) :: .ref (a 0) :: rest)) := j_put X hap hP hS 0 8 (by decide) rfl (jW_u 0 1 x rfl) rfl ju_K jt_K jo_K jn_K (by decide) jm_152 rfl (ty := .int) (by decide +kernel) rfl rfl (Nat.le_of_ble_eq_true rfl) hdg kk
theorem jg_K_118_0 (X : jX p s m args meth c cc mx ret "KeyDistiller" d D) (hP : va_P D jCl (jW d a n g) H) (hdg : decode cc pc = .ok (.getfield 118, 3)) (kk : W p l e R s m args below meth c H locs cells slots Q (F0 m (pc + 3) ls (.int (nI (n 0 2)) :: rest))) : W p l e R s m args below meth c H locs cells slots Q (F0 m pc ls (.ref (a 0) :: rest)) := j_get X hP 0 9 (by decide) rfl rfl ju_K (by decide) jm_153 rfl hdg kk
theorem jp_K_118_0 (X : jX p s m args meth c cc mx ret "KeyDistiller" d D) (hap : ∀ i j : Nat, i < 52 → j < 52 → a i = a j → i = j) (hP : va_P D jCl (jW d a n g) H) (hS : va_S (jAa a H0.size) H0 H locs) {x : Nat} (hdg : decode cc pc = .ok (.putfield 118, 3)) (kk : ∀ (H1 : Heap) (locs1 : List Loc), va_P D jCl (jW d a (ku n 0 2 x) g) H1 → va_S (jAa a H0.size) H0 H1 locs1 → W p l e R s m args below meth c H1 locs1 cells slots Q (F0 m (pc + 3) ls rest)) : W p l e R s m args below meth c H locs cells slots Q (F0 m pc ls (.int (nI x) :: .ref (a 0) :: rest)) := j_put X hap hP hS 0 9 (by decide) rfl (jW_u 0 2 x rfl) rfl ju_K jt_K jo_K jn_K (by decide) jm_153 rfl (ty := .int) (by decide +kernel) rfl rfl (Nat.le_of_ble_eq_true rfl) hdg kk
theorem jg_K_226_0 (X : jX p s m args meth c cc mx ret "KeyDistiller" d D) (hP : va_P D jCl (jW d a n g) H) (hdg : decode cc pc = .ok (.getfield 226, 3)) (kk : W p l e R s m args below meth c H locs cells slots Q (F0 m (pc + 3) ls (.int (nI (n 0 3)) :: rest))) : W p l e R s m args below meth c H locs cells slots Q (F0 m pc ls (.ref (a 0) :: rest)) := j_get X hP 0 10 (by decide) rfl rfl ju_K (by decide) jm_154 rfl hdg kk
theorem jp_K_226_0 (X : jX p s m args meth c cc mx ret "KeyDistiller" d D) (hap : ∀ i j : Nat, i < 52 → j < 52 → a i = a j → i = j) (hP : va_P D jCl (jW d a n g) H) (hS : va_S (jAa a H0.size) H0 H locs) {x : Nat} (hdg : decode cc pc = .ok (.putfield 226, 3)) (kk : ∀ (H1 : Heap) (locs1 : List Loc), va_P D jCl (jW d a (ku n 0 3 x) g) H1 → va_S (jAa a H0.size) H0 H1 locs1 → W p l e R s m args below meth c H1 locs1 cells slots Q (F0 m (pc + 3) ls rest)) : W p l e R s m args below meth c H locs cells slots Q (F0 m pc ls (.int (nI x) :: .ref (a 0) :: rest)) := j_put X hap hP hS 0 10 (by decide) rfl (jW_u 0 3 x rfl) rfl ju_K jt_K jo_K jn_K (by decide) jm_154 rfl (ty := .int) (by decide +kernel) rfl rfl (Nat.le_of_ble_eq_true rfl) hdg kk
theorem jg_M_66_33 (X : jX p s m args meth c cc mx ret "KeyDistillerModel" d D) (hP : va_P D jCl (jW d a n g) H) (hdg : decode cc pc = .ok (.getfield 66, 3)) (kk : W p l e R s m args below meth c H locs cells slots Q (F0 m (pc + 3) ls (.int (nI (n 33 0)) :: rest))) : W p l e R s m args below meth c H locs cells slots Q (F0 m pc ls (.ref (a 33) :: rest)) := j_get X hP 33 0 (by decide) rfl rfl ju_M (by decide) jm_607 rfl hdg kk
theorem jp_M_66_33 (X : jX p s m args meth c cc mx ret "KeyDistillerModel" d D) (hap : ∀ i j : Nat, i < 52 → j < 52 → a i = a j → i = j) (hP : va_P D jCl (jW d a n g) H) (hS : va_S (jAa a H0.size) H0 H locs) {x : Nat} (hdg : decode cc pc = .ok (.putfield 66, 3)) (kk : ∀ (H1 : Heap) (locs1 : List Loc), va_P D jCl (jW d a (ku n 33 0 x) g) H1 → va_S (jAa a H0.size) H0 H1 locs1 → W p l e R s m args below meth c H1 locs1 cells slots Q (F0 m (pc + 3) ls rest)) : W p l e R s m args below meth c H locs cells slots Q (F0 m pc ls (.int (nI x) :: .ref (a 33) :: rest)) := j_put X hap hP hS 33 0 (by decide) rfl (jW_u 33 0 x rfl) rfl ju_M jt_M jo_M jn_M (by decide) jm_607 rfl (ty := .int) (by decide +kernel) rfl rfl (Nat.le_of_ble_eq_true rfl) hdg kk
theorem jg_M_7_33 (X : jX p s m args meth c cc mx ret "KeyDistillerModel" d D) (hP : va_P D jCl (jW d a n g) H) (hdg : decode cc pc = .ok (.getfield 7, 3)) (kk : W p l e R s m args below meth c H locs cells slots Q (F0 m (pc + 3) ls (.ref (a 34) :: rest))) : W p l e R s m args below meth c H locs cells slots Q (F0 m pc ls (.ref (a 33) :: rest)) := j_get X hP 33 1 (by decide) rfl rfl ju_M (by decide) jm_608 rfl hdg kk
theorem jg_M_13_33 (X : jX p s m args meth c cc mx ret "KeyDistillerModel" d D) (hP : va_P D jCl (jW d a n g) H) (hdg : decode cc pc = .ok (.getfield 13, 3)) (kk : W p l e R s m args below meth c H locs cells slots Q (F0 m (pc + 3) ls (.ref (a 35) :: rest))) : W p l e R s m args below meth c H locs cells slots Q (F0 m pc ls (.ref (a 33) :: rest)) := j_get X hP 33 2 (by decide) rfl rfl ju_M (by decide) jm_609 rfl hdg kk
theorem jg_M_17_33 (X : jX p s m args meth c cc mx ret "KeyDistillerModel" d D) (hP : va_P D jCl (jW d a n g) H) (hdg : decode cc pc = .ok (.getfield 17, 3)) (kk : W p l e R s m args below meth c H locs cells slots Q (F0 m (pc + 3) ls (.ref (a 36) :: rest))) : W p l e R s m args below meth c H locs cells slots Q (F0 m pc ls (.ref (a 33) :: rest)) := j_get X hP 33 3 (by decide) rfl rfl ju_M (by decide) jm_610 rfl hdg kk
theorem jg_M_20_33 (X : jX p s m args meth c cc mx ret "KeyDistillerModel" d D) (hP : va_P D jCl (jW d a n g) H) (hdg : decode cc pc = .ok (.getfield 20, 3)) (kk : W p l e R s m args below meth c H locs cells slots Q (F0 m (pc + 3) ls (.ref (a 37) :: rest))) : W p l e R s m args below meth c H locs cells slots Q (F0 m pc ls (.ref (a 33) :: rest)) := j_get X hP 33 4 (by decide) rfl rfl ju_M (by decide) jm_611 rfl hdg kk
theorem jg_M_77_33 (X : jX p s m args meth c cc mx ret "KeyDistillerModel" d D) (hP : va_P D jCl (jW d a n g) H) (hdg : decode cc pc = .ok (.getfield 77, 3)) (kk : W p l e R s m args below meth c H locs cells slots Q (F0 m (pc + 3) ls (.int (nI (n 33 1)) :: rest))) : W p l e R s m args below meth c H locs cells slots Q (F0 m pc ls (.ref (a 33) :: rest)) := j_get X hP 33 5 (by decide) rfl rfl ju_M (by decide) jm_612 rfl hdg kk
theorem jp_M_77_33 (X : jX p s m args meth c cc mx ret "KeyDistillerModel" d D) (hap : ∀ i j : Nat, i < 52 → j < 52 → a i = a j → i = j) (hP : va_P D jCl (jW d a n g) H) (hS : va_S (jAa a H0.size) H0 H locs) {x : Nat} (hx2 : x < 2) (hdg : decode cc pc = .ok (.putfield 77, 3)) (kk : ∀ (H1 : Heap) (locs1 : List Loc), va_P D jCl (jW d a (ku n 33 1 x) g) H1 → va_S (jAa a H0.size) H0 H1 locs1 → W p l e R s m args below meth c H1 locs1 cells slots Q (F0 m (pc + 3) ls rest)) : W p l e R s m args below meth c H locs cells slots Q (F0 m pc ls (.int (nI x) :: .ref (a 33) :: rest)) := j_put X hap hP hS 33 5 (by decide) rfl (jW_u 33 1 x rfl) rfl ju_M jt_M jo_M jn_M (by decide) jm_612 rfl (ty := .boolean) (by decide +kernel) (jnz hx2) (jfz hx2) (Nat.le_of_ble_eq_true rfl) hdg kk
theorem jg_M_85_33 (X : jX p s m args meth c cc mx ret "KeyDistillerModel" d D) (hP : va_P D jCl (jW d a n g) H) (hdg : decode cc pc = .ok (.getfield 85, 3)) (kk : W p l e R s m args below meth c H locs cells slots Q (F0 m (pc + 3) ls (.int (nI (n 33 2)) :: rest))) : W p l e R s m args below meth c H locs cells slots Q (F0 m pc ls (.ref (a 33) :: rest)) := j_get X hP 33 6 (by decide) rfl rfl ju_M (by decide) jm_613 rfl hdg kk
theorem jp_M_85_33 (X : jX p s m args meth c cc mx ret "KeyDistillerModel" d D) (hap : ∀ i j : Nat, i < 52 → j < 52 → a i = a j → i = j) (hP : va_P D jCl (jW d a n g) H) (hS : va_S (jAa a H0.size) H0 H locs) {x : Nat} (hdg : decode cc pc = .ok (.putfield 85, 3)) (kk : ∀ (H1 : Heap) (locs1 : List Loc), va_P D jCl (jW d a (ku n 33 2 x) g) H1 → va_S (jAa a H0.size) H0 H1 locs1 → W p l e R s m args below meth c H1 locs1 cells slots Q (F0 m (pc + 3) ls rest)) : W p l e R s m args below meth c H locs cells slots Q (F0 m pc ls (.int (nI x) :: .ref (a 33) :: rest)) := j_put X hap hP hS 33 6 (by decide) rfl (jW_u 33 2 x rfl) rfl ju_M jt_M jo_M jn_M (by decide) jm_613 rfl (ty := .int) (by decide +kernel) rfl rfl (Nat.le_of_ble_eq_true rfl) hdg kk
theorem jg_M_23_33 (X : jX p s m args meth c cc mx ret "KeyDistillerModel" d D) (hP : va_P D jCl (jW d a n g) H) (hdg : decode cc pc = .ok (.getfield 23, 3)) (kk : W p l e R s m args below meth c H locs cells slots Q (F0 m (pc + 3) ls (.ref (a 38) :: rest))) : W p l e R s m args below meth c H locs cells slots Q (F0 m pc ls (.ref (a 33) :: rest)) := j_get X hP 33 7 (by decide) rfl rfl ju_M (by decide) jm_614 rfl hdg kk
theorem jg_M_111_33 (X : jX p s m args meth c cc mx ret "KeyDistillerModel" d D) (hP : va_P D jCl (jW d a n g) H) (hdg : decode cc pc = .ok (.getfield 111, 3)) (kk : W p l e R s m args below meth c H locs cells slots Q (F0 m (pc + 3) ls (.int (nI (n 33 3)) :: rest))) : W p l e R s m args below meth c H locs cells slots Q (F0 m pc ls (.ref (a 33) :: rest)) := j_get X hP 33 8 (by decide) rfl rfl ju_M (by decide) jm_615 rfl hdg kk
theorem jp_M_111_33 (X : jX p s m args meth c cc mx ret "KeyDistillerModel" d D) (hap : ∀ i j : Nat, i < 52 → j < 52 → a i = a j → i = j) (hP : va_P D jCl (jW d a n g) H) (hS : va_S (jAa a H0.size) H0 H locs) {x : Nat} (hdg : decode cc pc = .ok (.putfield 111, 3)) (kk : ∀ (H1 : Heap) (locs1 : List Loc), va_P D jCl (jW d a (ku n 33 3 x) g) H1 → va_S (jAa a H0.size) H0 H1 locs1 → W p l e R s m args below meth c H1 locs1 cells slots Q (F0 m (pc + 3) ls rest)) : W p l e R s m args below meth c H locs cells slots Q (F0 m pc ls (.int (nI x) :: .ref (a 33) :: rest)) := j_put X hap hP hS 33 8 (by decide) rfl (jW_u 33 3 x rfl) rfl ju_M jt_M jo_M jn_M (by decide) jm_615 rfl (ty := .int) (by decide +kernel) rfl rfl (Nat.le_of_ble_eq_true rfl) hdg kk
theorem jg_M_114_33 (X : jX p s m args meth c cc mx ret "KeyDistillerModel" d D) (hP : va_P D jCl (jW d a n g) H) (hdg : decode cc pc = .ok (.getfield 114, 3)) (kk : W p l e R s m args below meth c H locs cells slots Q (F0 m (pc + 3) ls (.int (nI (n 33 4)) :: rest))) : W p l e R s m args below meth c H locs cells slots Q (F0 m pc ls (.ref (a 33) :: rest)) := j_get X hP 33 9 (by decide) rfl rfl ju_M (by decide) jm_616 rfl hdg kk
theorem jp_M_114_33 (X : jX p s m args meth c cc mx ret "KeyDistillerModel" d D) (hap : ∀ i j : Nat, i < 52 → j < 52 → a i = a j → i = j) (hP : va_P D jCl (jW d a n g) H) (hS : va_S (jAa a H0.size) H0 H locs) {x : Nat} (hdg : decode cc pc = .ok (.putfield 114, 3)) (kk : ∀ (H1 : Heap) (locs1 : List Loc), va_P D jCl (jW d a (ku n 33 4 x) g) H1 → va_S (jAa a H0.size) H0 H1 locs1 → W p l e R s m args below meth c H1 locs1 cells slots Q (F0 m (pc + 3) ls rest)) : W p l e R s m args below meth c H locs cells slots Q (F0 m pc ls (.int (nI x) :: .ref (a 33) :: rest)) := j_put X hap hP hS 33 9 (by decide) rfl (jW_u 33 4 x rfl) rfl ju_M jt_M jo_M jn_M (by decide) jm_616 rfl (ty := .int) (by decide +kernel) rfl rfl (Nat.le_of_ble_eq_true rfl) hdg kk
theorem jg_M_88_33 (X : jX p s m args meth c cc mx ret "KeyDistillerModel" d D) (hP : va_P D jCl (jW d a n g) H) (hdg : decode cc pc = .ok (.getfield 88, 3)) (kk : W p l e R s m args below meth c H locs cells slots Q (F0 m (pc + 3) ls (.long (lN (g 1)) :: rest))) : W p l e R s m args below meth c H locs cells slots Q (F0 m pc ls (.ref (a 33) :: rest)) := j_get X hP 33 10 (by decide) rfl rfl ju_M (by decide) jm_617 rfl hdg kk
theorem jp_M_88_33 (X : jX p s m args meth c cc mx ret "KeyDistillerModel" d D) (hap : ∀ i j : Nat, i < 52 → j < 52 → a i = a j → i = j) (hP : va_P D jCl (jW d a n g) H) (hS : va_S (jAa a H0.size) H0 H locs) {x : Nat} (hdg : decode cc pc = .ok (.putfield 88, 3)) (kk : ∀ (H1 : Heap) (locs1 : List Loc), va_P D jCl (jW d a n (kg g 1 x)) H1 → va_S (jAa a H0.size) H0 H1 locs1 → W p l e R s m args below meth c H1 locs1 cells slots Q (F0 m (pc + 3) ls rest)) : W p l e R s m args below meth c H locs cells slots Q (F0 m pc ls (.long (lN x) :: .ref (a 33) :: rest)) := j_put X hap hP hS 33 10 (by decide) rfl (jW_l 33 1 x (by decide) rfl) rfl ju_M jt_M jo_M jn_M (by decide) jm_617 rfl (ty := .long) (by decide +kernel) rfl rfl (Nat.le_of_ble_eq_true rfl) hdg kk
theorem jg_M_26_33 (X : jX p s m args meth c cc mx ret "KeyDistillerModel" d D) (hP : va_P D jCl (jW d a n g) H) (hdg : decode cc pc = .ok (.getfield 26, 3)) (kk : W p l e R s m args below meth c H locs cells slots Q (F0 m (pc + 3) ls (.ref (a 39) :: rest))) : W p l e R s m args below meth c H locs cells slots Q (F0 m pc ls (.ref (a 33) :: rest)) := j_get X hP 33 11 (by decide) rfl rfl ju_M (by decide) jm_618 rfl hdg kk
theorem jg_M_29_33 (X : jX p s m args meth c cc mx ret "KeyDistillerModel" d D) (hP : va_P D jCl (jW d a n g) H) (hdg : decode cc pc = .ok (.getfield 29, 3)) (kk : W p l e R s m args below meth c H locs cells slots Q (F0 m (pc + 3) ls (.ref (a 40) :: rest))) : W p l e R s m args below meth c H locs cells slots Q (F0 m pc ls (.ref (a 33) :: rest)) := j_get X hP 33 12 (by decide) rfl rfl ju_M (by decide) jm_619 rfl hdg kk
theorem jg_M_104_33 (X : jX p s m args meth c cc mx ret "KeyDistillerModel" d D) (hP : va_P D jCl (jW d a n g) H) (hdg : decode cc pc = .ok (.getfield 104, 3)) (kk : W p l e R s m args below meth c H locs cells slots Q (F0 m (pc + 3) ls (.int (nI (n 33 5)) :: rest))) : W p l e R s m args below meth c H locs cells slots Q (F0 m pc ls (.ref (a 33) :: rest)) := j_get X hP 33 13 (by decide) rfl rfl ju_M (by decide) jm_620 rfl hdg kk
theorem jp_M_104_33 (X : jX p s m args meth c cc mx ret "KeyDistillerModel" d D) (hap : ∀ i j : Nat, i < 52 → j < 52 → a i = a j → i = j) (hP : va_P D jCl (jW d a n g) H) (hS : va_S (jAa a H0.size) H0 H locs) {x : Nat} (hx2 : x < 2) (hdg : decode cc pc = .ok (.putfield 104, 3)) (kk : ∀ (H1 : Heap) (locs1 : List Loc), va_P D jCl (jW d a (ku n 33 5 x) g) H1 → va_S (jAa a H0.size) H0 H1 locs1 → W p l e R s m args below meth c H1 locs1 cells slots Q (F0 m (pc + 3) ls rest)) : W p l e R s m args below meth c H locs cells slots Q (F0 m pc ls (.int (nI x) :: .ref (a 33) :: rest)) := j_put X hap hP hS 33 13 (by decide) rfl (jW_u 33 5 x rfl) rfl ju_M jt_M jo_M jn_M (by decide) jm_620 rfl (ty := .boolean) (by decide +kernel) (jnz hx2) (jfz hx2) (Nat.le_of_ble_eq_true rfl) hdg kk
theorem jg_M_117_33 (X : jX p s m args meth c cc mx ret "KeyDistillerModel" d D) (hP : va_P D jCl (jW d a n g) H) (hdg : decode cc pc = .ok (.getfield 117, 3)) (kk : W p l e R s m args below meth c H locs cells slots Q (F0 m (pc + 3) ls (.int (nI (n 33 6)) :: rest))) : W p l e R s m args below meth c H locs cells slots Q (F0 m pc ls (.ref (a 33) :: rest)) := j_get X hP 33 14 (by decide) rfl rfl ju_M (by decide) jm_621 rfl hdg kk
theorem jp_M_117_33 (X : jX p s m args meth c cc mx ret "KeyDistillerModel" d D) (hap : ∀ i j : Nat, i < 52 → j < 52 → a i = a j → i = j) (hP : va_P D jCl (jW d a n g) H) (hS : va_S (jAa a H0.size) H0 H locs) {x : Nat} (hdg : decode cc pc = .ok (.putfield 117, 3)) (kk : ∀ (H1 : Heap) (locs1 : List Loc), va_P D jCl (jW d a (ku n 33 6 x) g) H1 → va_S (jAa a H0.size) H0 H1 locs1 → W p l e R s m args below meth c H1 locs1 cells slots Q (F0 m (pc + 3) ls rest)) : W p l e R s m args below meth c H locs cells slots Q (F0 m pc ls (.int (nI x) :: .ref (a 33) :: rest)) := j_put X hap hP hS 33 14 (by decide) rfl (jW_u 33 6 x rfl) rfl ju_M jt_M jo_M jn_M (by decide) jm_621 rfl (ty := .int) (by decide +kernel) rfl rfl (Nat.le_of_ble_eq_true rfl) hdg kk
theorem jg_M_32_33 (X : jX p s m args meth c cc mx ret "KeyDistillerModel" d D) (hP : va_P D jCl (jW d a n g) H) (hdg : decode cc pc = .ok (.getfield 32, 3)) (kk : W p l e R s m args below meth c H locs cells slots Q (F0 m (pc + 3) ls (.int (nI (n 33 7)) :: rest))) : W p l e R s m args below meth c H locs cells slots Q (F0 m pc ls (.ref (a 33) :: rest)) := j_get X hP 33 15 (by decide) rfl rfl ju_M (by decide) jm_622 rfl hdg kk
theorem jp_M_32_33 (X : jX p s m args meth c cc mx ret "KeyDistillerModel" d D) (hap : ∀ i j : Nat, i < 52 → j < 52 → a i = a j → i = j) (hP : va_P D jCl (jW d a n g) H) (hS : va_S (jAa a H0.size) H0 H locs) {x : Nat} (hdg : decode cc pc = .ok (.putfield 32, 3)) (kk : ∀ (H1 : Heap) (locs1 : List Loc), va_P D jCl (jW d a (ku n 33 7 x) g) H1 → va_S (jAa a H0.size) H0 H1 locs1 → W p l e R s m args below meth c H1 locs1 cells slots Q (F0 m (pc + 3) ls rest)) : W p l e R s m args below meth c H locs cells slots Q (F0 m pc ls (.int (nI x) :: .ref (a 33) :: rest)) := j_put X hap hP hS 33 15 (by decide) rfl (jW_u 33 7 x rfl) rfl ju_M jt_M jo_M jn_M (by decide) jm_622 rfl (ty := .int) (by decide +kernel) rfl rfl (Nat.le_of_ble_eq_true rfl) hdg kk
theorem jg_M_36_33 (X : jX p s m args meth c cc mx ret "KeyDistillerModel" d D) (hP : va_P D jCl (jW d a n g) H) (hdg : decode cc pc = .ok (.getfield 36, 3)) (kk : W p l e R s m args below meth c H locs cells slots Q (F0 m (pc + 3) ls (.ref (a 41) :: rest))) : W p l e R s m args below meth c H locs cells slots Q (F0 m pc ls (.ref (a 33) :: rest)) := j_get X hP 33 16 (by decide) rfl rfl ju_M (by decide) jm_623 rfl hdg kk
theorem jg_M_129_33 (X : jX p s m args meth c cc mx ret "KeyDistillerModel" d D) (hP : va_P D jCl (jW d a n g) H) (hdg : decode cc pc = .ok (.getfield 129, 3)) (kk : W p l e R s m args below meth c H locs cells slots Q (F0 m (pc + 3) ls (.int (nI (n 33 8)) :: rest))) : W p l e R s m args below meth c H locs cells slots Q (F0 m pc ls (.ref (a 33) :: rest)) := j_get X hP 33 17 (by decide) rfl rfl ju_M (by decide) jm_624 rfl hdg kk
theorem jp_M_129_33 (X : jX p s m args meth c cc mx ret "KeyDistillerModel" d D) (hap : ∀ i j : Nat, i < 52 → j < 52 → a i = a j → i = j) (hP : va_P D jCl (jW d a n g) H) (hS : va_S (jAa a H0.size) H0 H locs) {x : Nat} (hdg : decode cc pc = .ok (.putfield 129, 3)) (kk : ∀ (H1 : Heap) (locs1 : List Loc), va_P D jCl (jW d a (ku n 33 8 x) g) H1 → va_S (jAa a H0.size) H0 H1 locs1 → W p l e R s m args below meth c H1 locs1 cells slots Q (F0 m (pc + 3) ls rest)) : W p l e R s m args below meth c H locs cells slots Q (F0 m pc ls (.int (nI x) :: .ref (a 33) :: rest)) := j_put X hap hP hS 33 17 (by decide) rfl (jW_u 33 8 x rfl) rfl ju_M jt_M jo_M jn_M (by decide) jm_624 rfl (ty := .int) (by decide +kernel) rfl rfl (Nat.le_of_ble_eq_true rfl) hdg kk
theorem jg_M_126_33 (X : jX p s m args meth c cc mx ret "KeyDistillerModel" d D) (hP : va_P D jCl (jW d a n g) H) (hdg : decode cc pc = .ok (.getfield 126, 3)) (kk : W p l e R s m args below meth c H locs cells slots Q (F0 m (pc + 3) ls (.int (nI (n 33 9)) :: rest))) : W p l e R s m args below meth c H locs cells slots Q (F0 m pc ls (.ref (a 33) :: rest)) := j_get X hP 33 18 (by decide) rfl rfl ju_M (by decide) jm_625 rfl hdg kk
theorem jp_M_126_33 (X : jX p s m args meth c cc mx ret "KeyDistillerModel" d D) (hap : ∀ i j : Nat, i < 52 → j < 52 → a i = a j → i = j) (hP : va_P D jCl (jW d a n g) H) (hS : va_S (jAa a H0.size) H0 H locs) {x : Nat} (hdg : decode cc pc = .ok (.putfield 126, 3)) (kk : ∀ (H1 : Heap) (locs1 : List Loc), va_P D jCl (jW d a (ku n 33 9 x) g) H1 → va_S (jAa a H0.size) H0 H1 locs1 → W p l e R s m args below meth c H1 locs1 cells slots Q (F0 m (pc + 3) ls rest)) : W p l e R s m args below meth c H locs cells slots Q (F0 m pc ls (.int (nI x) :: .ref (a 33) :: rest)) := j_put X hap hP hS 33 18 (by decide) rfl (jW_u 33 9 x rfl) rfl ju_M jt_M jo_M jn_M (by decide) jm_625 rfl (ty := .int) (by decide +kernel) rfl rfl (Nat.le_of_ble_eq_true rfl) hdg kk
theorem jg_M_166_33 (X : jX p s m args meth c cc mx ret "KeyDistillerModel" d D) (hP : va_P D jCl (jW d a n g) H) (hdg : decode cc pc = .ok (.getfield 166, 3)) (kk : W p l e R s m args below meth c H locs cells slots Q (F0 m (pc + 3) ls (.int (nI (n 33 10)) :: rest))) : W p l e R s m args below meth c H locs cells slots Q (F0 m pc ls (.ref (a 33) :: rest)) := j_get X hP 33 19 (by decide) rfl rfl ju_M (by decide) jm_626 rfl hdg kk
theorem jp_M_166_33 (X : jX p s m args meth c cc mx ret "KeyDistillerModel" d D) (hap : ∀ i j : Nat, i < 52 → j < 52 → a i = a j → i = j) (hP : va_P D jCl (jW d a n g) H) (hS : va_S (jAa a H0.size) H0 H locs) {x : Nat} (hdg : decode cc pc = .ok (.putfield 166, 3)) (kk : ∀ (H1 : Heap) (locs1 : List Loc), va_P D jCl (jW d a (ku n 33 10 x) g) H1 → va_S (jAa a H0.size) H0 H1 locs1 → W p l e R s m args below meth c H1 locs1 cells slots Q (F0 m (pc + 3) ls rest)) : W p l e R s m args below meth c H locs cells slots Q (F0 m pc ls (.int (nI x) :: .ref (a 33) :: rest)) := j_put X hap hP hS 33 19 (by decide) rfl (jW_u 33 10 x rfl) rfl ju_M jt_M jo_M jn_M (by decide) jm_626 rfl (ty := .int) (by decide +kernel) rfl rfl (Nat.le_of_ble_eq_true rfl) hdg kk
theorem jg_M_39_33 (X : jX p s m args meth c cc mx ret "KeyDistillerModel" d D) (hP : va_P D jCl (jW d a n g) H) (hdg : decode cc pc = .ok (.getfield 39, 3)) (kk : W p l e R s m args below meth c H locs cells slots Q (F0 m (pc + 3) ls (.ref (a 42) :: rest))) : W p l e R s m args below meth c H locs cells slots Q (F0 m pc ls (.ref (a 33) :: rest)) := j_get X hP 33 20 (by decide) rfl rfl ju_M (by decide) jm_627 rfl hdg kk
theorem jg_M_42_33 (X : jX p s m args meth c cc mx ret "KeyDistillerModel" d D) (hP : va_P D jCl (jW d a n g) H) (hdg : decode cc pc = .ok (.getfield 42, 3)) (kk : W p l e R s m args below meth c H locs cells slots Q (F0 m (pc + 3) ls (.ref (a 43) :: rest))) : W p l e R s m args below meth c H locs cells slots Q (F0 m pc ls (.ref (a 33) :: rest)) := j_get X hP 33 21 (by decide) rfl rfl ju_M (by decide) jm_628 rfl hdg kk
theorem jg_M_45_33 (X : jX p s m args meth c cc mx ret "KeyDistillerModel" d D) (hP : va_P D jCl (jW d a n g) H) (hdg : decode cc pc = .ok (.getfield 45, 3)) (kk : W p l e R s m args below meth c H locs cells slots Q (F0 m (pc + 3) ls (.ref (a 44) :: rest))) : W p l e R s m args below meth c H locs cells slots Q (F0 m pc ls (.ref (a 33) :: rest)) := j_get X hP 33 22 (by decide) rfl rfl ju_M (by decide) jm_629 rfl hdg kk
theorem jg_M_48_33 (X : jX p s m args meth c cc mx ret "KeyDistillerModel" d D) (hP : va_P D jCl (jW d a n g) H) (hdg : decode cc pc = .ok (.getfield 48, 3)) (kk : W p l e R s m args below meth c H locs cells slots Q (F0 m (pc + 3) ls (.ref (a 45) :: rest))) : W p l e R s m args below meth c H locs cells slots Q (F0 m pc ls (.ref (a 33) :: rest)) := j_get X hP 33 23 (by decide) rfl rfl ju_M (by decide) jm_630 rfl hdg kk
theorem jg_M_123_33 (X : jX p s m args meth c cc mx ret "KeyDistillerModel" d D) (hP : va_P D jCl (jW d a n g) H) (hdg : decode cc pc = .ok (.getfield 123, 3)) (kk : W p l e R s m args below meth c H locs cells slots Q (F0 m (pc + 3) ls (.int (nI (n 33 11)) :: rest))) : W p l e R s m args below meth c H locs cells slots Q (F0 m pc ls (.ref (a 33) :: rest)) := j_get X hP 33 24 (by decide) rfl rfl ju_M (by decide) jm_631 rfl hdg kk
theorem jp_M_123_33 (X : jX p s m args meth c cc mx ret "KeyDistillerModel" d D) (hap : ∀ i j : Nat, i < 52 → j < 52 → a i = a j → i = j) (hP : va_P D jCl (jW d a n g) H) (hS : va_S (jAa a H0.size) H0 H locs) {x : Nat} (hdg : decode cc pc = .ok (.putfield 123, 3)) (kk : ∀ (H1 : Heap) (locs1 : List Loc), va_P D jCl (jW d a (ku n 33 11 x) g) H1 → va_S (jAa a H0.size) H0 H1 locs1 → W p l e R s m args below meth c H1 locs1 cells slots Q (F0 m (pc + 3) ls rest)) : W p l e R s m args below meth c H locs cells slots Q (F0 m pc ls (.int (nI x) :: .ref (a 33) :: rest)) := j_put X hap hP hS 33 24 (by decide) rfl (jW_u 33 11 x rfl) rfl ju_M jt_M jo_M jn_M (by decide) jm_631 rfl (ty := .int) (by decide +kernel) rfl rfl (Nat.le_of_ble_eq_true rfl) hdg kk
theorem jg_M_51_33 (X : jX p s m args meth c cc mx ret "KeyDistillerModel" d D) (hP : va_P D jCl (jW d a n g) H) (hdg : decode cc pc = .ok (.getfield 51, 3)) (kk : W p l e R s m args below meth c H locs cells slots Q (F0 m (pc + 3) ls (.ref (a 46) :: rest))) : W p l e R s m args below meth c H locs cells slots Q (F0 m pc ls (.ref (a 33) :: rest)) := j_get X hP 33 25 (by decide) rfl rfl ju_M (by decide) jm_632 rfl hdg kk
theorem jg_M_54_33 (X : jX p s m args meth c cc mx ret "KeyDistillerModel" d D) (hP : va_P D jCl (jW d a n g) H) (hdg : decode cc pc = .ok (.getfield 54, 3)) (kk : W p l e R s m args below meth c H locs cells slots Q (F0 m (pc + 3) ls (.ref (a 47) :: rest))) : W p l e R s m args below meth c H locs cells slots Q (F0 m pc ls (.ref (a 33) :: rest)) := j_get X hP 33 26 (by decide) rfl rfl ju_M (by decide) jm_633 rfl hdg kk
theorem jg_M_57_33 (X : jX p s m args meth c cc mx ret "KeyDistillerModel" d D) (hP : va_P D jCl (jW d a n g) H) (hdg : decode cc pc = .ok (.getfield 57, 3)) (kk : W p l e R s m args below meth c H locs cells slots Q (F0 m (pc + 3) ls (.ref (a 48) :: rest))) : W p l e R s m args below meth c H locs cells slots Q (F0 m pc ls (.ref (a 33) :: rest)) := j_get X hP 33 27 (by decide) rfl rfl ju_M (by decide) jm_634 rfl hdg kk
theorem jg_M_178_33 (X : jX p s m args meth c cc mx ret "KeyDistillerModel" d D) (hP : va_P D jCl (jW d a n g) H) (hdg : decode cc pc = .ok (.getfield 178, 3)) (kk : W p l e R s m args below meth c H locs cells slots Q (F0 m (pc + 3) ls (.int (nI (n 33 12)) :: rest))) : W p l e R s m args below meth c H locs cells slots Q (F0 m pc ls (.ref (a 33) :: rest)) := j_get X hP 33 28 (by decide) rfl rfl ju_M (by decide) jm_635 rfl hdg kk
theorem jp_M_178_33 (X : jX p s m args meth c cc mx ret "KeyDistillerModel" d D) (hap : ∀ i j : Nat, i < 52 → j < 52 → a i = a j → i = j) (hP : va_P D jCl (jW d a n g) H) (hS : va_S (jAa a H0.size) H0 H locs) {x : Nat} (hdg : decode cc pc = .ok (.putfield 178, 3)) (kk : ∀ (H1 : Heap) (locs1 : List Loc), va_P D jCl (jW d a (ku n 33 12 x) g) H1 → va_S (jAa a H0.size) H0 H1 locs1 → W p l e R s m args below meth c H1 locs1 cells slots Q (F0 m (pc + 3) ls rest)) : W p l e R s m args below meth c H locs cells slots Q (F0 m pc ls (.int (nI x) :: .ref (a 33) :: rest)) := j_put X hap hP hS 33 28 (by decide) rfl (jW_u 33 12 x rfl) rfl ju_M jt_M jo_M jn_M (by decide) jm_635 rfl (ty := .int) (by decide +kernel) rfl rfl (Nat.le_of_ble_eq_true rfl) hdg kk
theorem jg_M_60_33 (X : jX p s m args meth c cc mx ret "KeyDistillerModel" d D) (hP : va_P D jCl (jW d a n g) H) (hdg : decode cc pc = .ok (.getfield 60, 3)) (kk : W p l e R s m args below meth c H locs cells slots Q (F0 m (pc + 3) ls (.ref (a 49) :: rest))) : W p l e R s m args below meth c H locs cells slots Q (F0 m pc ls (.ref (a 33) :: rest)) := j_get X hP 33 29 (by decide) rfl rfl ju_M (by decide) jm_636 rfl hdg kk
theorem jg_M_63_33 (X : jX p s m args meth c cc mx ret "KeyDistillerModel" d D) (hP : va_P D jCl (jW d a n g) H) (hdg : decode cc pc = .ok (.getfield 63, 3)) (kk : W p l e R s m args below meth c H locs cells slots Q (F0 m (pc + 3) ls (.ref (a 50) :: rest))) : W p l e R s m args below meth c H locs cells slots Q (F0 m pc ls (.ref (a 33) :: rest)) := j_get X hP 33 30 (by decide) rfl rfl ju_M (by decide) jm_637 rfl hdg kk
end J10
end
section
/-! heads of walks: the end's law stands as a hypothesis hQ, so that loops needn't name it -/
theorem jq_I {l : Launch} {d : Nat → Nat} {D : va_G} {a : Nat → Nat} {n : Nat → Nat → Nat} {g : Nat → Nat} {y : MethodName} {b : ByteArray} {mx : Nat} {rm : Room} {av : List Value} {x : Nat} (hy : plainName y.cls = true) (hle : (lg_sl av).length ≤ mx)
    (body : ∀ (p : Program) (e : Env) (s : State) (m : MethodId) (A : Array Value) (below : List Frame) (meth : Method) (c : Code) (ls : Array Slot) (Q : State → Prop), jX p s m A meth c b mx (some .int) y.cls d D → va_P D jCl (jW d a n g) s.heap → lv_has ls mx (lv_args 0 av) →
      (∀ (pc : Nat) (ls : Array Slot), decode b pc = .ok (.ireturn, 1) → W p l e rm s m A below meth c s.heap [] 0 0 Q (F0 m pc ls [.int (nI x)])) → W p l e rm s m A below meth c s.heap [] 0 0 Q (F0 m 0 ls [])) : jPure l d D a n g y b mx (some .int) rm av (some (.int (nI x))) :=
  j_pure hy hle fun p e s m below meth c ls X hP hl => body p e s m _ below meth c ls _ X hP hl fun pc ls hd => W.iret X.1 X.2.1 X.2.2.2.1 (fun t ht _ => ⟨rfl, ht⟩) (fun _ h => by cases h) hd X.2.2.2.2.1
theorem jq_Z {l : Launch} {d : Nat → Nat} {D : va_G} {a : Nat → Nat} {n : Nat → Nat → Nat} {g : Nat → Nat} {y : MethodName} {b : ByteArray} {mx : Nat} {rm : Room} {av : List Value} {x : Nat} (hx2 : x < 2) (hy : plainName y.cls = true) (hle : (lg_sl av).length ≤ mx)
    (body : ∀ (p : Program) (e : Env) (s : State) (m : MethodId) (A : Array Value) (below : List Frame) (meth : Method) (c : Code) (ls : Array Slot) (Q : State → Prop), jX p s m A meth c b mx (some .boolean) y.cls d D → va_P D jCl (jW d a n g) s.heap → lv_has ls mx (lv_args 0 av) →
      (∀ (pc : Nat) (ls : Array Slot), decode b pc = .ok (.ireturn, 1) → W p l e rm s m A below meth c s.heap [] 0 0 Q (F0 m pc ls [.int (nI x)])) → W p l e rm s m A below meth c s.heap [] 0 0 Q (F0 m 0 ls [])) : jPure l d D a n g y b mx (some .boolean) rm av (some (.int (nI x))) :=
  j_pure hy hle fun p e s m below meth c ls X hP hl => body p e s m _ below meth c ls _ X hP hl fun pc ls hd => W.zret X.1 X.2.1 X.2.2.2.1 (jnz hx2) (fun t ht _ => ⟨rfl, ht⟩) (fun _ h => by cases h) hd X.2.2.2.2.1
theorem jq_A {l : Launch} {d : Nat → Nat} {D : va_G} {a : Nat → Nat} {n : Nat → Nat → Nat} {g : Nat → Nat} {y : MethodName} {b : ByteArray} {mx : Nat} {rm : Room} {av : List Value} {x : Nat} {C : String} (hy : plainName y.cls = true) (hle : (lg_sl av).length ≤ mx)
    (body : ∀ (p : Program) (e : Env) (s : State) (m : MethodId) (A : Array Value) (below : List Frame) (meth : Method) (c : Code) (ls : Array Slot) (Q : State → Prop), jX p s m A meth c b mx (some (.object C)) y.cls d D → va_P D jCl (jW d a n g) s.heap → lv_has ls mx (lv_args 0 av) →
      (∀ (pc : Nat) (ls : Array Slot), decode b pc = .ok (.areturn, 1) → W p l e rm s m A below meth c s.heap [] 0 0 Q (F0 m pc ls [.ref x])) → W p l e rm s m A below meth c s.heap [] 0 0 Q (F0 m 0 ls [])) : jPure l d D a n g y b mx (some (.object C)) rm av (some (.ref x)) :=
  j_pure hy hle fun p e s m below meth c ls X hP hl => body p e s m _ below meth c ls _ X hP hl fun pc ls hd => W.aret X.1 X.2.1 X.2.2.2.1 (Or.inl ⟨C, rfl⟩) (Or.inr ⟨x, rfl⟩) (fun t ht _ => ⟨rfl, ht⟩) (fun _ h => by cases h) hd X.2.2.2.2.1
theorem je_I {l : Launch} {d : Nat → Nat} {D : va_G} {a : Nat → Nat} {n : Nat → Nat → Nat} {g : Nat → Nat} {y : MethodName} {b : ByteArray} {mx : Nat} {rm : Room} {av : List Value} {post : Option Value → (Nat → Nat → Nat) → (Nat → Nat) → Prop} (hy : plainName y.cls = true) (hle : (lg_sl av).length ≤ mx)
    (body : ∀ (p : Program) (e : Env) (s : State) (m : MethodId) (A : Array Value) (below : List Frame) (meth : Method) (c : Code) (ls : Array Slot) (Q : State → Prop), jX p s m A meth c b mx (some .int) y.cls d D → va_P D jCl (jW d a n g) s.heap → va_S (jAa a s.heap.size) s.heap s.heap [] → lv_has ls mx (lv_args 0 av) →
      (∀ (x : Nat) (n2 : Nat → Nat → Nat) (g2 : Nat → Nat) (H1 : Heap) (locs1 : List Loc) (pc : Nat) (ls : Array Slot), post (some (.int (nI x))) n2 g2 → va_P D jCl (jW d a n2 g2) H1 → va_S (jAa a s.heap.size) s.heap H1 locs1 → decode b pc = .ok (.ireturn, 1) → W p l e rm s m A below meth c H1 locs1 0 0 Q (F0 m pc ls [.int (nI x)])) → W p l e rm s m A below meth c s.heap [] 0 0 Q (F0 m 0 ls [])) : jEff l d D a n g y b mx (some .int) rm av post :=
  j_eff hy hle fun p e s m below meth c ls X hP hl => body p e s m _ below meth c ls _ X hP va_S.rf hl fun x n2 g2 H1 locs1 pc ls hp hP1 hS hd => W.iret X.1 X.2.1 X.2.2.2.1 (fun t ht _ => ⟨⟨_, n2, g2, rfl, hp, by rw [ht]; exact hP1⟩, hS.F ht⟩) hS.2.2 hd X.2.2.2.2.1
theorem je_Z {l : Launch} {d : Nat → Nat} {D : va_G} {a : Nat → Nat} {n : Nat → Nat → Nat} {g : Nat → Nat} {y : MethodName} {b : ByteArray} {mx : Nat} {rm : Room} {av : List Value} {post : Option Value → (Nat → Nat → Nat) → (Nat → Nat) → Prop} (hy : plainName y.cls = true) (hle : (lg_sl av).length ≤ mx)
    (body : ∀ (p : Program) (e : Env) (s : State) (m : MethodId) (A : Array Value) (below : List Frame) (meth : Method) (c : Code) (ls : Array Slot) (Q : State → Prop), jX p s m A meth c b mx (some .boolean) y.cls d D → va_P D jCl (jW d a n g) s.heap → va_S (jAa a s.heap.size) s.heap s.heap [] → lv_has ls mx (lv_args 0 av) →
      (∀ (x : Nat) (n2 : Nat → Nat → Nat) (g2 : Nat → Nat) (H1 : Heap) (locs1 : List Loc) (pc : Nat) (ls : Array Slot), x < 2 → post (some (.int (nI x))) n2 g2 → va_P D jCl (jW d a n2 g2) H1 → va_S (jAa a s.heap.size) s.heap H1 locs1 → decode b pc = .ok (.ireturn, 1) → W p l e rm s m A below meth c H1 locs1 0 0 Q (F0 m pc ls [.int (nI x)])) → W p l e rm s m A below meth c s.heap [] 0 0 Q (F0 m 0 ls [])) : jEff l d D a n g y b mx (some .boolean) rm av post :=
  j_eff hy hle fun p e s m below meth c ls X hP hl => body p e s m _ below meth c ls _ X hP va_S.rf hl fun x n2 g2 H1 locs1 pc ls hx2 hp hP1 hS hd => W.zret X.1 X.2.1 X.2.2.2.1 (jnz hx2) (fun t ht _ => ⟨⟨_, n2, g2, rfl, hp, by rw [ht]; exact hP1⟩, hS.F ht⟩) hS.2.2 hd X.2.2.2.2.1
theorem je_V {l : Launch} {d : Nat → Nat} {D : va_G} {a : Nat → Nat} {n : Nat → Nat → Nat} {g : Nat → Nat} {y : MethodName} {b : ByteArray} {mx : Nat} {rm : Room} {av : List Value} {post : Option Value → (Nat → Nat → Nat) → (Nat → Nat) → Prop} (hy : plainName y.cls = true) (hle : (lg_sl av).length ≤ mx)
    (body : ∀ (p : Program) (e : Env) (s : State) (m : MethodId) (A : Array Value) (below : List Frame) (meth : Method) (c : Code) (ls : Array Slot) (Q : State → Prop), jX p s m A meth c b mx none y.cls d D → va_P D jCl (jW d a n g) s.heap → va_S (jAa a s.heap.size) s.heap s.heap [] → lv_has ls mx (lv_args 0 av) →
      (∀ (n2 : Nat → Nat → Nat) (g2 : Nat → Nat) (H1 : Heap) (locs1 : List Loc) (pc : Nat) (ls : Array Slot), post none n2 g2 → va_P D jCl (jW d a n2 g2) H1 → va_S (jAa a s.heap.size) s.heap H1 locs1 → decode b pc = .ok (.return_, 1) → W p l e rm s m A below meth c H1 locs1 0 0 Q (F0 m pc ls [])) → W p l e rm s m A below meth c s.heap [] 0 0 Q (F0 m 0 ls [])) : jEff l d D a n g y b mx none rm av post :=
  j_eff hy hle fun p e s m below meth c ls X hP hl => body p e s m _ below meth c ls _ X hP va_S.rf hl fun n2 g2 H1 locs1 pc ls hp hP1 hS hd => W.vret X.1 X.2.1 X.2.2.2.1 (fun t ht _ => ⟨⟨_, n2, g2, rfl, hp, by rw [ht]; exact hP1⟩, hS.F ht⟩) hS.2.2 hd X.2.2.2.2.1
theorem kn_inc (x : Nat) : nI x + Int32.ofInt 1 = nI (x + 1) := by
  have h : Int32.ofInt 1 = nI 1 := by decide
  rw [h, nI_add]
theorem kn_dec {x : Nat} (h : 0 < x) : nI x + Int32.ofInt (-1) = nI (x - 1) := by
  have h1 : Int32.ofInt (-1) = (-1 : Int32) := by decide
  rw [h1]
  exact sb_m1 h
theorem kn_inc16 (x : Nat) : nI x + Int32.ofInt 16 = nI (x + 16) := by
  have h : Int32.ofInt 16 = nI 16 := by decide
  rw [h, nI_add]
theorem kn_inc7 (x : Nat) : nI x + Int32.ofInt 7 = nI (x + 7) := by
  have h : Int32.ofInt 7 = nI 7 := by decide
  rw [h, nI_add]
theorem kn_sl {x y : Nat} (h : x < 4294967296 ∧ y < 2147483648) : nI x < nI y ↔ (2147483648 ≤ x ∨ x < y) := by
  rw [Int32.lt_iff_toInt_lt, kn_toInt h.1, kn_toInt (by omega)]
  split <;> split <;> omega
theorem kn_sr {x y : Nat} (h : x < 4294967296 ∧ y < 2147483648) : nI y ≤ nI x ↔ (x < 2147483648 ∧ y ≤ x) := by
  rw [Int32.le_iff_toInt_le, kn_toInt h.1, kn_toInt (by omega)]
  split <;> split <;> omega
theorem kn_st {x y : Nat} (h : x < 4294967296 ∧ y < 2147483648) : nI y < nI x ↔ (x < 2147483648 ∧ y < x) := by
  rw [Int32.lt_iff_toInt_lt, kn_toInt h.1, kn_toInt (by omega)]
  split <;> split <;> omega
theorem kn_su {x y : Nat} (h : x < 4294967296 ∧ y < 2147483648) : nI x ≤ nI y ↔ (2147483648 ≤ x ∨ x ≤ y) := by
  rw [Int32.le_iff_toInt_le, kn_toInt h.1, kn_toInt (by omega)]
  split <;> split <;> omega
section KX
variable {p : Program} {l : Launch} {e : Env} {R : Room} {s : State} {m : MethodId} {args : Array Value} {below : List Frame} {meth : Method} {c : Code} {H : Heap} {locs : List Loc} {cells slots : Nat} {Q : State → Prop}
variable {cc : ByteArray} {pc : Nat} {ls : Array Slot} {rest : List Value}
theorem kn_xlt (hx : p.tables.exec = Jvm.exec) (hb : c.code = cc) {x y : Nat} {off : Int} {tgt : Nat} (hdg : decode cc pc = .ok (.if_icmp .lt off, 3)) (ht : (pc : Int) + off = (tgt : Int)) (h : x < 4294967296 ∧ y < 2147483648)
    (kt : (2147483648 ≤ x ∨ x < y) → W p l e R s m args below meth c H locs cells slots Q (F0 m tgt ls rest)) (kf : (x < 2147483648 ∧ y ≤ x) → W p l e R s m args below meth c H locs cells slots Q (F0 m (pc + 3) ls rest)) : W p l e R s m args below meth c H locs cells slots Q (F0 m pc ls (.int (nI y) :: .int (nI x) :: rest)) :=
  lv_icmp_lt hx hb hdg ht (fun z => kt ((kn_sl h).mp z)) (fun z => kf (by have hz := mt (kn_sl h).mpr z; omega))
theorem kn_xge (hx : p.tables.exec = Jvm.exec) (hb : c.code = cc) {x y : Nat} {off : Int} {tgt : Nat} (hdg : decode cc pc = .ok (.if_icmp .ge off, 3)) (ht : (pc : Int) + off = (tgt : Int)) (h : x < 4294967296 ∧ y < 2147483648)
    (kt : (x < 2147483648 ∧ y ≤ x) → W p l e R s m args below meth c H locs cells slots Q (F0 m tgt ls rest)) (kf : (2147483648 ≤ x ∨ x < y) → W p l e R s m args below meth c H locs cells slots Q (F0 m (pc + 3) ls rest)) : W p l e R s m args below meth c H locs cells slots Q (F0 m pc ls (.int (nI y) :: .int (nI x) :: rest)) :=
  lv_icmp_ge hx hb hdg ht (fun z => kt ((kn_sr h).mp z)) (fun z => kf (by have hz := mt (kn_sr h).mpr z; omega))
theorem kn_xgt (hx : p.tables.exec = Jvm.exec) (hb : c.code = cc) {x y : Nat} {off : Int} {tgt : Nat} (hdg : decode cc pc = .ok (.if_icmp .gt off, 3)) (ht : (pc : Int) + off = (tgt : Int)) (h : x < 4294967296 ∧ y < 2147483648)
    (kt : (x < 2147483648 ∧ y < x) → W p l e R s m args below meth c H locs cells slots Q (F0 m tgt ls rest)) (kf : (2147483648 ≤ x ∨ x ≤ y) → W p l e R s m args below meth c H locs cells slots Q (F0 m (pc + 3) ls rest)) : W p l e R s m args below meth c H locs cells slots Q (F0 m pc ls (.int (nI y) :: .int (nI x) :: rest)) :=
  lv_icmp_gt hx hb hdg ht (fun z => kt ((kn_st h).mp z)) (fun z => kf (by have hz := mt (kn_st h).mpr z; omega))
theorem kn_xle (hx : p.tables.exec = Jvm.exec) (hb : c.code = cc) {x y : Nat} {off : Int} {tgt : Nat} (hdg : decode cc pc = .ok (.if_icmp .le off, 3)) (ht : (pc : Int) + off = (tgt : Int)) (h : x < 4294967296 ∧ y < 2147483648)
    (kt : (2147483648 ≤ x ∨ x ≤ y) → W p l e R s m args below meth c H locs cells slots Q (F0 m tgt ls rest)) (kf : (x < 2147483648 ∧ y < x) → W p l e R s m args below meth c H locs cells slots Q (F0 m (pc + 3) ls rest)) : W p l e R s m args below meth c H locs cells slots Q (F0 m pc ls (.int (nI y) :: .int (nI x) :: rest)) :=
  lv_icmp_le hx hb hdg ht (fun z => kt ((kn_su h).mp z)) (fun z => kf (by have hz := mt (kn_su h).mpr z; omega))
theorem kn_lt0 (hx : p.tables.exec = Jvm.exec) (hb : c.code = cc) {x : Nat} {off : Int} {tgt : Nat} (hdg : decode cc pc = .ok (.ifCond .lt off, 3)) (ht : (pc : Int) + off = (tgt : Int)) (h : x < 4294967296)
    (kt : 2147483648 ≤ x → W p l e R s m args below meth c H locs cells slots Q (F0 m tgt ls rest)) (kf : x < 2147483648 → W p l e R s m args below meth c H locs cells slots Q (F0 m (pc + 3) ls rest)) : W p l e R s m args below meth c H locs cells slots Q (F0 m pc ls (.int (nI x) :: rest)) :=
  lv_if_lt hx hb hdg ht (fun z => kt (by have := (kn_sl (y := 0) ⟨h, by decide⟩).mp z; omega)) (fun z => kf (by have hz := mt (kn_sl (y := 0) ⟨h, by decide⟩).mpr z; omega))
theorem kn_ge0 (hx : p.tables.exec = Jvm.exec) (hb : c.code = cc) {x : Nat} {off : Int} {tgt : Nat} (hdg : decode cc pc = .ok (.ifCond .ge off, 3)) (ht : (pc : Int) + off = (tgt : Int)) (h : x < 4294967296)
    (kt : x < 2147483648 → W p l e R s m args below meth c H locs cells slots Q (F0 m tgt ls rest)) (kf : 2147483648 ≤ x → W p l e R s m args below meth c H locs cells slots Q (F0 m (pc + 3) ls rest)) : W p l e R s m args below meth c H locs cells slots Q (F0 m pc ls (.int (nI x) :: rest)) :=
  lv_if_ge hx hb hdg ht (fun z => kt (by have := (kn_sr (y := 0) ⟨h, by decide⟩).mp z; omega)) (fun z => kf (by have hz := mt (kn_sr (y := 0) ⟨h, by decide⟩).mpr z; omega))
theorem kn_gt0 (hx : p.tables.exec = Jvm.exec) (hb : c.code = cc) {x : Nat} {off : Int} {tgt : Nat} (hdg : decode cc pc = .ok (.ifCond .gt off, 3)) (ht : (pc : Int) + off = (tgt : Int)) (h : x < 4294967296)
    (kt : (x < 2147483648 ∧ 0 < x) → W p l e R s m args below meth c H locs cells slots Q (F0 m tgt ls rest)) (kf : (2147483648 ≤ x ∨ x = 0) → W p l e R s m args below meth c H locs cells slots Q (F0 m (pc + 3) ls rest)) : W p l e R s m args below meth c H locs cells slots Q (F0 m pc ls (.int (nI x) :: rest)) :=
  lv_if_gt hx hb hdg ht (fun z => kt (by have := (kn_st (y := 0) ⟨h, by decide⟩).mp z; omega)) (fun z => kf (by have hz := mt (kn_st (y := 0) ⟨h, by decide⟩).mpr z; omega))
theorem kn_le0 (hx : p.tables.exec = Jvm.exec) (hb : c.code = cc) {x : Nat} {off : Int} {tgt : Nat} (hdg : decode cc pc = .ok (.ifCond .le off, 3)) (ht : (pc : Int) + off = (tgt : Int)) (h : x < 4294967296)
    (kt : (2147483648 ≤ x ∨ x = 0) → W p l e R s m args below meth c H locs cells slots Q (F0 m tgt ls rest)) (kf : (x < 2147483648 ∧ 0 < x) → W p l e R s m args below meth c H locs cells slots Q (F0 m (pc + 3) ls rest)) : W p l e R s m args below meth c H locs cells slots Q (F0 m pc ls (.int (nI x) :: rest)) :=
  lv_if_le hx hb hdg ht (fun z => kt (by have := (kn_su (y := 0) ⟨h, by decide⟩).mp z; omega)) (fun z => kf (by have hz := mt (kn_su (y := 0) ⟨h, by decide⟩).mpr z; omega))
end KX
theorem kn_s31 : ∀ k, k < 32 → ((nI k &&& 31).toBitVec.smod 32).toNat = k := by decide
theorem kn_u31 : ∀ k, k < 32 → (((nI k).toUInt32 &&& Int32.toUInt32 31).toBitVec % 32).toNat = k := by decide
theorem kn_shl {x q : Nat} (hq : q < 4) (hx : x < 65536) : nI x <<< (nI q &&& 31) = nI (x * 2 ^ q) := by
  refine pk_shlN _ q (kn_s31 q (by omega)) ?_
  rcases (show q = 0 ∨ q = 1 ∨ q = 2 ∨ q = 3 by omega) with rfl | rfl | rfl | rfl <;> omega
theorem kn_bit {x k : Nat} (hx : x < 4294967296) (hk : k < 32) : (((nI x).toUInt32 >>> ((nI k).toUInt32 &&& Int32.toUInt32 31)).toInt32) = nI (x / 2 ^ k) := pk_ushrN hx _ k (kn_u31 k hk)
end
section
set_option maxHeartbeats 4000000 in
theorem c_K_length (l : Launch) (d : Nat → Nat) (D : va_G) (a : Nat → Nat) (n : Nat → Nat → Nat) (g : Nat → Nat)  : jPure l d D a n g jy_K_length jb_K_length 1 (some .int) { frames := 0, cells := 0, slots := 0, locals := 0 } [.ref (a 0)] (some (.int (nI (n 0 0)))) := by
  refine jq_I (by decide) (Nat.le_of_ble_eq_true rfl) ?_
  intro p e s m A below meth c ls Q X hP hl hQ
  have hl : lv_has ls 1 [(0, .ref (a 0))] := hl
  refine lv_aload_n X.1 X.2.1 jd_K_length_0 rfl (lv_at hl 0 rfl) ?_
  refine jg_K_45_0 X hP jd_K_length_1 ?_
  exact kn_to (by first | rfl | omega | (split <;> omega)) (hQ _ _ jd_K_length_4)

set_option maxHeartbeats 4000000 in
theorem c_K_pass (l : Launch) (d : Nat → Nat) (D : va_G) (a : Nat → Nat) (n : Nat → Nat → Nat) (g : Nat → Nat)  : jPure l d D a n g jy_K_pass jb_K_pass 1 (some .int) { frames := 0, cells := 0, slots := 0, locals := 0 } [.ref (a 0)] (some (.int (nI (n 14 3)))) := by
  refine jq_I (by decide) (Nat.le_of_ble_eq_true rfl) ?_
  intro p e s m A below meth c ls Q X hP hl hQ
  have hl : lv_has ls 1 [(0, .ref (a 0))] := hl
  refine lv_aload_n X.1 X.2.1 jd_K_pass_0 rfl (lv_at hl 0 rfl) ?_
  refine jg_K_31_0 X hP jd_K_pass_1 ?_
  refine jg_K_186_14 X hP jd_K_pass_4 ?_
  exact kn_to (by first | rfl | omega | (split <;> omega)) (hQ _ _ jd_K_pass_7)

set_option maxHeartbeats 4000000 in
theorem c_K_disclosed (l : Launch) (d : Nat → Nat) (D : va_G) (a : Nat → Nat) (n : Nat → Nat → Nat) (g : Nat → Nat)  : jPure l d D a n g jy_K_disclosed jb_K_disclosed 1 (some .int) { frames := 0, cells := 0, slots := 0, locals := 0 } [.ref (a 0)] (some (.int (nI (n 14 2)))) := by
  refine jq_I (by decide) (Nat.le_of_ble_eq_true rfl) ?_
  intro p e s m A below meth c ls Q X hP hl hQ
  have hl : lv_has ls 1 [(0, .ref (a 0))] := hl
  refine lv_aload_n X.1 X.2.1 jd_K_disclosed_0 rfl (lv_at hl 0 rfl) ?_
  refine jg_K_31_0 X hP jd_K_disclosed_1 ?_
  refine jg_K_189_14 X hP jd_K_disclosed_4 ?_
  exact kn_to (by first | rfl | omega | (split <;> omega)) (hQ _ _ jd_K_disclosed_7)

set_option maxHeartbeats 4000000 in
theorem c_E_has (l : Launch) (d : Nat → Nat) (D : va_G) (a : Nat → Nat) (n : Nat → Nat → Nat) (g : Nat → Nat) (k : Nat) (hk : k < 4294967296) (hc : n 15 0 ≤ 16) : jPure l d D a n g jy_E_has jb_E_has 2 (some .boolean) { frames := 0, cells := 0, slots := 0, locals := 0 } [.ref (a 15), .int (nI k)] (some (.int (nI (if k < n 15 0 then 1 else 0)))) := by
  refine jq_Z (by first | omega | (split <;> omega)) (by decide) (Nat.le_of_ble_eq_true rfl) ?_
  intro p e s m A below meth c ls Q X hP hl hQ
  have hl : lv_has ls 2 [(0, .ref (a 15)), (1, .int (nI k))] := hl
  refine lv_iload_n X.1 X.2.1 jd_E_has_0 rfl (lv_at hl 1 rfl) ?_
  refine kn_lt0 X.1 X.2.1 jd_E_has_1 (tgt := 16) (by decide) (by omega) (fun h1 => ?_) (fun h1 => ?_)
  · skip
    refine lv_iconst (v := nI 0) X.1 X.2.1 jd_E_has_16 (by decide) ?_
    exact kn_to (by first | rfl | omega | (split <;> omega)) (hQ _ _ jd_E_has_17)
  · skip
    refine lv_iload_n X.1 X.2.1 jd_E_has_4 rfl (lv_at hl 1 rfl) ?_
    refine lv_aload_n X.1 X.2.1 jd_E_has_5 rfl (lv_at hl 0 rfl) ?_
    refine jg_E_21_15 X hP jd_E_has_6 ?_
    refine kn_cge X.1 X.2.1 jd_E_has_9 (tgt := 16) (by decide) (by omega) (fun h9 => ?_) (fun h9 => ?_)
    · skip
      refine lv_iconst (v := nI 0) X.1 X.2.1 jd_E_has_16 (by decide) ?_
      exact kn_to (by first | rfl | omega | (split <;> omega)) (hQ _ _ jd_E_has_17)
    · skip
      refine lv_iconst (v := nI 1) X.1 X.2.1 jd_E_has_12 (by decide) ?_
      refine lv_goto X.1 X.2.1 jd_E_has_13 (tgt := 17) (by decide) ?_
      exact kn_to (by first | rfl | omega | (split <;> omega)) (hQ _ _ jd_E_has_17)

set_option maxHeartbeats 4000000 in
theorem c_D_isBegun (l : Launch) (d : Nat → Nat) (D : va_G) (a : Nat → Nat) (n : Nat → Nat → Nat) (g : Nat → Nat) (hc : n 14 3 < 4294967296) : jPure l d D a n g jy_D_isBegun jb_D_isBegun 1 (some .boolean) { frames := 0, cells := 0, slots := 0, locals := 0 } [.ref (a 14)] (some (.int (nI (if n 14 3 = 4294967295 then 0 else 1)))) := by
  refine jq_Z (by first | omega | (split <;> omega)) (by decide) (Nat.le_of_ble_eq_true rfl) ?_
  intro p e s m A below meth c ls Q X hP hl hQ
  have hl : lv_has ls 1 [(0, .ref (a 14))] := hl
  refine lv_aload_n X.1 X.2.1 jd_D_isBegun_0 rfl (lv_at hl 0 rfl) ?_
  refine jg_D_30_14 X hP jd_D_isBegun_1 ?_
  refine lv_iconst (v := nI 4294967295) X.1 X.2.1 jd_D_isBegun_4 (by decide) ?_
  refine kn_ceq X.1 X.2.1 jd_D_isBegun_5 (tgt := 12) (by decide) (by omega) (fun h5 => ?_) (fun h5 => ?_)
  · skip
    refine lv_iconst (v := nI 0) X.1 X.2.1 jd_D_isBegun_12 (by decide) ?_
    exact kn_to (by first | rfl | omega | (split <;> omega)) (hQ _ _ jd_D_isBegun_13)
  · skip
    refine lv_iconst (v := nI 1) X.1 X.2.1 jd_D_isBegun_8 (by decide) ?_
    refine lv_goto X.1 X.2.1 jd_D_isBegun_9 (tgt := 13) (by decide) ?_
    exact kn_to (by first | rfl | omega | (split <;> omega)) (hQ _ _ jd_D_isBegun_13)

set_option maxHeartbeats 4000000 in
theorem c_D_isOver (l : Launch) (d : Nat → Nat) (D : va_G) (a : Nat → Nat) (n : Nat → Nat → Nat) (g : Nat → Nat) (hc : n 14 3 < 4294967296) : jPure l d D a n g jy_D_isOver jb_D_isOver 1 (some .boolean) { frames := 0, cells := 0, slots := 0, locals := 0 } [.ref (a 14)] (some (.int (nI (if n 14 3 = 4 then 1 else 0)))) := by
  refine jq_Z (by first | omega | (split <;> omega)) (by decide) (Nat.le_of_ble_eq_true rfl) ?_
  intro p e s m A below meth c ls Q X hP hl hQ
  have hl : lv_has ls 1 [(0, .ref (a 14))] := hl
  refine lv_aload_n X.1 X.2.1 jd_D_isOver_0 rfl (lv_at hl 0 rfl) ?_
  refine jg_D_30_14 X hP jd_D_isOver_1 ?_
  refine lv_iconst (v := nI 4) X.1 X.2.1 jd_D_isOver_4 (by decide) ?_
  refine kn_cne X.1 X.2.1 jd_D_isOver_5 (tgt := 12) (by decide) (by omega) (fun h5 => ?_) (fun h5 => ?_)
  · skip
    refine lv_iconst (v := nI 0) X.1 X.2.1 jd_D_isOver_12 (by decide) ?_
    exact kn_to (by first | rfl | omega | (split <;> omega)) (hQ _ _ jd_D_isOver_13)
  · skip
    refine lv_iconst (v := nI 1) X.1 X.2.1 jd_D_isOver_8 (by decide) ?_
    refine lv_goto X.1 X.2.1 jd_D_isOver_9 (tgt := 13) (by decide) ?_
    exact kn_to (by first | rfl | omega | (split <;> omega)) (hQ _ _ jd_D_isOver_13)

set_option maxHeartbeats 4000000 in
theorem c_K_isSifted (l : Launch) (d : Nat → Nat) (D : va_G) (a : Nat → Nat) (n : Nat → Nat → Nat) (g : Nat → Nat) (hc : n 0 0 < 4294967296) : jPure l d D a n g jy_K_isSifted jb_K_isSifted 1 (some .boolean) { frames := 0, cells := 0, slots := 0, locals := 0 } [.ref (a 0)] (some (.int (nI (if n 0 0 = 4294967295 then 0 else 1)))) := by
  refine jq_Z (by first | omega | (split <;> omega)) (by decide) (Nat.le_of_ble_eq_true rfl) ?_
  intro p e s m A below meth c ls Q X hP hl hQ
  have hl : lv_has ls 1 [(0, .ref (a 0))] := hl
  refine lv_aload_n X.1 X.2.1 jd_K_isSifted_0 rfl (lv_at hl 0 rfl) ?_
  refine jg_K_45_0 X hP jd_K_isSifted_1 ?_
  refine lv_iconst (v := nI 4294967295) X.1 X.2.1 jd_K_isSifted_4 (by decide) ?_
  refine kn_ceq X.1 X.2.1 jd_K_isSifted_5 (tgt := 12) (by decide) (by omega) (fun h5 => ?_) (fun h5 => ?_)
  · skip
    refine lv_iconst (v := nI 0) X.1 X.2.1 jd_K_isSifted_12 (by decide) ?_
    exact kn_to (by first | rfl | omega | (split <;> omega)) (hQ _ _ jd_K_isSifted_13)
  · skip
    refine lv_iconst (v := nI 1) X.1 X.2.1 jd_K_isSifted_8 (by decide) ?_
    refine lv_goto X.1 X.2.1 jd_K_isSifted_9 (tgt := 13) (by decide) ?_
    exact kn_to (by first | rfl | omega | (split <;> omega)) (hQ _ _ jd_K_isSifted_13)

set_option maxHeartbeats 4000000 in
theorem c_K_isStation (l : Launch) (d : Nat → Nat) (D : va_G) (a : Nat → Nat) (n : Nat → Nat → Nat) (g : Nat → Nat) (k : Nat) (hk : k < 4294967296) : jPure l d D a n g jy_K_isStation jb_K_isStation 1 (some .boolean) { frames := 0, cells := 0, slots := 0, locals := 0 } [.int (nI k)] (some (.int (nI (if k < 2 then 1 else 0)))) := by
  refine jq_Z (by first | omega | (split <;> omega)) (by decide) (Nat.le_of_ble_eq_true rfl) ?_
  intro p e s m A below meth c ls Q X hP hl hQ
  have hl : lv_has ls 1 [(0, .int (nI k))] := hl
  refine lv_iload_n X.1 X.2.1 jd_K_isStation_0 rfl (lv_at hl 0 rfl) ?_
  refine kn_eq0 X.1 X.2.1 jd_K_isStation_1 (tgt := 9) (by decide) (by omega) (fun h1 => ?_) (fun h1 => ?_)
  · skip
    refine lv_iconst (v := nI 1) X.1 X.2.1 jd_K_isStation_9 (by decide) ?_
    refine lv_goto X.1 X.2.1 jd_K_isStation_10 (tgt := 14) (by decide) ?_
    exact kn_to (by first | rfl | omega | (split <;> omega)) (hQ _ _ jd_K_isStation_14)
  · skip
    refine lv_iload_n X.1 X.2.1 jd_K_isStation_4 rfl (lv_at hl 0 rfl) ?_
    refine lv_iconst (v := nI 1) X.1 X.2.1 jd_K_isStation_5 (by decide) ?_
    refine kn_cne X.1 X.2.1 jd_K_isStation_6 (tgt := 13) (by decide) (by omega) (fun h6 => ?_) (fun h6 => ?_)
    · skip
      refine lv_iconst (v := nI 0) X.1 X.2.1 jd_K_isStation_13 (by decide) ?_
      exact kn_to (by first | rfl | omega | (split <;> omega)) (hQ _ _ jd_K_isStation_14)
    · skip
      refine lv_iconst (v := nI 1) X.1 X.2.1 jd_K_isStation_9 (by decide) ?_
      refine lv_goto X.1 X.2.1 jd_K_isStation_10 (tgt := 14) (by decide) ?_
      exact kn_to (by first | rfl | omega | (split <;> omega)) (hQ _ _ jd_K_isStation_14)

set_option maxHeartbeats 4000000 in
theorem c_K_isTagNumber (l : Launch) (d : Nat → Nat) (D : va_G) (a : Nat → Nat) (n : Nat → Nat → Nat) (g : Nat → Nat) (k : Nat) (hk : k < 4294967296) : jPure l d D a n g jy_K_isTagNumber jb_K_isTagNumber 1 (some .boolean) { frames := 0, cells := 0, slots := 0, locals := 0 } [.int (nI k)] (some (.int (nI (if 1 ≤ k ∧ k ≤ 65535 then 1 else 0)))) := by
  refine jq_Z (by first | omega | (split <;> omega)) (by decide) (Nat.le_of_ble_eq_true rfl) ?_
  intro p e s m A below meth c ls Q X hP hl hQ
  have hl : lv_has ls 1 [(0, .int (nI k))] := hl
  refine lv_iload_n X.1 X.2.1 jd_K_isTagNumber_0 rfl (lv_at hl 0 rfl) ?_
  refine lv_iconst (v := nI 1) X.1 X.2.1 jd_K_isTagNumber_1 (by decide) ?_
  refine kn_xlt X.1 X.2.1 jd_K_isTagNumber_2 (tgt := 15) (by decide) (by omega) (fun h2 => ?_) (fun h2 => ?_)
  · skip
    refine lv_iconst (v := nI 0) X.1 X.2.1 jd_K_isTagNumber_15 (by decide) ?_
    exact kn_to (by first | rfl | omega | (split <;> omega)) (hQ _ _ jd_K_isTagNumber_16)
  · skip
    refine lv_iload_n X.1 X.2.1 jd_K_isTagNumber_5 rfl (lv_at hl 0 rfl) ?_
    refine lv_ldc (v := nI 65535) X.1 X.2.1 X.2.2.2.2.2.1 (X.2.2.2.2.2.2.1 _ jm_547) jd_K_isTagNumber_6 ?_
    refine kn_xgt X.1 X.2.1 jd_K_isTagNumber_8 (tgt := 15) (by decide) (by omega) (fun h8 => ?_) (fun h8 => ?_)
    · skip
      refine lv_iconst (v := nI 0) X.1 X.2.1 jd_K_isTagNumber_15 (by decide) ?_
      exact kn_to (by first | rfl | omega | (split <;> omega)) (hQ _ _ jd_K_isTagNumber_16)
    · skip
      refine lv_iconst (v := nI 1) X.1 X.2.1 jd_K_isTagNumber_11 (by decide) ?_
      refine lv_goto X.1 X.2.1 jd_K_isTagNumber_12 (tgt := 16) (by decide) ?_
      exact kn_to (by first | rfl | omega | (split <;> omega)) (hQ _ _ jd_K_isTagNumber_16)

set_option maxHeartbeats 4000000 in
theorem c_K_stationOf_0 (l : Launch) (d : Nat → Nat) (D : va_G) (a : Nat → Nat) (n : Nat → Nat → Nat) (g : Nat → Nat)  : jPure l d D a n g jy_K_stationOf jb_K_stationOf 2 (some (.object "KeyDistiller$Station")) { frames := 0, cells := 0, slots := 0, locals := 0 } [.ref (a 0), .int (nI 0)] (some (.ref (a 1))) := by
  refine jq_A (by decide) (Nat.le_of_ble_eq_true rfl) ?_
  intro p e s m A below meth c ls Q X hP hl hQ
  have hl : lv_has ls 2 [(0, .ref (a 0)), (1, .int (nI 0))] := hl
  refine lv_iload_n X.1 X.2.1 jd_K_stationOf_0 rfl (lv_at hl 1 rfl) ?_
  refine kn_ne0 X.1 X.2.1 jd_K_stationOf_1 (tgt := 11) (by decide) (by omega) (fun h1 => absurd h1 (by decide)) (fun h1 => ?_)
  refine lv_aload_n X.1 X.2.1 jd_K_stationOf_4 rfl (lv_at hl 0 rfl) ?_
  refine jg_K_10_0 X hP jd_K_stationOf_5 ?_
  refine lv_goto X.1 X.2.1 jd_K_stationOf_8 (tgt := 15) (by decide) ?_
  exact hQ _ _ jd_K_stationOf_15

set_option maxHeartbeats 4000000 in
theorem c_K_stationOf_1 (l : Launch) (d : Nat → Nat) (D : va_G) (a : Nat → Nat) (n : Nat → Nat → Nat) (g : Nat → Nat)  : jPure l d D a n g jy_K_stationOf jb_K_stationOf 2 (some (.object "KeyDistiller$Station")) { frames := 0, cells := 0, slots := 0, locals := 0 } [.ref (a 0), .int (nI 1)] (some (.ref (a 7))) := by
  refine jq_A (by decide) (Nat.le_of_ble_eq_true rfl) ?_
  intro p e s m A below meth c ls Q X hP hl hQ
  have hl : lv_has ls 2 [(0, .ref (a 0)), (1, .int (nI 1))] := hl
  refine lv_iload_n X.1 X.2.1 jd_K_stationOf_0 rfl (lv_at hl 1 rfl) ?_
  refine kn_ne0 X.1 X.2.1 jd_K_stationOf_1 (tgt := 11) (by decide) (by omega) (fun h1 => ?_) (fun h1 => absurd h1 (by decide))
  refine lv_aload_n X.1 X.2.1 jd_K_stationOf_11 rfl (lv_at hl 0 rfl) ?_
  refine jg_K_16_0 X hP jd_K_stationOf_12 ?_
  exact hQ _ _ jd_K_stationOf_15

set_option maxHeartbeats 4000000 in
theorem c_D_blockSize (l : Launch) (d : Nat → Nat) (D : va_G) (a : Nat → Nat) (n : Nat → Nat → Nat) (g : Nat → Nat) (q : Nat) (hq : q < 4) (hc : n 14 4 ≤ 128) : jPure l d D a n g jy_D_blockSize jb_D_blockSize 2 (some .int) { frames := 0, cells := 0, slots := 0, locals := 0 } [.ref (a 14), .int (nI q)] (some (.int (nI (n 14 4 * 2 ^ q)))) := by
  refine jq_I (by decide) (Nat.le_of_ble_eq_true rfl) ?_
  intro p e s m A below meth c ls Q X hP hl hQ
  have hl : lv_has ls 2 [(0, .ref (a 14)), (1, .int (nI q))] := hl
  refine lv_aload_n X.1 X.2.1 jd_D_blockSize_0 rfl (lv_at hl 0 rfl) ?_
  refine jg_D_41_14 X hP jd_D_blockSize_1 ?_
  refine lv_iload_n X.1 X.2.1 jd_D_blockSize_4 rfl (lv_at hl 1 rfl) ?_
  refine lv_ishl X.1 X.2.1 jd_D_blockSize_5 ?_
  refine kn_is (y := (n 14 4) * 2 ^ q) (kn_shl (by omega) (by omega)) ?_
  exact kn_to (by first | rfl | omega | (split <;> omega)) (hQ _ _ jd_D_blockSize_6)
end
section
/-! pure words: parities, bits, rows -/
def parF (str ord : Nat → Nat) (f : Nat) : Nat → Nat
  | 0 => 0
  | k + 1 => parF str ord f k ^^^ str (ord (f + k))
/-- is one of the k places from f on set? -/
def anyF (r : Nat → Nat) (f : Nat) : Nat → Nat
  | 0 => 0
  | k + 1 => if anyF r f k = 0 then (if r (f + k) = 0 then 0 else 1) else 1
theorem anyF_lt (r : Nat → Nat) (f : Nat) : ∀ k, anyF r f k < 2
  | 0 => Nat.zero_lt_two
  | k + 1 => by
    unfold anyF
    split
    · split <;> decide
    · decide
theorem anyF_step (r : Nat → Nat) (f k : Nat) (h : anyF r f k = 0) (h2 : r (f + k) = 0) : anyF r f (k + 1) = 0 := by
  unfold anyF
  rw [if_pos h, if_pos h2]
theorem anyF_up (r : Nat → Nat) (f k : Nat) (h : anyF r f k ≠ 0) : ∀ j, anyF r f (k + j) = 1
  | 0 => by have := anyF_lt r f k; show anyF r f k = 1; omega
  | j + 1 => by
    show anyF r f (k + j + 1) = 1
    unfold anyF
    rw [if_neg (by rw [anyF_up r f k h j]; decide)]
theorem anyF_hit (r : Nat → Nat) (f k t : Nat) (hk : k < t) (h : anyF r f k = 0) (h2 : ¬ r (f + k) = 0) : 1 = anyF r f t := by
  have h1 : anyF r f (k + 1) ≠ 0 := by
    unfold anyF
    rw [if_pos h, if_neg h2]
    decide
  have := anyF_up r f (k + 1) h1 (t - (k + 1))
  rw [show k + 1 + (t - (k + 1)) = t by omega] at this
  exact this.symm
end
section
set_option maxHeartbeats 4000000 in
theorem c_S_parity_1 (l : Launch) (d : Nat → Nat) (D : va_G) (a : Nat → Nat) (n : Nat → Nat → Nat) (g : Nat → Nat) (q f t : Nat) (hq : q < 52) (hI : jI q = 128) (hf : f ≤ t) (ht : t ≤ 128) (hv : ∀ k, k < t → n q k < 128) : jPure l d D a n g jy_S_parity jb_S_parity 6 (some .int) { frames := 0, cells := 0, slots := 0, locals := 0 } [.ref (a 1), .ref (a q), .int (nI f), .int (nI t)] (some (.int (nI (parF (n 6) (n q) f (t - f))))) := by
  refine jq_I (by decide) (Nat.le_of_ble_eq_true rfl) ?_
  intro p e s m A below meth c ls Q X hP hl hQ
  have hl : lv_has ls 6 [(0, .ref (a 1)), (1, .ref (a q)), (2, .int (nI f)), (3, .int (nI t))] := hl
  refine lv_iconst (v := nI 0) X.1 X.2.1 jd_S_parity_0 (by decide) ?_
  refine lv_istore X.1 X.2.1 jd_S_parity_1 hl (by decide) rfl (fun ls hl => ?_)
  have hl : lv_has ls 6 [(4, .int (nI 0)), (0, .ref (a 1)), (1, .ref (a q)), (2, .int (nI f)), (3, .int (nI t))] := hl
  refine lv_iload_n X.1 X.2.1 jd_S_parity_3 rfl (lv_at hl 3 rfl) ?_
  refine lv_istore X.1 X.2.1 jd_S_parity_4 hl (by decide) rfl (fun ls hl => ?_)
  have hl : lv_has ls 6 [(5, .int (nI f)), (4, .int (nI 0)), (0, .ref (a 1)), (1, .ref (a q)), (2, .int (nI f)), (3, .int (nI t))] := hl
  have loop6 : ∀ (r k : Nat) (ls : Array Slot), k + r = t - f → lv_has ls 6 [(5, .int (nI (f + k))), (4, .int (nI (parF (n 6) (n q) f k))), (0, .ref (a 1)), (1, .ref (a q)), (2, .int (nI f)), (3, .int (nI t))] → W p l e { frames := 0, cells := 0, slots := 0, locals := 0 } s m A below meth c s.heap [] 0 0 Q (F0 m 6 ls []) := by
    intro r
    induction r with
    | zero => 
      intro k ls hk hl
      obtain rfl : t - f = k := by omega
      refine lv_iload X.1 X.2.1 jd_S_parity_6 (lv_at hl 0 rfl) ?_
      refine lv_iload_n X.1 X.2.1 jd_S_parity_8 rfl (lv_at hl 5 rfl) ?_
      refine kn_cge X.1 X.2.1 jd_S_parity_9 (tgt := 32) (by decide) (by omega) (fun h9 => ?_) (fun h9 => absurd h9 (by omega))
      refine lv_iload X.1 X.2.1 jd_S_parity_32 (lv_at hl 1 rfl) ?_
      exact kn_to (by first | rfl | omega | (split <;> omega)) (hQ _ _ jd_S_parity_34)
    | succ r ihr => 
      intro k ls hk hl
      refine lv_iload X.1 X.2.1 jd_S_parity_6 (lv_at hl 0 rfl) ?_
      refine lv_iload_n X.1 X.2.1 jd_S_parity_8 rfl (lv_at hl 5 rfl) ?_
      refine kn_cge X.1 X.2.1 jd_S_parity_9 (tgt := 32) (by decide) (by omega) (fun h9 => absurd h9 (by omega)) (fun h9 => ?_)
      refine lv_iload X.1 X.2.1 jd_S_parity_12 (lv_at hl 1 rfl) ?_
      refine lv_aload_n X.1 X.2.1 jd_S_parity_14 rfl (lv_at hl 2 rfl) ?_
      refine jg_S_25_1 X hP jd_S_parity_15 ?_
      refine lv_aload_n X.1 X.2.1 jd_S_parity_18 rfl (lv_at hl 3 rfl) ?_
      refine lv_iload X.1 X.2.1 jd_S_parity_19 (lv_at hl 0 rfl) ?_
      refine j_ald X hP q (f + k) hq (by omega) (by omega) jd_S_parity_21 ?_
      refine j_ald X hP 6 (n q (f + k)) (by decide) (show (n q (f + k)) < 128 from hv _ (by omega)) (by decide) jd_S_parity_22 ?_
      refine kn_ixor X.1 X.2.1 jd_S_parity_23 ?_
      refine lv_istore X.1 X.2.1 jd_S_parity_24 hl (by decide) rfl (fun ls hl => ?_)
      have hl : lv_has ls 6 [(4, .int (nI ((parF (n 6) (n q) f k) ^^^ (n 6 (n q (f + k)))))), (5, .int (nI (f + k))), (0, .ref (a 1)), (1, .ref (a q)), (2, .int (nI f)), (3, .int (nI t))] := hl
      refine lv_iinc (k := 1) (v := nI ((f + k) + 1)) X.1 X.2.1 jd_S_parity_26 hl rfl (kn_inc _) (by decide) rfl (fun ls hl => ?_)
      have hl : lv_has ls 6 [(5, .int (nI ((f + k) + 1))), (4, .int (nI ((parF (n 6) (n q) f k) ^^^ (n 6 (n q (f + k)))))), (0, .ref (a 1)), (1, .ref (a q)), (2, .int (nI f)), (3, .int (nI t))] := hl
      refine lv_goto X.1 X.2.1 jd_S_parity_29 (tgt := 6) (by decide) ?_
      have hl : lv_has ls 6 [(5, .int (nI (f + (k + 1)))), (4, .int (nI (parF (n 6) (n q) f (k + 1)))), (0, .ref (a 1)), (1, .ref (a q)), (2, .int (nI f)), (3, .int (nI t))] := lv_sub hl [0, 1, 2, 3, 4, 5] rfl
      exact ihr (k + 1) ls (by omega) hl
  have hl : lv_has ls 6 [(5, .int (nI (f + 0))), (4, .int (nI (parF (n 6) (n q) f 0))), (0, .ref (a 1)), (1, .ref (a q)), (2, .int (nI f)), (3, .int (nI t))] := lv_sub hl [0, 1, 2, 3, 4, 5] rfl
  exact loop6 (t - f) 0 ls (by omega) hl

set_option maxHeartbeats 4000000 in
theorem c_S_hasAnyOf_1 (l : Launch) (d : Nat → Nat) (D : va_G) (a : Nat → Nat) (n : Nat → Nat → Nat) (g : Nat → Nat) (f k0 : Nat) (hk : f + k0 ≤ 128) (hb : ∀ i, n 2 i < 4294967296) : jPure l d D a n g jy_S_hasAnyOf jb_S_hasAnyOf 4 (some .boolean) { frames := 0, cells := 0, slots := 0, locals := 0 } [.ref (a 1), .int (nI f), .int (nI k0)] (some (.int (nI (anyF (n 2) f k0)))) := by
  refine jq_Z (anyF_lt _ _ _) (by decide) (Nat.le_of_ble_eq_true rfl) ?_
  intro p e s m A below meth c ls Q X hP hl hQ
  have hl : lv_has ls 4 [(0, .ref (a 1)), (1, .int (nI f)), (2, .int (nI k0))] := hl
  refine lv_iconst (v := nI 0) X.1 X.2.1 jd_S_hasAnyOf_0 (by decide) ?_
  refine lv_istore_n X.1 X.2.1 jd_S_hasAnyOf_1 rfl hl (by decide) rfl (fun ls hl => ?_)
  have hl : lv_has ls 4 [(3, .int (nI 0)), (0, .ref (a 1)), (1, .int (nI f)), (2, .int (nI k0))] := hl
  have loop2 : ∀ (r k : Nat) (ls : Array Slot), k + r = k0 → anyF (n 2) f k = 0 → lv_has ls 4 [(3, .int (nI k)), (0, .ref (a 1)), (1, .int (nI f)), (2, .int (nI k0))] → W p l e { frames := 0, cells := 0, slots := 0, locals := 0 } s m A below meth c s.heap [] 0 0 Q (F0 m 2 ls []) := by
    intro r
    induction r with
    | zero => 
      intro k ls hk hn hl
      obtain rfl : k0 = k := by omega
      refine lv_iload_n X.1 X.2.1 jd_S_hasAnyOf_2 rfl (lv_at hl 0 rfl) ?_
      refine lv_iload_n X.1 X.2.1 jd_S_hasAnyOf_3 rfl (lv_at hl 3 rfl) ?_
      refine kn_cge X.1 X.2.1 jd_S_hasAnyOf_4 (tgt := 26) (by decide) (by omega) (fun h4 => ?_) (fun h4 => absurd h4 (by omega))
      refine lv_iconst (v := nI 0) X.1 X.2.1 jd_S_hasAnyOf_26 (by decide) ?_
      exact kn_to (hn.symm) (hQ _ _ jd_S_hasAnyOf_27)
    | succ r ihr => 
      intro k ls hk hn hl
      refine lv_iload_n X.1 X.2.1 jd_S_hasAnyOf_2 rfl (lv_at hl 0 rfl) ?_
      refine lv_iload_n X.1 X.2.1 jd_S_hasAnyOf_3 rfl (lv_at hl 3 rfl) ?_
      refine kn_cge X.1 X.2.1 jd_S_hasAnyOf_4 (tgt := 26) (by decide) (by omega) (fun h4 => absurd h4 (by omega)) (fun h4 => ?_)
      refine lv_aload_n X.1 X.2.1 jd_S_hasAnyOf_7 rfl (lv_at hl 1 rfl) ?_
      refine jg_S_9_1 X hP jd_S_hasAnyOf_8 ?_
      refine lv_iload_n X.1 X.2.1 jd_S_hasAnyOf_11 rfl (lv_at hl 2 rfl) ?_
      refine lv_iload_n X.1 X.2.1 jd_S_hasAnyOf_12 rfl (lv_at hl 0 rfl) ?_
      refine kn_iadd X.1 X.2.1 jd_S_hasAnyOf_13 ?_
      refine j_zald X hP 2 (f + k) (by decide) (show (f + k) < 128 from by omega) (by decide) jd_S_hasAnyOf_14 ?_
      refine kn_eq0 X.1 X.2.1 jd_S_hasAnyOf_15 (tgt := 20) (by decide) (hb _) (fun h15 => ?_) (fun h15 => ?_)
      · skip
        refine lv_iinc (k := 0) (v := nI (k + 1)) X.1 X.2.1 jd_S_hasAnyOf_20 hl rfl (kn_inc _) (by decide) rfl (fun ls hl => ?_)
        have hl : lv_has ls 4 [(3, .int (nI (k + 1))), (0, .ref (a 1)), (1, .int (nI f)), (2, .int (nI k0))] := hl
        refine lv_goto X.1 X.2.1 jd_S_hasAnyOf_23 (tgt := 2) (by decide) ?_
        have hl : lv_has ls 4 [(3, .int (nI (k + 1))), (0, .ref (a 1)), (1, .int (nI f)), (2, .int (nI k0))] := lv_sub hl [0, 1, 2, 3] rfl
        exact ihr (k + 1) ls (by omega) (anyF_step _ _ _ hn h15) hl
      · skip
        refine lv_iconst (v := nI 1) X.1 X.2.1 jd_S_hasAnyOf_18 (by decide) ?_
        exact kn_to (anyF_hit _ _ _ _ (by omega) hn h15) (hQ _ _ jd_S_hasAnyOf_19)
  have hl : lv_has ls 4 [(3, .int (nI 0)), (0, .ref (a 1)), (1, .int (nI f)), (2, .int (nI k0))] := lv_sub hl [0, 1, 2, 3] rfl
  exact loop2 (k0) 0 ls (by omega) (rfl) hl

set_option maxHeartbeats 4000000 in
theorem c_S_parity_7 (l : Launch) (d : Nat → Nat) (D : va_G) (a : Nat → Nat) (n : Nat → Nat → Nat) (g : Nat → Nat) (q f t : Nat) (hq : q < 52) (hI : jI q = 128) (hf : f ≤ t) (ht : t ≤ 128) (hv : ∀ k, k < t → n q k < 128) : jPure l d D a n g jy_S_parity jb_S_parity 6 (some .int) { frames := 0, cells := 0, slots := 0, locals := 0 } [.ref (a 7), .ref (a q), .int (nI f), .int (nI t)] (some (.int (nI (parF (n 12) (n q) f (t - f))))) := by
  refine jq_I (by decide) (Nat.le_of_ble_eq_true rfl) ?_
  intro p e s m A below meth c ls Q X hP hl hQ
  have hl : lv_has ls 6 [(0, .ref (a 7)), (1, .ref (a q)), (2, .int (nI f)), (3, .int (nI t))] := hl
  refine lv_iconst (v := nI 0) X.1 X.2.1 jd_S_parity_0 (by decide) ?_
  refine lv_istore X.1 X.2.1 jd_S_parity_1 hl (by decide) rfl (fun ls hl => ?_)
  have hl : lv_has ls 6 [(4, .int (nI 0)), (0, .ref (a 7)), (1, .ref (a q)), (2, .int (nI f)), (3, .int (nI t))] := hl
  refine lv_iload_n X.1 X.2.1 jd_S_parity_3 rfl (lv_at hl 3 rfl) ?_
  refine lv_istore X.1 X.2.1 jd_S_parity_4 hl (by decide) rfl (fun ls hl => ?_)
  have hl : lv_has ls 6 [(5, .int (nI f)), (4, .int (nI 0)), (0, .ref (a 7)), (1, .ref (a q)), (2, .int (nI f)), (3, .int (nI t))] := hl
  have loop6 : ∀ (r k : Nat) (ls : Array Slot), k + r = t - f → lv_has ls 6 [(5, .int (nI (f + k))), (4, .int (nI (parF (n 12) (n q) f k))), (0, .ref (a 7)), (1, .ref (a q)), (2, .int (nI f)), (3, .int (nI t))] → W p l e { frames := 0, cells := 0, slots := 0, locals := 0 } s m A below meth c s.heap [] 0 0 Q (F0 m 6 ls []) := by
    intro r
    induction r with
    | zero => 
      intro k ls hk hl
      obtain rfl : t - f = k := by omega
      refine lv_iload X.1 X.2.1 jd_S_parity_6 (lv_at hl 0 rfl) ?_
      refine lv_iload_n X.1 X.2.1 jd_S_parity_8 rfl (lv_at hl 5 rfl) ?_
      refine kn_cge X.1 X.2.1 jd_S_parity_9 (tgt := 32) (by decide) (by omega) (fun h9 => ?_) (fun h9 => absurd h9 (by omega))
      refine lv_iload X.1 X.2.1 jd_S_parity_32 (lv_at hl 1 rfl) ?_
      exact kn_to (by first | rfl | omega | (split <;> omega)) (hQ _ _ jd_S_parity_34)
    | succ r ihr => 
      intro k ls hk hl
      refine lv_iload X.1 X.2.1 jd_S_parity_6 (lv_at hl 0 rfl) ?_
      refine lv_iload_n X.1 X.2.1 jd_S_parity_8 rfl (lv_at hl 5 rfl) ?_
      refine kn_cge X.1 X.2.1 jd_S_parity_9 (tgt := 32) (by decide) (by omega) (fun h9 => absurd h9 (by omega)) (fun h9 => ?_)
      refine lv_iload X.1 X.2.1 jd_S_parity_12 (lv_at hl 1 rfl) ?_
      refine lv_aload_n X.1 X.2.1 jd_S_parity_14 rfl (lv_at hl 2 rfl) ?_
      refine jg_S_25_7 X hP jd_S_parity_15 ?_
      refine lv_aload_n X.1 X.2.1 jd_S_parity_18 rfl (lv_at hl 3 rfl) ?_
      refine lv_iload X.1 X.2.1 jd_S_parity_19 (lv_at hl 0 rfl) ?_
      refine j_ald X hP q (f + k) hq (by omega) (by omega) jd_S_parity_21 ?_
      refine j_ald X hP 12 (n q (f + k)) (by decide) (show (n q (f + k)) < 128 from hv _ (by omega)) (by decide) jd_S_parity_22 ?_
      refine kn_ixor X.1 X.2.1 jd_S_parity_23 ?_
      refine lv_istore X.1 X.2.1 jd_S_parity_24 hl (by decide) rfl (fun ls hl => ?_)
      have hl : lv_has ls 6 [(4, .int (nI ((parF (n 12) (n q) f k) ^^^ (n 12 (n q (f + k)))))), (5, .int (nI (f + k))), (0, .ref (a 7)), (1, .ref (a q)), (2, .int (nI f)), (3, .int (nI t))] := hl
      refine lv_iinc (k := 1) (v := nI ((f + k) + 1)) X.1 X.2.1 jd_S_parity_26 hl rfl (kn_inc _) (by decide) rfl (fun ls hl => ?_)
      have hl : lv_has ls 6 [(5, .int (nI ((f + k) + 1))), (4, .int (nI ((parF (n 12) (n q) f k) ^^^ (n 12 (n q (f + k)))))), (0, .ref (a 7)), (1, .ref (a q)), (2, .int (nI f)), (3, .int (nI t))] := hl
      refine lv_goto X.1 X.2.1 jd_S_parity_29 (tgt := 6) (by decide) ?_
      have hl : lv_has ls 6 [(5, .int (nI (f + (k + 1)))), (4, .int (nI (parF (n 12) (n q) f (k + 1)))), (0, .ref (a 7)), (1, .ref (a q)), (2, .int (nI f)), (3, .int (nI t))] := lv_sub hl [0, 1, 2, 3, 4, 5] rfl
      exact ihr (k + 1) ls (by omega) hl
  have hl : lv_has ls 6 [(5, .int (nI (f + 0))), (4, .int (nI (parF (n 12) (n q) f 0))), (0, .ref (a 7)), (1, .ref (a q)), (2, .int (nI f)), (3, .int (nI t))] := lv_sub hl [0, 1, 2, 3, 4, 5] rfl
  exact loop6 (t - f) 0 ls (by omega) hl

set_option maxHeartbeats 4000000 in
theorem c_S_hasAnyOf_7 (l : Launch) (d : Nat → Nat) (D : va_G) (a : Nat → Nat) (n : Nat → Nat → Nat) (g : Nat → Nat) (f k0 : Nat) (hk : f + k0 ≤ 128) (hb : ∀ i, n 8 i < 4294967296) : jPure l d D a n g jy_S_hasAnyOf jb_S_hasAnyOf 4 (some .boolean) { frames := 0, cells := 0, slots := 0, locals := 0 } [.ref (a 7), .int (nI f), .int (nI k0)] (some (.int (nI (anyF (n 8) f k0)))) := by
  refine jq_Z (anyF_lt _ _ _) (by decide) (Nat.le_of_ble_eq_true rfl) ?_
  intro p e s m A below meth c ls Q X hP hl hQ
  have hl : lv_has ls 4 [(0, .ref (a 7)), (1, .int (nI f)), (2, .int (nI k0))] := hl
  refine lv_iconst (v := nI 0) X.1 X.2.1 jd_S_hasAnyOf_0 (by decide) ?_
  refine lv_istore_n X.1 X.2.1 jd_S_hasAnyOf_1 rfl hl (by decide) rfl (fun ls hl => ?_)
  have hl : lv_has ls 4 [(3, .int (nI 0)), (0, .ref (a 7)), (1, .int (nI f)), (2, .int (nI k0))] := hl
  have loop2 : ∀ (r k : Nat) (ls : Array Slot), k + r = k0 → anyF (n 8) f k = 0 → lv_has ls 4 [(3, .int (nI k)), (0, .ref (a 7)), (1, .int (nI f)), (2, .int (nI k0))] → W p l e { frames := 0, cells := 0, slots := 0, locals := 0 } s m A below meth c s.heap [] 0 0 Q (F0 m 2 ls []) := by
    intro r
    induction r with
    | zero => 
      intro k ls hk hn hl
      obtain rfl : k0 = k := by omega
      refine lv_iload_n X.1 X.2.1 jd_S_hasAnyOf_2 rfl (lv_at hl 0 rfl) ?_
      refine lv_iload_n X.1 X.2.1 jd_S_hasAnyOf_3 rfl (lv_at hl 3 rfl) ?_
      refine kn_cge X.1 X.2.1 jd_S_hasAnyOf_4 (tgt := 26) (by decide) (by omega) (fun h4 => ?_) (fun h4 => absurd h4 (by omega))
      refine lv_iconst (v := nI 0) X.1 X.2.1 jd_S_hasAnyOf_26 (by decide) ?_
      exact kn_to (hn.symm) (hQ _ _ jd_S_hasAnyOf_27)
    | succ r ihr => 
      intro k ls hk hn hl
      refine lv_iload_n X.1 X.2.1 jd_S_hasAnyOf_2 rfl (lv_at hl 0 rfl) ?_
      refine lv_iload_n X.1 X.2.1 jd_S_hasAnyOf_3 rfl (lv_at hl 3 rfl) ?_
      refine kn_cge X.1 X.2.1 jd_S_hasAnyOf_4 (tgt := 26) (by decide) (by omega) (fun h4 => absurd h4 (by omega)) (fun h4 => ?_)
      refine lv_aload_n X.1 X.2.1 jd_S_hasAnyOf_7 rfl (lv_at hl 1 rfl) ?_
      refine jg_S_9_7 X hP jd_S_hasAnyOf_8 ?_
      refine lv_iload_n X.1 X.2.1 jd_S_hasAnyOf_11 rfl (lv_at hl 2 rfl) ?_
      refine lv_iload_n X.1 X.2.1 jd_S_hasAnyOf_12 rfl (lv_at hl 0 rfl) ?_
      refine kn_iadd X.1 X.2.1 jd_S_hasAnyOf_13 ?_
      refine j_zald X hP 8 (f + k) (by decide) (show (f + k) < 128 from by omega) (by decide) jd_S_hasAnyOf_14 ?_
      refine kn_eq0 X.1 X.2.1 jd_S_hasAnyOf_15 (tgt := 20) (by decide) (hb _) (fun h15 => ?_) (fun h15 => ?_)
      · skip
        refine lv_iinc (k := 0) (v := nI (k + 1)) X.1 X.2.1 jd_S_hasAnyOf_20 hl rfl (kn_inc _) (by decide) rfl (fun ls hl => ?_)
        have hl : lv_has ls 4 [(3, .int (nI (k + 1))), (0, .ref (a 7)), (1, .int (nI f)), (2, .int (nI k0))] := hl
        refine lv_goto X.1 X.2.1 jd_S_hasAnyOf_23 (tgt := 2) (by decide) ?_
        have hl : lv_has ls 4 [(3, .int (nI (k + 1))), (0, .ref (a 7)), (1, .int (nI f)), (2, .int (nI k0))] := lv_sub hl [0, 1, 2, 3] rfl
        exact ihr (k + 1) ls (by omega) (anyF_step _ _ _ hn h15) hl
      · skip
        refine lv_iconst (v := nI 1) X.1 X.2.1 jd_S_hasAnyOf_18 (by decide) ?_
        exact kn_to (anyF_hit _ _ _ _ (by omega) hn h15) (hQ _ _ jd_S_hasAnyOf_19)
  have hl : lv_has ls 4 [(3, .int (nI 0)), (0, .ref (a 7)), (1, .int (nI f)), (2, .int (nI k0))] := lv_sub hl [0, 1, 2, 3] rfl
  exact loop2 (k0) 0 ls (by omega) (rfl) hl
end
section
/-! pure words: what a station's methods do -/
def noteF (n : Nat → Nat → Nat) (o f b v s : Nat) : Nat → Nat → Nat → Nat
  | 0 => n
  | k + 1 => ku (ku (ku (ku (noteF n o f b v s k) (o + 1) (f + k) 1) (o + 2) (f + k) (b / 2 ^ k &&& 1)) (o + 3) (f + k) (v / 2 ^ k &&& 1)) (o + 4) (f + k) (s / 2 ^ k &&& 1)
/-- leaving out: the numbers and how many are kept, after k places -/
def lvP (n : Nat → Nat → Nat) (c q : Nat) : Nat → (Nat → Nat → Nat) × Nat
  | 0 => (n, 0)
  | k + 1 => if (lvP n c q k).1 q k = 0 then (ku (lvP n c q k).1 c (lvP n c q k).2 ((lvP n c q k).1 c k), (lvP n c q k).2 + 1) else lvP n c q k
theorem lvP_le (n : Nat → Nat → Nat) (c q : Nat) : ∀ k, (lvP n c q k).2 ≤ k
  | 0 => Nat.le_refl _
  | k + 1 => by
    have := lvP_le n c q k
    unfold lvP
    split
    · show (lvP n c q k).2 + 1 ≤ k + 1; omega
    · omega
def wordF (r : Nat → Nat) (f : Nat) : Nat → Nat
  | 0 => 0
  | k + 1 => wordF r f k ||| r (f + k) * 2 ^ k
def shF (a : Nat) : Nat → Nat
  | 0 => a
  | k + 1 => if 65535 < shF a k * 2 ^ 1 then shF a k * 2 ^ 1 ^^^ 65579 else shF a k * 2 ^ 1
def smF (a b : Nat) : Nat → Nat
  | 0 => 0
  | k + 1 => if b / 2 ^ k &&& 1 = 1 then smF a b k ^^^ shF a k else smF a b k
theorem kx_red {x : Nat} (h : 65535 < x) (h2 : x < 131072) : x ^^^ 65579 < 65536 := by
  apply Nat.lt_pow_two_of_testBit (n := 16)
  intro i hi
  rw [Nat.testBit_xor]
  by_cases h16 : i = 16
  · subst h16
    have h3 : x.testBit 16 = true := by
      rw [Nat.testBit_eq_decide_div_mod_eq]
      have : x / 2 ^ 16 % 2 = 1 := by omega
      simp [this]
    rw [h3]
    decide
  · have h17 : 17 ≤ i := by omega
    have hp : 131072 ≤ 2 ^ i := by
      have := Nat.pow_le_pow_right (n := 2) (by decide) h17
      omega
    rw [Nat.testBit_lt_two_pow (by omega), Nat.testBit_lt_two_pow (by omega)]
    rfl
theorem shF_lt {a : Nat} (h : a < 65536) : ∀ k, shF a k < 65536
  | 0 => h
  | k + 1 => by
    have := shF_lt h k
    unfold shF
    split
    · exact kx_red (by assumption) (by omega)
    · omega
theorem kx_lt {x y : Nat} (hx : x < 65536) (hy : y < 65536) : x ^^^ y < 65536 := Nat.xor_lt_two_pow (n := 16) hx hy
theorem smF_lt {a : Nat} (h : a < 65536) (b : Nat) : ∀ k, smF a b k < 65536
  | 0 => by show 0 < 65536; decide
  | k + 1 => by
    have := smF_lt h b k
    unfold smF
    split
    · exact kx_lt this (shF_lt h k)
    · exact this
/-- the product of the class -/
def prF (a b : Nat) : Nat := smF a b 16
theorem kn_shl16 {x q : Nat} (hq : q < 16) (hx : x < 65536) : nI x <<< (nI q &&& 31) = nI (x * 2 ^ q) := by
  refine pk_shlN _ q (kn_s31 q (by omega)) ?_
  have h1 : 2 ^ q ≤ 2 ^ 15 := Nat.pow_le_pow_right (by decide) (by omega)
  have h2 : x * 2 ^ q ≤ x * 2 ^ 15 := Nat.mul_le_mul_left x h1
  omega
theorem wordF_lt {r : Nat → Nat} {f : Nat} (h : ∀ i, r i < 2) : ∀ k, k ≤ 16 → wordF r f k < 2 ^ k
  | 0, _ => by show 0 < 1; decide
  | k + 1, hk => by
    have h1 := wordF_lt (r := r) (f := f) h k (by omega)
    have h2 := h (f + k)
    unfold wordF
    apply Nat.or_lt_two_pow
    · have : (2 : Nat) ^ (k + 1) = 2 ^ k * 2 := Nat.pow_succ 2 k
      omega
    · have : (2 : Nat) ^ (k + 1) = 2 ^ k * 2 := Nat.pow_succ 2 k
      rcases (show r (f + k) = 0 ∨ r (f + k) = 1 by omega) with e | e <;> rw [e] <;> omega
theorem wordF_16 {r : Nat → Nat} {f k : Nat} (h : ∀ i, r i < 2) (hk : k ≤ 16) : wordF r f k < 65536 := by
  have h1 := wordF_lt (f := f) h k hk
  have h2 : 2 ^ k ≤ 2 ^ 16 := Nat.pow_le_pow_right (by decide) hk
  omega
/-- tags: the sum after k words -/
def tgF (r : Nat → Nat) (x t : Nat) : Nat → Nat
  | 0 => 0
  | k + 1 => prF x (tgF r x t k ^^^ wordF r (16 * k) ((if t < 16 * k + 16 then t else 16 * k + 16) - 16 * k))
def tagF (r : Nat → Nat) (x t : Nat) : Nat := prF x (tgF r x t ((t + 15) / 16) ^^^ t)
theorem tgF_lt {r : Nat → Nat} {x t : Nat} (hx : x < 65536) : ∀ k, tgF r x t k < 65536
  | 0 => by show 0 < 65536; decide
  | k + 1 => smF_lt hx _ 16
section J15
variable {p : Program} {l : Launch} {e : Env} {R : Room} {s : State} {m : MethodId} {args : Array Value} {below : List Frame} {meth : Method} {c : Code} {H : Heap} {locs : List Loc} {cells slots : Nat} {Q : State → Prop}
variable {cc : ByteArray} {pc : Nat} {ls : Array Slot} {rest : List Value} {d : Nat → Nat} {D : va_G} {mx : Nat} {ret : Option FieldType} {own : String}
theorem j_min (X : jX p s m args meth c cc mx ret own d D) {index : Nat} (w5 : Cond.methodLink own index ⟨"java/lang/Math", "min", "(II)I"⟩ ∈ jT) {x y : Nat} (h : x < 2147483648 ∧ y < 2147483648) (hls : ls.size = mx) (hR : 1 ≤ R.frames ∧ (rest.map fun v => v.category).sum + 13 ≤ R.locals) (hcs : cells ≤ R.cells ∧ slots ≤ R.slots) (hdg : decode cc pc = .ok (.invokestatic index, 3))
    (kk : W p l e R s m args below meth c H locs cells slots Q (F0 m (pc + 3) ls (.int (nI (if y < x then y else x)) :: rest))) : W p l e R s m args below meth c H locs cells slots Q (F0 m pc ls (.int (nI y) :: .int (nI x) :: rest)) := by
  refine va_mmin X.1 X.2.1 (X.2.2.1.trans hls.symm) X.2.2.2.2.2.1 (X.2.2.2.2.2.2.1 _ w5) (X.2.2.2.2.2.2.1 _ jm_431) (X.2.2.2.2.2.2.1 _ jm_13) (X.2.2.2.2.2.2.1 _ jm_432) hR.1 hR.2 hcs.1 hcs.2 hdg ?_
  by_cases hxy : y < x
  · rw [if_pos hxy] at kk
    rw [if_pos ((nI_ltI h.2 h.1).mpr hxy)]
    exact kk
  · rw [if_neg hxy] at kk
    rw [if_neg (fun z => hxy ((nI_ltI h.2 h.1).mp z))]
    exact kk
theorem j_max (X : jX p s m args meth c cc mx ret own d D) {index : Nat} (w5 : Cond.methodLink own index ⟨"java/lang/Math", "max", "(II)I"⟩ ∈ jT) {x y : Nat} (h : x < 2147483648 ∧ y < 2147483648) (hls : ls.size = mx) (hR : 1 ≤ R.frames ∧ (rest.map fun v => v.category).sum + 13 ≤ R.locals) (hcs : cells ≤ R.cells ∧ slots ≤ R.slots) (hdg : decode cc pc = .ok (.invokestatic index, 3))
    (kk : W p l e R s m args below meth c H locs cells slots Q (F0 m (pc + 3) ls (.int (nI (if x < y then y else x)) :: rest))) : W p l e R s m args below meth c H locs cells slots Q (F0 m pc ls (.int (nI y) :: .int (nI x) :: rest)) := by
  refine va_mmax X.1 X.2.1 (X.2.2.1.trans hls.symm) X.2.2.2.2.2.1 (X.2.2.2.2.2.2.1 _ w5) (X.2.2.2.2.2.2.1 _ jm_500) (X.2.2.2.2.2.2.1 _ jm_13) (X.2.2.2.2.2.2.1 _ jm_501) hR.1 hR.2 hcs.1 hcs.2 hdg ?_
  by_cases hxy : x < y
  · rw [if_pos hxy] at kk
    rw [if_pos ((nI_ltI h.1 h.2).mpr hxy)]
    exact kk
  · rw [if_neg hxy] at kk
    rw [if_neg (fun z => hxy ((nI_ltI h.1 h.2).mp z))]
    exact kk
end J15
end
section
set_option maxHeartbeats 4000000 in
theorem c_S_product (l : Launch) (d : Nat → Nat) (D : va_G) (a : Nat → Nat) (n : Nat → Nat → Nat) (g : Nat → Nat) (x y : Nat) (hx : x < 65536) (hy : y < 4294967296) : jPure l d D a n g jy_S_product jb_S_product 5 (some .int) { frames := 0, cells := 0, slots := 0, locals := 0 } [.int (nI x), .int (nI y)] (some (.int (nI (prF x y)))) := by
  refine jq_I (by decide) (Nat.le_of_ble_eq_true rfl) ?_
  intro p e s m A below meth c ls Q X hP hl hQ
  have hl : lv_has ls 5 [(0, .int (nI x)), (1, .int (nI y))] := hl
  refine lv_iconst (v := nI 0) X.1 X.2.1 jd_S_product_0 (by decide) ?_
  refine lv_istore_n X.1 X.2.1 jd_S_product_1 rfl hl (by decide) rfl (fun ls hl => ?_)
  have hl : lv_has ls 5 [(2, .int (nI 0)), (0, .int (nI x)), (1, .int (nI y))] := hl
  refine lv_iload_n X.1 X.2.1 jd_S_product_2 rfl (lv_at hl 1 rfl) ?_
  refine lv_istore_n X.1 X.2.1 jd_S_product_3 rfl hl (by decide) rfl (fun ls hl => ?_)
  have hl : lv_has ls 5 [(3, .int (nI x)), (2, .int (nI 0)), (0, .int (nI x)), (1, .int (nI y))] := hl
  refine lv_iconst (v := nI 0) X.1 X.2.1 jd_S_product_4 (by decide) ?_
  refine lv_istore X.1 X.2.1 jd_S_product_5 hl (by decide) rfl (fun ls hl => ?_)
  have hl : lv_has ls 5 [(4, .int (nI 0)), (3, .int (nI x)), (2, .int (nI 0)), (0, .int (nI x)), (1, .int (nI y))] := hl
  have loop7 : ∀ (r k : Nat) (ls : Array Slot), k + r = 16 → lv_has ls 5 [(4, .int (nI k)), (3, .int (nI (shF x k))), (2, .int (nI (smF x y k))), (0, .int (nI x)), (1, .int (nI y))] → W p l e { frames := 0, cells := 0, slots := 0, locals := 0 } s m A below meth c s.heap [] 0 0 Q (F0 m 7 ls []) := by
    intro r
    induction r with
    | zero => 
      intro k ls hk hl
      obtain rfl : 16 = k := by omega
      refine lv_iload X.1 X.2.1 jd_S_product_7 (lv_at hl 0 rfl) ?_
      refine lv_bipush (v := nI 16) X.1 X.2.1 jd_S_product_9 (by decide) ?_
      refine kn_cge X.1 X.2.1 jd_S_product_11 (tgt := 49) (by decide) (by omega) (fun h11 => ?_) (fun h11 => absurd h11 (by omega))
      refine lv_iload_n X.1 X.2.1 jd_S_product_49 rfl (lv_at hl 2 rfl) ?_
      exact kn_to (by first | rfl | omega | (split <;> omega)) (hQ _ _ jd_S_product_50)
    | succ r ihr => 
      intro k ls hk hl
      refine lv_iload X.1 X.2.1 jd_S_product_7 (lv_at hl 0 rfl) ?_
      refine lv_bipush (v := nI 16) X.1 X.2.1 jd_S_product_9 (by decide) ?_
      refine kn_cge X.1 X.2.1 jd_S_product_11 (tgt := 49) (by decide) (by omega) (fun h11 => absurd h11 (by omega)) (fun h11 => ?_)
      refine lv_iload_n X.1 X.2.1 jd_S_product_14 rfl (lv_at hl 4 rfl) ?_
      refine lv_iload X.1 X.2.1 jd_S_product_15 (lv_at hl 0 rfl) ?_
      refine lv_iushr (v := nI (y / 2 ^ k)) X.1 X.2.1 jd_S_product_17 (kn_bit (by omega) (by omega)) ?_
      refine lv_iconst (v := nI 1) X.1 X.2.1 jd_S_product_18 (by decide) ?_
      refine kn_iand X.1 X.2.1 jd_S_product_19 ?_
      refine lv_iconst (v := nI 1) X.1 X.2.1 jd_S_product_20 (by decide) ?_
      refine kn_cne X.1 X.2.1 jd_S_product_21 (tgt := 28) (by decide) (⟨by have := Nat.and_le_right (n := y / 2 ^ k) (m := 1); omega, by decide⟩) (fun h21 => ?_) (fun h21 => ?_)
      · skip
        refine lv_iload_n X.1 X.2.1 jd_S_product_28 rfl (lv_at hl 1 rfl) ?_
        refine lv_iconst (v := nI 1) X.1 X.2.1 jd_S_product_29 (by decide) ?_
        refine lv_ishl X.1 X.2.1 jd_S_product_30 ?_
        refine kn_is (y := (shF x k) * 2 ^ 1) (kn_shl (by omega) (shF_lt hx k)) ?_
        refine lv_istore_n X.1 X.2.1 jd_S_product_31 rfl hl (by decide) rfl (fun ls hl => ?_)
        have hl : lv_has ls 5 [(3, .int (nI ((shF x k) * 2 ^ 1))), (4, .int (nI k)), (2, .int (nI (smF x y k))), (0, .int (nI x)), (1, .int (nI y))] := hl
        refine lv_iload_n X.1 X.2.1 jd_S_product_32 rfl (lv_at hl 0 rfl) ?_
        refine lv_ldc (v := nI 65535) X.1 X.2.1 X.2.2.2.2.2.1 (X.2.2.2.2.2.2.1 _ jm_561) jd_S_product_33 ?_
        refine kn_cle X.1 X.2.1 jd_S_product_35 (tgt := 43) (by decide) (by have := shF_lt hx k; omega) (fun h35 => ?_) (fun h35 => ?_)
        · skip
          refine lv_iinc (k := 1) (v := nI (k + 1)) X.1 X.2.1 jd_S_product_43 hl rfl (kn_inc _) (by decide) rfl (fun ls hl => ?_)
          have hl : lv_has ls 5 [(4, .int (nI (k + 1))), (3, .int (nI ((shF x k) * 2 ^ 1))), (2, .int (nI (smF x y k))), (0, .int (nI x)), (1, .int (nI y))] := hl
          refine lv_goto X.1 X.2.1 jd_S_product_46 (tgt := 7) (by decide) ?_
          have hl : lv_has ls 5 [(4, .int (nI (k + 1))), (3, .int (nI (shF x (k + 1)))), (2, .int (nI (smF x y (k + 1)))), (0, .int (nI x)), (1, .int (nI y))] := by first | exact lv_sub hl [0, 1, 2, 3, 4] rfl | (simp only [shF, smF]; first | (rw [if_pos (by first | exact h35 | omega)]; rw [if_pos (by first | exact h21 | omega)]; exact lv_sub hl [0, 1, 2, 3, 4] rfl) | (rw [if_pos (by first | exact h35 | omega)]; rw [if_neg (by first | exact h21 | omega)]; exact lv_sub hl [0, 1, 2, 3, 4] rfl) | (rw [if_neg (by first | exact h35 | omega)]; rw [if_pos (by first | exact h21 | omega)]; exact lv_sub hl [0, 1, 2, 3, 4] rfl) | (rw [if_neg (by first | exact h35 | omega)]; rw [if_neg (by first | exact h21 | omega)]; exact lv_sub hl [0, 1, 2, 3, 4] rfl))
          exact ihr (k + 1) ls (by omega) hl
        · skip
          refine lv_iload_n X.1 X.2.1 jd_S_product_38 rfl (lv_at hl 0 rfl) ?_
          refine lv_ldc (v := nI 65579) X.1 X.2.1 X.2.2.2.2.2.1 (X.2.2.2.2.2.2.1 _ jm_562) jd_S_product_39 ?_
          refine kn_ixor X.1 X.2.1 jd_S_product_41 ?_
          refine lv_istore_n X.1 X.2.1 jd_S_product_42 rfl hl (by decide) rfl (fun ls hl => ?_)
          have hl : lv_has ls 5 [(3, .int (nI (((shF x k) * 2 ^ 1) ^^^ 65579))), (4, .int (nI k)), (2, .int (nI (smF x y k))), (0, .int (nI x)), (1, .int (nI y))] := hl
          refine lv_iinc (k := 1) (v := nI (k + 1)) X.1 X.2.1 jd_S_product_43 hl rfl (kn_inc _) (by decide) rfl (fun ls hl => ?_)
          have hl : lv_has ls 5 [(4, .int (nI (k + 1))), (3, .int (nI (((shF x k) * 2 ^ 1) ^^^ 65579))), (2, .int (nI (smF x y k))), (0, .int (nI x)), (1, .int (nI y))] := hl
          refine lv_goto X.1 X.2.1 jd_S_product_46 (tgt := 7) (by decide) ?_
          have hl : lv_has ls 5 [(4, .int (nI (k + 1))), (3, .int (nI (shF x (k + 1)))), (2, .int (nI (smF x y (k + 1)))), (0, .int (nI x)), (1, .int (nI y))] := by first | exact lv_sub hl [0, 1, 2, 3, 4] rfl | (simp only [shF, smF]; first | (rw [if_pos (by first | exact h35 | omega)]; rw [if_pos (by first | exact h21 | omega)]; exact lv_sub hl [0, 1, 2, 3, 4] rfl) | (rw [if_pos (by first | exact h35 | omega)]; rw [if_neg (by first | exact h21 | omega)]; exact lv_sub hl [0, 1, 2, 3, 4] rfl) | (rw [if_neg (by first | exact h35 | omega)]; rw [if_pos (by first | exact h21 | omega)]; exact lv_sub hl [0, 1, 2, 3, 4] rfl) | (rw [if_neg (by first | exact h35 | omega)]; rw [if_neg (by first | exact h21 | omega)]; exact lv_sub hl [0, 1, 2, 3, 4] rfl))
          exact ihr (k + 1) ls (by omega) hl
      · skip
        refine lv_iload_n X.1 X.2.1 jd_S_product_24 rfl (lv_at hl 2 rfl) ?_
        refine lv_iload_n X.1 X.2.1 jd_S_product_25 rfl (lv_at hl 1 rfl) ?_
        refine kn_ixor X.1 X.2.1 jd_S_product_26 ?_
        refine lv_istore_n X.1 X.2.1 jd_S_product_27 rfl hl (by decide) rfl (fun ls hl => ?_)
        have hl : lv_has ls 5 [(2, .int (nI ((smF x y k) ^^^ (shF x k)))), (4, .int (nI k)), (3, .int (nI (shF x k))), (0, .int (nI x)), (1, .int (nI y))] := hl
        refine lv_iload_n X.1 X.2.1 jd_S_product_28 rfl (lv_at hl 2 rfl) ?_
        refine lv_iconst (v := nI 1) X.1 X.2.1 jd_S_product_29 (by decide) ?_
        refine lv_ishl X.1 X.2.1 jd_S_product_30 ?_
        refine kn_is (y := (shF x k) * 2 ^ 1) (kn_shl (by omega) (shF_lt hx k)) ?_
        refine lv_istore_n X.1 X.2.1 jd_S_product_31 rfl hl (by decide) rfl (fun ls hl => ?_)
        have hl : lv_has ls 5 [(3, .int (nI ((shF x k) * 2 ^ 1))), (2, .int (nI ((smF x y k) ^^^ (shF x k)))), (4, .int (nI k)), (0, .int (nI x)), (1, .int (nI y))] := hl
        refine lv_iload_n X.1 X.2.1 jd_S_product_32 rfl (lv_at hl 0 rfl) ?_
        refine lv_ldc (v := nI 65535) X.1 X.2.1 X.2.2.2.2.2.1 (X.2.2.2.2.2.2.1 _ jm_561) jd_S_product_33 ?_
        refine kn_cle X.1 X.2.1 jd_S_product_35 (tgt := 43) (by decide) (by have := shF_lt hx k; omega) (fun h35 => ?_) (fun h35 => ?_)
        · skip
          refine lv_iinc (k := 2) (v := nI (k + 1)) X.1 X.2.1 jd_S_product_43 hl rfl (kn_inc _) (by decide) rfl (fun ls hl => ?_)
          have hl : lv_has ls 5 [(4, .int (nI (k + 1))), (3, .int (nI ((shF x k) * 2 ^ 1))), (2, .int (nI ((smF x y k) ^^^ (shF x k)))), (0, .int (nI x)), (1, .int (nI y))] := hl
          refine lv_goto X.1 X.2.1 jd_S_product_46 (tgt := 7) (by decide) ?_
          have hl : lv_has ls 5 [(4, .int (nI (k + 1))), (3, .int (nI (shF x (k + 1)))), (2, .int (nI (smF x y (k + 1)))), (0, .int (nI x)), (1, .int (nI y))] := by first | exact lv_sub hl [0, 1, 2, 3, 4] rfl | (simp only [shF, smF]; first | (rw [if_pos (by first | exact h35 | omega)]; rw [if_pos (by first | exact h21 | omega)]; exact lv_sub hl [0, 1, 2, 3, 4] rfl) | (rw [if_pos (by first | exact h35 | omega)]; rw [if_neg (by first | exact h21 | omega)]; exact lv_sub hl [0, 1, 2, 3, 4] rfl) | (rw [if_neg (by first | exact h35 | omega)]; rw [if_pos (by first | exact h21 | omega)]; exact lv_sub hl [0, 1, 2, 3, 4] rfl) | (rw [if_neg (by first | exact h35 | omega)]; rw [if_neg (by first | exact h21 | omega)]; exact lv_sub hl [0, 1, 2, 3, 4] rfl))
          exact ihr (k + 1) ls (by omega) hl
        · skip
          refine lv_iload_n X.1 X.2.1 jd_S_product_38 rfl (lv_at hl 0 rfl) ?_
          refine lv_ldc (v := nI 65579) X.1 X.2.1 X.2.2.2.2.2.1 (X.2.2.2.2.2.2.1 _ jm_562) jd_S_product_39 ?_
          refine kn_ixor X.1 X.2.1 jd_S_product_41 ?_
          refine lv_istore_n X.1 X.2.1 jd_S_product_42 rfl hl (by decide) rfl (fun ls hl => ?_)
          have hl : lv_has ls 5 [(3, .int (nI (((shF x k) * 2 ^ 1) ^^^ 65579))), (2, .int (nI ((smF x y k) ^^^ (shF x k)))), (4, .int (nI k)), (0, .int (nI x)), (1, .int (nI y))] := hl
          refine lv_iinc (k := 2) (v := nI (k + 1)) X.1 X.2.1 jd_S_product_43 hl rfl (kn_inc _) (by decide) rfl (fun ls hl => ?_)
          have hl : lv_has ls 5 [(4, .int (nI (k + 1))), (3, .int (nI (((shF x k) * 2 ^ 1) ^^^ 65579))), (2, .int (nI ((smF x y k) ^^^ (shF x k)))), (0, .int (nI x)), (1, .int (nI y))] := hl
          refine lv_goto X.1 X.2.1 jd_S_product_46 (tgt := 7) (by decide) ?_
          have hl : lv_has ls 5 [(4, .int (nI (k + 1))), (3, .int (nI (shF x (k + 1)))), (2, .int (nI (smF x y (k + 1)))), (0, .int (nI x)), (1, .int (nI y))] := by first | exact lv_sub hl [0, 1, 2, 3, 4] rfl | (simp only [shF, smF]; first | (rw [if_pos (by first | exact h35 | omega)]; rw [if_pos (by first | exact h21 | omega)]; exact lv_sub hl [0, 1, 2, 3, 4] rfl) | (rw [if_pos (by first | exact h35 | omega)]; rw [if_neg (by first | exact h21 | omega)]; exact lv_sub hl [0, 1, 2, 3, 4] rfl) | (rw [if_neg (by first | exact h35 | omega)]; rw [if_pos (by first | exact h21 | omega)]; exact lv_sub hl [0, 1, 2, 3, 4] rfl) | (rw [if_neg (by first | exact h35 | omega)]; rw [if_neg (by first | exact h21 | omega)]; exact lv_sub hl [0, 1, 2, 3, 4] rfl))
          exact ihr (k + 1) ls (by omega) hl
  have hl : lv_has ls 5 [(4, .int (nI 0)), (3, .int (nI (shF x 0))), (2, .int (nI (smF x y 0))), (0, .int (nI x)), (1, .int (nI y))] := lv_sub hl [0, 1, 2, 3, 4] rfl
  exact loop7 (16) 0 ls (by omega) hl

set_option maxHeartbeats 4000000 in
theorem c_S_word_1 (l : Launch) (d : Nat → Nat) (D : va_G) (a : Nat → Nat) (n : Nat → Nat → Nat) (g : Nat → Nat) (f t : Nat) (hf : f ≤ t) (ht : t ≤ f + 16) (ht2 : t ≤ 128) (h01 : ∀ i, n 6 i < 2) : jPure l d D a n g jy_S_word jb_S_word 5 (some .int) { frames := 0, cells := 0, slots := 0, locals := 0 } [.ref (a 1), .int (nI f), .int (nI t)] (some (.int (nI (wordF (n 6) f (t - f))))) := by
  refine jq_I (by decide) (Nat.le_of_ble_eq_true rfl) ?_
  intro p e s m A below meth c ls Q X hP hl hQ
  have hl : lv_has ls 5 [(0, .ref (a 1)), (1, .int (nI f)), (2, .int (nI t))] := hl
  refine lv_iconst (v := nI 0) X.1 X.2.1 jd_S_word_0 (by decide) ?_
  refine lv_istore_n X.1 X.2.1 jd_S_word_1 rfl hl (by decide) rfl (fun ls hl => ?_)
  have hl : lv_has ls 5 [(3, .int (nI 0)), (0, .ref (a 1)), (1, .int (nI f)), (2, .int (nI t))] := hl
  refine lv_iload_n X.1 X.2.1 jd_S_word_2 rfl (lv_at hl 2 rfl) ?_
  refine lv_istore X.1 X.2.1 jd_S_word_3 hl (by decide) rfl (fun ls hl => ?_)
  have hl : lv_has ls 5 [(4, .int (nI f)), (3, .int (nI 0)), (0, .ref (a 1)), (1, .int (nI f)), (2, .int (nI t))] := hl
  have loop5 : ∀ (r k : Nat) (ls : Array Slot), k + r = t - f → lv_has ls 5 [(4, .int (nI (f + k))), (3, .int (nI (wordF (n 6) f k))), (0, .ref (a 1)), (1, .int (nI f)), (2, .int (nI t))] → W p l e { frames := 0, cells := 0, slots := 0, locals := 0 } s m A below meth c s.heap [] 0 0 Q (F0 m 5 ls []) := by
    intro r
    induction r with
    | zero => 
      intro k ls hk hl
      obtain rfl : t - f = k := by omega
      refine lv_iload X.1 X.2.1 jd_S_word_5 (lv_at hl 0 rfl) ?_
      refine lv_iload_n X.1 X.2.1 jd_S_word_7 rfl (lv_at hl 4 rfl) ?_
      refine kn_cge X.1 X.2.1 jd_S_word_8 (tgt := 32) (by decide) (by omega) (fun h8 => ?_) (fun h8 => absurd h8 (by omega))
      refine lv_iload_n X.1 X.2.1 jd_S_word_32 rfl (lv_at hl 1 rfl) ?_
      exact kn_to (by first | rfl | omega | (split <;> omega)) (hQ _ _ jd_S_word_33)
    | succ r ihr => 
      intro k ls hk hl
      refine lv_iload X.1 X.2.1 jd_S_word_5 (lv_at hl 0 rfl) ?_
      refine lv_iload_n X.1 X.2.1 jd_S_word_7 rfl (lv_at hl 4 rfl) ?_
      refine kn_cge X.1 X.2.1 jd_S_word_8 (tgt := 32) (by decide) (by omega) (fun h8 => absurd h8 (by omega)) (fun h8 => ?_)
      refine lv_iload_n X.1 X.2.1 jd_S_word_11 rfl (lv_at hl 1 rfl) ?_
      refine lv_aload_n X.1 X.2.1 jd_S_word_12 rfl (lv_at hl 2 rfl) ?_
      refine jg_S_25_1 X hP jd_S_word_13 ?_
      refine lv_iload X.1 X.2.1 jd_S_word_16 (lv_at hl 0 rfl) ?_
      refine j_ald X hP 6 (f + k) (by decide) (show (f + k) < 128 from by omega) (by decide) jd_S_word_18 ?_
      refine lv_iload X.1 X.2.1 jd_S_word_19 (lv_at hl 0 rfl) ?_
      refine lv_iload_n X.1 X.2.1 jd_S_word_21 rfl (lv_at hl 3 rfl) ?_
      refine kn_isub X.1 X.2.1 jd_S_word_22 (by omega) ?_
      refine kn_to (y := k) (by omega) ?_
      refine lv_ishl X.1 X.2.1 jd_S_word_23 ?_
      refine kn_is (y := (n 6 (f + k)) * 2 ^ k) (kn_shl16 (by omega) (by have := h01 (f + k); omega)) ?_
      refine kn_ior X.1 X.2.1 jd_S_word_24 ?_
      refine lv_istore_n X.1 X.2.1 jd_S_word_25 rfl hl (by decide) rfl (fun ls hl => ?_)
      have hl : lv_has ls 5 [(3, .int (nI ((wordF (n 6) f k) ||| ((n 6 (f + k)) * 2 ^ k)))), (4, .int (nI (f + k))), (0, .ref (a 1)), (1, .int (nI f)), (2, .int (nI t))] := hl
      refine lv_iinc (k := 1) (v := nI ((f + k) + 1)) X.1 X.2.1 jd_S_word_26 hl rfl (kn_inc _) (by decide) rfl (fun ls hl => ?_)
      have hl : lv_has ls 5 [(4, .int (nI ((f + k) + 1))), (3, .int (nI ((wordF (n 6) f k) ||| ((n 6 (f + k)) * 2 ^ k)))), (0, .ref (a 1)), (1, .int (nI f)), (2, .int (nI t))] := hl
      refine lv_goto X.1 X.2.1 jd_S_word_29 (tgt := 5) (by decide) ?_
      have hl : lv_has ls 5 [(4, .int (nI (f + (k + 1)))), (3, .int (nI (wordF (n 6) f (k + 1)))), (0, .ref (a 1)), (1, .int (nI f)), (2, .int (nI t))] := lv_sub hl [0, 1, 2, 3, 4] rfl
      exact ihr (k + 1) ls (by omega) hl
  have hl : lv_has ls 5 [(4, .int (nI (f + 0))), (3, .int (nI (wordF (n 6) f 0))), (0, .ref (a 1)), (1, .int (nI f)), (2, .int (nI t))] := lv_sub hl [0, 1, 2, 3, 4] rfl
  exact loop5 (t - f) 0 ls (by omega) hl

set_option maxHeartbeats 4000000 in
theorem c_S_tagWith_1 (l : Launch) (d : Nat → Nat) (D : va_G) (a : Nat → Nat) (n : Nat → Nat → Nat) (g : Nat → Nat) (x t : Nat) (hx : x < 65536) (ht : t ≤ 128) (h01 : ∀ i, n 6 i < 2) : jPure l d D a n g jy_S_tagWith jb_S_tagWith 5 (some .int) { frames := 1, cells := 0, slots := 0, locals := 24 } [.ref (a 1), .int (nI x), .int (nI t)] (some (.int (nI (tagF (n 6) x t)))) := by
  refine jq_I (by decide) (Nat.le_of_ble_eq_true rfl) ?_
  intro p e s m A below meth c ls Q X hP hl hQ
  have hl : lv_has ls 5 [(0, .ref (a 1)), (1, .int (nI x)), (2, .int (nI t))] := hl
  refine lv_iconst (v := nI 0) X.1 X.2.1 jd_S_tagWith_0 (by decide) ?_
  refine lv_istore_n X.1 X.2.1 jd_S_tagWith_1 rfl hl (by decide) rfl (fun ls hl => ?_)
  have hl : lv_has ls 5 [(3, .int (nI 0)), (0, .ref (a 1)), (1, .int (nI x)), (2, .int (nI t))] := hl
  refine lv_iconst (v := nI 0) X.1 X.2.1 jd_S_tagWith_2 (by decide) ?_
  refine lv_istore X.1 X.2.1 jd_S_tagWith_3 hl (by decide) rfl (fun ls hl => ?_)
  have hl : lv_has ls 5 [(4, .int (nI 0)), (3, .int (nI 0)), (0, .ref (a 1)), (1, .int (nI x)), (2, .int (nI t))] := hl
  have loop5 : ∀ (r k : Nat) (ls : Array Slot), k + r = (t + 15) / 16 → lv_has ls 5 [(4, .int (nI (16 * k))), (3, .int (nI (tgF (n 6) x t k))), (0, .ref (a 1)), (1, .int (nI x)), (2, .int (nI t))] → W p l e { frames := 1, cells := 0, slots := 0, locals := 24 } s m A below meth c s.heap [] 0 0 Q (F0 m 5 ls []) := by
    intro r
    induction r with
    | zero => 
      intro k ls hk hl
      obtain rfl : (t + 15) / 16 = k := by omega
      refine lv_iload X.1 X.2.1 jd_S_tagWith_5 (lv_at hl 0 rfl) ?_
      refine lv_iload_n X.1 X.2.1 jd_S_tagWith_7 rfl (lv_at hl 4 rfl) ?_
      refine kn_cge X.1 X.2.1 jd_S_tagWith_8 (tgt := 39) (by decide) (by omega) (fun h8 => ?_) (fun h8 => absurd h8 (by omega))
      refine lv_iload_n X.1 X.2.1 jd_S_tagWith_39 rfl (lv_at hl 3 rfl) ?_
      refine lv_iload_n X.1 X.2.1 jd_S_tagWith_40 rfl (lv_at hl 1 rfl) ?_
      refine lv_iload_n X.1 X.2.1 jd_S_tagWith_41 rfl (lv_at hl 4 rfl) ?_
      refine kn_ixor X.1 X.2.1 jd_S_tagWith_42 ?_
      refine j_run (j_mkS X (c_S_product l d D a n g x ((tgF (n 6) x t ((t + 15) / 16)) ^^^ t) hx (by have h1 := tgF_lt (r := n 6) (t := t) hx ((t + 15) / 16); have h3 := kx_lt h1 (show t < 65536 by omega); omega)) jU_b (j_pp X hP) jm_560 jm_559 jm_2 jm_558 (show jOk jy_S_product 2 by unfold jOk; decide +kernel) (by decide) ⟨rfl, rfl⟩ hl.1 rfl (Nat.le_of_ble_eq_true rfl) ⟨Nat.zero_le _, Nat.zero_le _⟩ jd_S_tagWith_43) ?_
      refine W.eq (g2 := F0 m 46 ls [.int (nI (prF x ((tgF (n 6) x t ((t + 15) / 16)) ^^^ t)))]) rfl ?_
      exact kn_to (by first | rfl | omega | (split <;> omega)) (hQ _ _ jd_S_tagWith_46)
    | succ r ihr => 
      intro k ls hk hl
      refine lv_iload X.1 X.2.1 jd_S_tagWith_5 (lv_at hl 0 rfl) ?_
      refine lv_iload_n X.1 X.2.1 jd_S_tagWith_7 rfl (lv_at hl 4 rfl) ?_
      refine kn_cge X.1 X.2.1 jd_S_tagWith_8 (tgt := 39) (by decide) (by omega) (fun h8 => absurd h8 (by omega)) (fun h8 => ?_)
      refine lv_iload_n X.1 X.2.1 jd_S_tagWith_11 rfl (lv_at hl 3 rfl) ?_
      refine lv_iload_n X.1 X.2.1 jd_S_tagWith_12 rfl (lv_at hl 1 rfl) ?_
      refine lv_aload_n X.1 X.2.1 jd_S_tagWith_13 rfl (lv_at hl 2 rfl) ?_
      refine lv_iload X.1 X.2.1 jd_S_tagWith_14 (lv_at hl 0 rfl) ?_
      refine lv_iload X.1 X.2.1 jd_S_tagWith_16 (lv_at hl 0 rfl) ?_
      refine lv_bipush (v := nI 16) X.1 X.2.1 jd_S_tagWith_18 (by decide) ?_
      refine kn_iadd X.1 X.2.1 jd_S_tagWith_20 ?_
      refine lv_iload_n X.1 X.2.1 jd_S_tagWith_21 rfl (lv_at hl 4 rfl) ?_
      refine j_min X jm_553 (by omega) hl.1 ⟨by decide, Nat.le_of_ble_eq_true rfl⟩ ⟨Nat.zero_le _, Nat.zero_le _⟩ jd_S_tagWith_22 ?_
      refine j_run (j_mkV X hP (c_S_word_1 l d D a n g (16 * k) (if t < ((16 * k) + 16) then t else ((16 * k) + 16)) (by split <;> omega) (by split <;> omega) (by split <;> omega) h01) jU_b (j_pp X hP) jm_557 jm_556 js_37 jm_2 jm_554 (by decide) rfl rfl (show jOk jy_S_word 2 by unfold jOk; decide +kernel) (by decide) ⟨rfl, rfl⟩ hl.1 rfl (Nat.le_of_ble_eq_true rfl) ⟨Nat.zero_le _, Nat.zero_le _⟩ jd_S_tagWith_25) ?_
      refine W.eq (g2 := F0 m 28 ls [.int (nI (wordF (n 6) (16 * k) ((if t < ((16 * k) + 16) then t else ((16 * k) + 16)) - (16 * k)))), .int (nI (tgF (n 6) x t k)), .int (nI x)]) rfl ?_
      refine kn_ixor X.1 X.2.1 jd_S_tagWith_28 ?_
      refine j_run (j_mkS X (c_S_product l d D a n g x ((tgF (n 6) x t k) ^^^ (wordF (n 6) (16 * k) ((if t < ((16 * k) + 16) then t else ((16 * k) + 16)) - (16 * k)))) hx (by have h1 := tgF_lt (r := n 6) (t := t) hx k; have h2 := wordF_16 (r := n 6) (f := 16 * k) (k := (if t < 16 * k + 16 then t else 16 * k + 16) - 16 * k) h01 (by split <;> omega); have h3 := kx_lt h1 h2; omega)) jU_b (j_pp X hP) jm_560 jm_559 jm_2 jm_558 (show jOk jy_S_product 2 by unfold jOk; decide +kernel) (by decide) ⟨rfl, rfl⟩ hl.1 rfl (Nat.le_of_ble_eq_true rfl) ⟨Nat.zero_le _, Nat.zero_le _⟩ jd_S_tagWith_29) ?_
      refine W.eq (g2 := F0 m 32 ls [.int (nI (prF x ((tgF (n 6) x t k) ^^^ (wordF (n 6) (16 * k) ((if t < ((16 * k) + 16) then t else ((16 * k) + 16)) - (16 * k))))))]) rfl ?_
      refine lv_istore_n X.1 X.2.1 jd_S_tagWith_32 rfl hl (by decide) rfl (fun ls hl => ?_)
      have hl : lv_has ls 5 [(3, .int (nI (prF x ((tgF (n 6) x t k) ^^^ (wordF (n 6) (16 * k) ((if t < ((16 * k) + 16) then t else ((16 * k) + 16)) - (16 * k))))))), (4, .int (nI (16 * k))), (0, .ref (a 1)), (1, .int (nI x)), (2, .int (nI t))] := hl
      refine lv_iinc (k := 1) (v := nI ((16 * k) + 16)) X.1 X.2.1 jd_S_tagWith_33 hl rfl (kn_inc16 _) (by decide) rfl (fun ls hl => ?_)
      have hl : lv_has ls 5 [(4, .int (nI ((16 * k) + 16))), (3, .int (nI (prF x ((tgF (n 6) x t k) ^^^ (wordF (n 6) (16 * k) ((if t < ((16 * k) + 16) then t else ((16 * k) + 16)) - (16 * k))))))), (0, .ref (a 1)), (1, .int (nI x)), (2, .int (nI t))] := hl
      refine lv_goto X.1 X.2.1 jd_S_tagWith_36 (tgt := 5) (by decide) ?_
      have hl : lv_has ls 5 [(4, .int (nI (16 * (k + 1)))), (3, .int (nI (tgF (n 6) x t (k + 1)))), (0, .ref (a 1)), (1, .int (nI x)), (2, .int (nI t))] := lv_sub hl [0, 1, 2, 3, 4] rfl
      exact ihr (k + 1) ls (by omega) hl
  have hl : lv_has ls 5 [(4, .int (nI (16 * 0))), (3, .int (nI (tgF (n 6) x t 0))), (0, .ref (a 1)), (1, .int (nI x)), (2, .int (nI t))] := lv_sub hl [0, 1, 2, 3, 4] rfl
  exact loop5 ((t + 15) / 16) 0 ls (by omega) hl

set_option maxHeartbeats 4000000 in
theorem c_S_note_1 (l : Launch) (d : Nat → Nat) (D : va_G) (a : Nat → Nat) (n : Nat → Nat → Nat) (g : Nat → Nat) (hap : ∀ i j : Nat, i < 52 → j < 52 → a i = a j → i = j) (f k0 b v z : Nat) (hk : f + k0 ≤ 128) (hk2 : k0 ≤ 32) (hb : b < 4294967296) (hv : v < 4294967296) (hz : z < 4294967296) : jEff l d D a n g jy_S_note jb_S_note 7 none { frames := 0, cells := 0, slots := 0, locals := 0 } [.ref (a 1), .int (nI f), .int (nI k0), .int (nI b), .int (nI v), .int (nI z)] (fun v9 n2 g2 => none = v9 ∧ ku (noteF n 1 f b v z k0) 1 0 ((noteF n 1 f b v z k0) 1 0 + k0) = n2 ∧ g = g2) := by
  refine je_V (by decide) (Nat.le_of_ble_eq_true rfl) ?_
  intro p e s m A below meth c ls Q X hP hS hl hQ
  have hl : lv_has ls 7 [(0, .ref (a 1)), (1, .int (nI f)), (2, .int (nI k0)), (3, .int (nI b)), (4, .int (nI v)), (5, .int (nI z))] := hl
  refine lv_iconst (v := nI 0) X.1 X.2.1 jd_S_note_0 (by decide) ?_
  refine lv_istore X.1 X.2.1 jd_S_note_1 hl (by decide) rfl (fun ls hl => ?_)
  have hl : lv_has ls 7 [(6, .int (nI 0)), (0, .ref (a 1)), (1, .int (nI f)), (2, .int (nI k0)), (3, .int (nI b)), (4, .int (nI v)), (5, .int (nI z))] := hl
  have loop3 : ∀ (r k : Nat) (H : Heap) (locs : List Loc) (ls : Array Slot), k + r = k0 → va_P D jCl (jW d a (noteF n 1 f b v z k) g) H → va_S (jAa a s.heap.size) s.heap H locs → lv_has ls 7 [(6, .int (nI k)), (0, .ref (a 1)), (1, .int (nI f)), (2, .int (nI k0)), (3, .int (nI b)), (4, .int (nI v)), (5, .int (nI z))] → W p l e { frames := 0, cells := 0, slots := 0, locals := 0 } s m A below meth c H locs 0 0 Q (F0 m 3 ls []) := by
    intro r
    induction r with
    | zero => 
      intro k H locs ls hk hP hS hl
      obtain rfl : k0 = k := by omega
      refine lv_iload X.1 X.2.1 jd_S_note_3 (lv_at hl 0 rfl) ?_
      refine lv_iload_n X.1 X.2.1 jd_S_note_5 rfl (lv_at hl 3 rfl) ?_
      refine kn_cge X.1 X.2.1 jd_S_note_6 (tgt := 72) (by decide) (by omega) (fun h6 => ?_) (fun h6 => absurd h6 (by omega))
      refine lv_aload_n X.1 X.2.1 jd_S_note_72 rfl (lv_at hl 1 rfl) ?_
      refine lv_dup X.1 X.2.1 jd_S_note_73 rfl ?_
      refine jg_S_28_1 X hP jd_S_note_74 ?_
      refine lv_iload_n X.1 X.2.1 jd_S_note_77 rfl (lv_at hl 3 rfl) ?_
      refine kn_iadd X.1 X.2.1 jd_S_note_78 ?_
      refine jp_S_28_1 X hap hP hS jd_S_note_79 (fun H locs hP hS => ?_)
      exact hQ _ _ _ _ _ _ (⟨rfl, rfl, rfl⟩) hP hS jd_S_note_82
    | succ r ihr => 
      intro k H locs ls hk hP hS hl
      refine lv_iload X.1 X.2.1 jd_S_note_3 (lv_at hl 0 rfl) ?_
      refine lv_iload_n X.1 X.2.1 jd_S_note_5 rfl (lv_at hl 3 rfl) ?_
      refine kn_cge X.1 X.2.1 jd_S_note_6 (tgt := 72) (by decide) (by omega) (fun h6 => absurd h6 (by omega)) (fun h6 => ?_)
      refine lv_aload_n X.1 X.2.1 jd_S_note_9 rfl (lv_at hl 1 rfl) ?_
      refine jg_S_9_1 X hP jd_S_note_10 ?_
      refine lv_iload_n X.1 X.2.1 jd_S_note_13 rfl (lv_at hl 2 rfl) ?_
      refine lv_iload X.1 X.2.1 jd_S_note_14 (lv_at hl 0 rfl) ?_
      refine kn_iadd X.1 X.2.1 jd_S_note_16 ?_
      refine lv_iconst (v := nI 1) X.1 X.2.1 jd_S_note_17 (by decide) ?_
      refine j_zast X hap hP hS 2 (f + k) 1 (by decide) (show (f + k) < 128 from by omega) (by decide) (by omega) jd_S_note_18 (fun H locs hP hS => ?_)
      refine lv_aload_n X.1 X.2.1 jd_S_note_19 rfl (lv_at hl 1 rfl) ?_
      refine jg_S_15_1 X hP jd_S_note_20 ?_
      refine lv_iload_n X.1 X.2.1 jd_S_note_23 rfl (lv_at hl 2 rfl) ?_
      refine lv_iload X.1 X.2.1 jd_S_note_24 (lv_at hl 0 rfl) ?_
      refine kn_iadd X.1 X.2.1 jd_S_note_26 ?_
      refine lv_iload_n X.1 X.2.1 jd_S_note_27 rfl (lv_at hl 4 rfl) ?_
      refine lv_iload X.1 X.2.1 jd_S_note_28 (lv_at hl 0 rfl) ?_
      refine lv_iushr (v := nI (b / 2 ^ k)) X.1 X.2.1 jd_S_note_30 (kn_bit (by omega) (by omega)) ?_
      refine lv_iconst (v := nI 1) X.1 X.2.1 jd_S_note_31 (by decide) ?_
      refine kn_iand X.1 X.2.1 jd_S_note_32 ?_
      refine j_ast X hap hP hS 3 (f + k) ((b / 2 ^ k) &&& 1) (by decide) (show (f + k) < 128 from by omega) (by decide) jd_S_note_33 (fun H locs hP hS => ?_)
      refine lv_aload_n X.1 X.2.1 jd_S_note_34 rfl (lv_at hl 1 rfl) ?_
      refine jg_S_19_1 X hP jd_S_note_35 ?_
      refine lv_iload_n X.1 X.2.1 jd_S_note_38 rfl (lv_at hl 2 rfl) ?_
      refine lv_iload X.1 X.2.1 jd_S_note_39 (lv_at hl 0 rfl) ?_
      refine kn_iadd X.1 X.2.1 jd_S_note_41 ?_
      refine lv_iload X.1 X.2.1 jd_S_note_42 (lv_at hl 5 rfl) ?_
      refine lv_iload X.1 X.2.1 jd_S_note_44 (lv_at hl 0 rfl) ?_
      refine lv_iushr (v := nI (v / 2 ^ k)) X.1 X.2.1 jd_S_note_46 (kn_bit (by omega) (by omega)) ?_
      refine lv_iconst (v := nI 1) X.1 X.2.1 jd_S_note_47 (by decide) ?_
      refine kn_iand X.1 X.2.1 jd_S_note_48 ?_
      refine j_ast X hap hP hS 4 (f + k) ((v / 2 ^ k) &&& 1) (by decide) (show (f + k) < 128 from by omega) (by decide) jd_S_note_49 (fun H locs hP hS => ?_)
      refine lv_aload_n X.1 X.2.1 jd_S_note_50 rfl (lv_at hl 1 rfl) ?_
      refine jg_S_22_1 X hP jd_S_note_51 ?_
      refine lv_iload_n X.1 X.2.1 jd_S_note_54 rfl (lv_at hl 2 rfl) ?_
      refine lv_iload X.1 X.2.1 jd_S_note_55 (lv_at hl 0 rfl) ?_
      refine kn_iadd X.1 X.2.1 jd_S_note_57 ?_
      refine lv_iload X.1 X.2.1 jd_S_note_58 (lv_at hl 6 rfl) ?_
      refine lv_iload X.1 X.2.1 jd_S_note_60 (lv_at hl 0 rfl) ?_
      refine lv_iushr (v := nI (z / 2 ^ k)) X.1 X.2.1 jd_S_note_62 (kn_bit (by omega) (by omega)) ?_
      refine lv_iconst (v := nI 1) X.1 X.2.1 jd_S_note_63 (by decide) ?_
      refine kn_iand X.1 X.2.1 jd_S_note_64 ?_
      refine j_ast X hap hP hS 5 (f + k) ((z / 2 ^ k) &&& 1) (by decide) (show (f + k) < 128 from by omega) (by decide) jd_S_note_65 (fun H locs hP hS => ?_)
      refine lv_iinc (k := 0) (v := nI (k + 1)) X.1 X.2.1 jd_S_note_66 hl rfl (kn_inc _) (by decide) rfl (fun ls hl => ?_)
      have hl : lv_has ls 7 [(6, .int (nI (k + 1))), (0, .ref (a 1)), (1, .int (nI f)), (2, .int (nI k0)), (3, .int (nI b)), (4, .int (nI v)), (5, .int (nI z))] := hl
      refine lv_goto X.1 X.2.1 jd_S_note_69 (tgt := 3) (by decide) ?_
      have hl : lv_has ls 7 [(6, .int (nI (k + 1))), (0, .ref (a 1)), (1, .int (nI f)), (2, .int (nI k0)), (3, .int (nI b)), (4, .int (nI v)), (5, .int (nI z))] := lv_sub hl [0, 1, 2, 3, 4, 5, 6] rfl
      exact ihr (k + 1) H locs ls (by omega) hP hS hl
  have hl : lv_has ls 7 [(6, .int (nI 0)), (0, .ref (a 1)), (1, .int (nI f)), (2, .int (nI k0)), (3, .int (nI b)), (4, .int (nI v)), (5, .int (nI z))] := lv_sub hl [0, 1, 2, 3, 4, 5, 6] rfl
  exact loop3 (k0) 0 s.heap [] ls (by omega) hP hS hl

set_option maxHeartbeats 4000000 in
theorem c_S_leaveOut_1 (l : Launch) (d : Nat → Nat) (D : va_G) (a : Nat → Nat) (n : Nat → Nat → Nat) (g : Nat → Nat) (hap : ∀ i j : Nat, i < 52 → j < 52 → a i = a j → i = j) (t : Nat) (ht : t ≤ 128) (hb : ∀ k i, (lvP n 6 31 k).1 31 i < 4294967296) : jEff l d D a n g jy_S_leaveOut jb_S_leaveOut 5 none { frames := 0, cells := 0, slots := 0, locals := 0 } [.ref (a 1), .ref (a 31), .int (nI t)] (fun v9 n2 g2 => none = v9 ∧ (lvP n 6 31 t).1 = n2 ∧ g = g2) := by
  refine je_V (by decide) (Nat.le_of_ble_eq_true rfl) ?_
  intro p e s m A below meth c ls Q X hP hS hl hQ
  have hl : lv_has ls 5 [(0, .ref (a 1)), (1, .ref (a 31)), (2, .int (nI t))] := hl
  refine lv_iconst (v := nI 0) X.1 X.2.1 jd_S_leaveOut_0 (by decide) ?_
  refine lv_istore_n X.1 X.2.1 jd_S_leaveOut_1 rfl hl (by decide) rfl (fun ls hl => ?_)
  have hl : lv_has ls 5 [(3, .int (nI 0)), (0, .ref (a 1)), (1, .ref (a 31)), (2, .int (nI t))] := hl
  refine lv_iconst (v := nI 0) X.1 X.2.1 jd_S_leaveOut_2 (by decide) ?_
  refine lv_istore X.1 X.2.1 jd_S_leaveOut_3 hl (by decide) rfl (fun ls hl => ?_)
  have hl : lv_has ls 5 [(4, .int (nI 0)), (3, .int (nI 0)), (0, .ref (a 1)), (1, .ref (a 31)), (2, .int (nI t))] := hl
  have loop5 : ∀ (r k : Nat) (H : Heap) (locs : List Loc) (ls : Array Slot), k + r = t → va_P D jCl (jW d a ((lvP n 6 31 k).1) g) H → va_S (jAa a s.heap.size) s.heap H locs → lv_has ls 5 [(4, .int (nI k)), (3, .int (nI ((lvP n 6 31 k).2))), (0, .ref (a 1)), (1, .ref (a 31)), (2, .int (nI t))] → W p l e { frames := 0, cells := 0, slots := 0, locals := 0 } s m A below meth c H locs 0 0 Q (F0 m 5 ls []) := by
    intro r
    induction r with
    | zero => 
      intro k H locs ls hk hP hS hl
      obtain rfl : t = k := by omega
      refine lv_iload X.1 X.2.1 jd_S_leaveOut_5 (lv_at hl 0 rfl) ?_
      refine lv_iload_n X.1 X.2.1 jd_S_leaveOut_7 rfl (lv_at hl 4 rfl) ?_
      refine kn_cge X.1 X.2.1 jd_S_leaveOut_8 (tgt := 40) (by decide) (by omega) (fun h8 => ?_) (fun h8 => absurd h8 (by omega))
      exact hQ _ _ _ _ _ _ (⟨rfl, rfl, rfl⟩) hP hS jd_S_leaveOut_40
    | succ r ihr => 
      intro k H locs ls hk hP hS hl
      refine lv_iload X.1 X.2.1 jd_S_leaveOut_5 (lv_at hl 0 rfl) ?_
      refine lv_iload_n X.1 X.2.1 jd_S_leaveOut_7 rfl (lv_at hl 4 rfl) ?_
      refine kn_cge X.1 X.2.1 jd_S_leaveOut_8 (tgt := 40) (by decide) (by omega) (fun h8 => absurd h8 (by omega)) (fun h8 => ?_)
      refine lv_aload_n X.1 X.2.1 jd_S_leaveOut_11 rfl (lv_at hl 3 rfl) ?_
      refine lv_iload X.1 X.2.1 jd_S_leaveOut_12 (lv_at hl 0 rfl) ?_
      refine j_ald X hP 31 k (by decide) (show k < 128 from by omega) (by decide) jd_S_leaveOut_14 ?_
      refine kn_ne0 X.1 X.2.1 jd_S_leaveOut_15 (tgt := 34) (by decide) (hb _ _) (fun h15 => ?_) (fun h15 => ?_)
      · skip
        refine lv_iinc (k := 0) (v := nI (k + 1)) X.1 X.2.1 jd_S_leaveOut_34 hl rfl (kn_inc _) (by decide) rfl (fun ls hl => ?_)
        have hl : lv_has ls 5 [(4, .int (nI (k + 1))), (3, .int (nI ((lvP n 6 31 k).2))), (0, .ref (a 1)), (1, .ref (a 31)), (2, .int (nI t))] := hl
        refine lv_goto X.1 X.2.1 jd_S_leaveOut_37 (tgt := 5) (by decide) ?_
        have hP : va_P D jCl (jW d a ((lvP n 6 31 (k + 1)).1) g) H := by first | exact hP | (simp only [lvP]; first | (rw [if_pos (by first | exact h15 | omega)]; exact hP) | (rw [if_neg (by first | exact h15 | omega)]; exact hP))
        have hl : lv_has ls 5 [(4, .int (nI (k + 1))), (3, .int (nI ((lvP n 6 31 (k + 1)).2))), (0, .ref (a 1)), (1, .ref (a 31)), (2, .int (nI t))] := by first | exact lv_sub hl [0, 1, 2, 3, 4] rfl | (simp only [lvP]; first | (rw [if_pos (by first | exact h15 | omega)]; exact lv_sub hl [0, 1, 2, 3, 4] rfl) | (rw [if_neg (by first | exact h15 | omega)]; exact lv_sub hl [0, 1, 2, 3, 4] rfl))
        exact ihr (k + 1) H locs ls (by omega) hP hS hl
      · skip
        refine lv_aload_n X.1 X.2.1 jd_S_leaveOut_18 rfl (lv_at hl 2 rfl) ?_
        refine jg_S_25_1 X hP jd_S_leaveOut_19 ?_
        refine lv_iload_n X.1 X.2.1 jd_S_leaveOut_22 rfl (lv_at hl 1 rfl) ?_
        refine lv_aload_n X.1 X.2.1 jd_S_leaveOut_23 rfl (lv_at hl 2 rfl) ?_
        refine jg_S_25_1 X hP jd_S_leaveOut_24 ?_
        refine lv_iload X.1 X.2.1 jd_S_leaveOut_27 (lv_at hl 0 rfl) ?_
        refine j_ald X hP 6 k (by decide) (show k < 128 from by omega) (by decide) jd_S_leaveOut_29 ?_
        refine j_ast X hap hP hS 6 ((lvP n 6 31 k).2) (((lvP n 6 31 k).1) 6 k) (by decide) (show (lvP n 6 31 k).2 < 128 from by have := lvP_le n 6 31 k; omega) (by decide) jd_S_leaveOut_30 (fun H locs hP hS => ?_)
        refine lv_iinc (k := 1) (v := nI ((lvP n 6 31 k).2 + 1)) X.1 X.2.1 jd_S_leaveOut_31 hl rfl (kn_inc _) (by decide) rfl (fun ls hl => ?_)
        have hl : lv_has ls 5 [(3, .int (nI ((lvP n 6 31 k).2 + 1))), (4, .int (nI k)), (0, .ref (a 1)), (1, .ref (a 31)), (2, .int (nI t))] := hl
        refine lv_iinc (k := 1) (v := nI (k + 1)) X.1 X.2.1 jd_S_leaveOut_34 hl rfl (kn_inc _) (by decide) rfl (fun ls hl => ?_)
        have hl : lv_has ls 5 [(4, .int (nI (k + 1))), (3, .int (nI ((lvP n 6 31 k).2 + 1))), (0, .ref (a 1)), (1, .ref (a 31)), (2, .int (nI t))] := hl
        refine lv_goto X.1 X.2.1 jd_S_leaveOut_37 (tgt := 5) (by decide) ?_
        have hP : va_P D jCl (jW d a ((lvP n 6 31 (k + 1)).1) g) H := by first | exact hP | (simp only [lvP]; first | (rw [if_pos (by first | exact h15 | omega)]; exact hP) | (rw [if_neg (by first | exact h15 | omega)]; exact hP))
        have hl : lv_has ls 5 [(4, .int (nI (k + 1))), (3, .int (nI ((lvP n 6 31 (k + 1)).2))), (0, .ref (a 1)), (1, .ref (a 31)), (2, .int (nI t))] := by first | exact lv_sub hl [0, 1, 2, 3, 4] rfl | (simp only [lvP]; first | (rw [if_pos (by first | exact h15 | omega)]; exact lv_sub hl [0, 1, 2, 3, 4] rfl) | (rw [if_neg (by first | exact h15 | omega)]; exact lv_sub hl [0, 1, 2, 3, 4] rfl))
        exact ihr (k + 1) H locs ls (by omega) hP hS hl
  have hl : lv_has ls 5 [(4, .int (nI 0)), (3, .int (nI ((lvP n 6 31 0).2))), (0, .ref (a 1)), (1, .ref (a 31)), (2, .int (nI t))] := lv_sub hl [0, 1, 2, 3, 4] rfl
  exact loop5 (t) 0 s.heap [] ls (by omega) hP hS hl

set_option maxHeartbeats 4000000 in
theorem c_S_word_7 (l : Launch) (d : Nat → Nat) (D : va_G) (a : Nat → Nat) (n : Nat → Nat → Nat) (g : Nat → Nat) (f t : Nat) (hf : f ≤ t) (ht : t ≤ f + 16) (ht2 : t ≤ 128) (h01 : ∀ i, n 12 i < 2) : jPure l d D a n g jy_S_word jb_S_word 5 (some .int) { frames := 0, cells := 0, slots := 0, locals := 0 } [.ref (a 7), .int (nI f), .int (nI t)] (some (.int (nI (wordF (n 12) f (t - f))))) := by
  refine jq_I (by decide) (Nat.le_of_ble_eq_true rfl) ?_
  intro p e s m A below meth c ls Q X hP hl hQ
  have hl : lv_has ls 5 [(0, .ref (a 7)), (1, .int (nI f)), (2, .int (nI t))] := hl
  refine lv_iconst (v := nI 0) X.1 X.2.1 jd_S_word_0 (by decide) ?_
  refine lv_istore_n X.1 X.2.1 jd_S_word_1 rfl hl (by decide) rfl (fun ls hl => ?_)
  have hl : lv_has ls 5 [(3, .int (nI 0)), (0, .ref (a 7)), (1, .int (nI f)), (2, .int (nI t))] := hl
  refine lv_iload_n X.1 X.2.1 jd_S_word_2 rfl (lv_at hl 2 rfl) ?_
  refine lv_istore X.1 X.2.1 jd_S_word_3 hl (by decide) rfl (fun ls hl => ?_)
  have hl : lv_has ls 5 [(4, .int (nI f)), (3, .int (nI 0)), (0, .ref (a 7)), (1, .int (nI f)), (2, .int (nI t))] := hl
  have loop5 : ∀ (r k : Nat) (ls : Array Slot), k + r = t - f → lv_has ls 5 [(4, .int (nI (f + k))), (3, .int (nI (wordF (n 12) f k))), (0, .ref (a 7)), (1, .int (nI f)), (2, .int (nI t))] → W p l e { frames := 0, cells := 0, slots := 0, locals := 0 } s m A below meth c s.heap [] 0 0 Q (F0 m 5 ls []) := by
    intro r
    induction r with
    | zero => 
      intro k ls hk hl
      obtain rfl : t - f = k := by omega
      refine lv_iload X.1 X.2.1 jd_S_word_5 (lv_at hl 0 rfl) ?_
      refine lv_iload_n X.1 X.2.1 jd_S_word_7 rfl (lv_at hl 4 rfl) ?_
      refine kn_cge X.1 X.2.1 jd_S_word_8 (tgt := 32) (by decide) (by omega) (fun h8 => ?_) (fun h8 => absurd h8 (by omega))
      refine lv_iload_n X.1 X.2.1 jd_S_word_32 rfl (lv_at hl 1 rfl) ?_
      exact kn_to (by first | rfl | omega | (split <;> omega)) (hQ _ _ jd_S_word_33)
    | succ r ihr => 
      intro k ls hk hl
      refine lv_iload X.1 X.2.1 jd_S_word_5 (lv_at hl 0 rfl) ?_
      refine lv_iload_n X.1 X.2.1 jd_S_word_7 rfl (lv_at hl 4 rfl) ?_
      refine kn_cge X.1 X.2.1 jd_S_word_8 (tgt := 32) (by decide) (by omega) (fun h8 => absurd h8 (by omega)) (fun h8 => ?_)
      refine lv_iload_n X.1 X.2.1 jd_S_word_11 rfl (lv_at hl 1 rfl) ?_
      refine lv_aload_n X.1 X.2.1 jd_S_word_12 rfl (lv_at hl 2 rfl) ?_
      refine jg_S_25_7 X hP jd_S_word_13 ?_
      refine lv_iload X.1 X.2.1 jd_S_word_16 (lv_at hl 0 rfl) ?_
      refine j_ald X hP 12 (f + k) (by decide) (show (f + k) < 128 from by omega) (by decide) jd_S_word_18 ?_
      refine lv_iload X.1 X.2.1 jd_S_word_19 (lv_at hl 0 rfl) ?_
      refine lv_iload_n X.1 X.2.1 jd_S_word_21 rfl (lv_at hl 3 rfl) ?_
      refine kn_isub X.1 X.2.1 jd_S_word_22 (by omega) ?_
      refine kn_to (y := k) (by omega) ?_
      refine lv_ishl X.1 X.2.1 jd_S_word_23 ?_
      refine kn_is (y := (n 12 (f + k)) * 2 ^ k) (kn_shl16 (by omega) (by have := h01 (f + k); omega)) ?_
      refine kn_ior X.1 X.2.1 jd_S_word_24 ?_
      refine lv_istore_n X.1 X.2.1 jd_S_word_25 rfl hl (by decide) rfl (fun ls hl => ?_)
      have hl : lv_has ls 5 [(3, .int (nI ((wordF (n 12) f k) ||| ((n 12 (f + k)) * 2 ^ k)))), (4, .int (nI (f + k))), (0, .ref (a 7)), (1, .int (nI f)), (2, .int (nI t))] := hl
      refine lv_iinc (k := 1) (v := nI ((f + k) + 1)) X.1 X.2.1 jd_S_word_26 hl rfl (kn_inc _) (by decide) rfl (fun ls hl => ?_)
      have hl : lv_has ls 5 [(4, .int (nI ((f + k) + 1))), (3, .int (nI ((wordF (n 12) f k) ||| ((n 12 (f + k)) * 2 ^ k)))), (0, .ref (a 7)), (1, .int (nI f)), (2, .int (nI t))] := hl
      refine lv_goto X.1 X.2.1 jd_S_word_29 (tgt := 5) (by decide) ?_
      have hl : lv_has ls 5 [(4, .int (nI (f + (k + 1)))), (3, .int (nI (wordF (n 12) f (k + 1)))), (0, .ref (a 7)), (1, .int (nI f)), (2, .int (nI t))] := lv_sub hl [0, 1, 2, 3, 4] rfl
      exact ihr (k + 1) ls (by omega) hl
  have hl : lv_has ls 5 [(4, .int (nI (f + 0))), (3, .int (nI (wordF (n 12) f 0))), (0, .ref (a 7)), (1, .int (nI f)), (2, .int (nI t))] := lv_sub hl [0, 1, 2, 3, 4] rfl
  exact loop5 (t - f) 0 ls (by omega) hl

set_option maxHeartbeats 4000000 in
theorem c_S_tagWith_7 (l : Launch) (d : Nat → Nat) (D : va_G) (a : Nat → Nat) (n : Nat → Nat → Nat) (g : Nat → Nat) (x t : Nat) (hx : x < 65536) (ht : t ≤ 128) (h01 : ∀ i, n 12 i < 2) : jPure l d D a n g jy_S_tagWith jb_S_tagWith 5 (some .int) { frames := 1, cells := 0, slots := 0, locals := 24 } [.ref (a 7), .int (nI x), .int (nI t)] (some (.int (nI (tagF (n 12) x t)))) := by
  refine jq_I (by decide) (Nat.le_of_ble_eq_true rfl) ?_
  intro p e s m A below meth c ls Q X hP hl hQ
  have hl : lv_has ls 5 [(0, .ref (a 7)), (1, .int (nI x)), (2, .int (nI t))] := hl
  refine lv_iconst (v := nI 0) X.1 X.2.1 jd_S_tagWith_0 (by decide) ?_
  refine lv_istore_n X.1 X.2.1 jd_S_tagWith_1 rfl hl (by decide) rfl (fun ls hl => ?_)
  have hl : lv_has ls 5 [(3, .int (nI 0)), (0, .ref (a 7)), (1, .int (nI x)), (2, .int (nI t))] := hl
  refine lv_iconst (v := nI 0) X.1 X.2.1 jd_S_tagWith_2 (by decide) ?_
  refine lv_istore X.1 X.2.1 jd_S_tagWith_3 hl (by decide) rfl (fun ls hl => ?_)
  have hl : lv_has ls 5 [(4, .int (nI 0)), (3, .int (nI 0)), (0, .ref (a 7)), (1, .int (nI x)), (2, .int (nI t))] := hl
  have loop5 : ∀ (r k : Nat) (ls : Array Slot), k + r = (t + 15) / 16 → lv_has ls 5 [(4, .int (nI (16 * k))), (3, .int (nI (tgF (n 12) x t k))), (0, .ref (a 7)), (1, .int (nI x)), (2, .int (nI t))] → W p l e { frames := 1, cells := 0, slots := 0, locals := 24 } s m A below meth c s.heap [] 0 0 Q (F0 m 5 ls []) := by
    intro r
    induction r with
    | zero => 
      intro k ls hk hl
      obtain rfl : (t + 15) / 16 = k := by omega
      refine lv_iload X.1 X.2.1 jd_S_tagWith_5 (lv_at hl 0 rfl) ?_
      refine lv_iload_n X.1 X.2.1 jd_S_tagWith_7 rfl (lv_at hl 4 rfl) ?_
      refine kn_cge X.1 X.2.1 jd_S_tagWith_8 (tgt := 39) (by decide) (by omega) (fun h8 => ?_) (fun h8 => absurd h8 (by omega))
      refine lv_iload_n X.1 X.2.1 jd_S_tagWith_39 rfl (lv_at hl 3 rfl) ?_
      refine lv_iload_n X.1 X.2.1 jd_S_tagWith_40 rfl (lv_at hl 1 rfl) ?_
      refine lv_iload_n X.1 X.2.1 jd_S_tagWith_41 rfl (lv_at hl 4 rfl) ?_
      refine kn_ixor X.1 X.2.1 jd_S_tagWith_42 ?_
      refine j_run (j_mkS X (c_S_product l d D a n g x ((tgF (n 12) x t ((t + 15) / 16)) ^^^ t) hx (by have h1 := tgF_lt (r := n 12) (t := t) hx ((t + 15) / 16); have h3 := kx_lt h1 (show t < 65536 by omega); omega)) jU_b (j_pp X hP) jm_560 jm_559 jm_2 jm_558 (show jOk jy_S_product 2 by unfold jOk; decide +kernel) (by decide) ⟨rfl, rfl⟩ hl.1 rfl (Nat.le_of_ble_eq_true rfl) ⟨Nat.zero_le _, Nat.zero_le _⟩ jd_S_tagWith_43) ?_
      refine W.eq (g2 := F0 m 46 ls [.int (nI (prF x ((tgF (n 12) x t ((t + 15) / 16)) ^^^ t)))]) rfl ?_
      exact kn_to (by first | rfl | omega | (split <;> omega)) (hQ _ _ jd_S_tagWith_46)
    | succ r ihr => 
      intro k ls hk hl
      refine lv_iload X.1 X.2.1 jd_S_tagWith_5 (lv_at hl 0 rfl) ?_
      refine lv_iload_n X.1 X.2.1 jd_S_tagWith_7 rfl (lv_at hl 4 rfl) ?_
      refine kn_cge X.1 X.2.1 jd_S_tagWith_8 (tgt := 39) (by decide) (by omega) (fun h8 => absurd h8 (by omega)) (fun h8 => ?_)
      refine lv_iload_n X.1 X.2.1 jd_S_tagWith_11 rfl (lv_at hl 3 rfl) ?_
      refine lv_iload_n X.1 X.2.1 jd_S_tagWith_12 rfl (lv_at hl 1 rfl) ?_
      refine lv_aload_n X.1 X.2.1 jd_S_tagWith_13 rfl (lv_at hl 2 rfl) ?_
      refine lv_iload X.1 X.2.1 jd_S_tagWith_14 (lv_at hl 0 rfl) ?_
      refine lv_iload X.1 X.2.1 jd_S_tagWith_16 (lv_at hl 0 rfl) ?_
      refine lv_bipush (v := nI 16) X.1 X.2.1 jd_S_tagWith_18 (by decide) ?_
      refine kn_iadd X.1 X.2.1 jd_S_tagWith_20 ?_
      refine lv_iload_n X.1 X.2.1 jd_S_tagWith_21 rfl (lv_at hl 4 rfl) ?_
      refine j_min X jm_553 (by omega) hl.1 ⟨by decide, Nat.le_of_ble_eq_true rfl⟩ ⟨Nat.zero_le _, Nat.zero_le _⟩ jd_S_tagWith_22 ?_
      refine j_run (j_mkV X hP (c_S_word_7 l d D a n g (16 * k) (if t < ((16 * k) + 16) then t else ((16 * k) + 16)) (by split <;> omega) (by split <;> omega) (by split <;> omega) h01) jU_b (j_pp X hP) jm_557 jm_556 js_37 jm_2 jm_554 (by decide) rfl rfl (show jOk jy_S_word 2 by unfold jOk; decide +kernel) (by decide) ⟨rfl, rfl⟩ hl.1 rfl (Nat.le_of_ble_eq_true rfl) ⟨Nat.zero_le _, Nat.zero_le _⟩ jd_S_tagWith_25) ?_
      refine W.eq (g2 := F0 m 28 ls [.int (nI (wordF (n 12) (16 * k) ((if t < ((16 * k) + 16) then t else ((16 * k) + 16)) - (16 * k)))), .int (nI (tgF (n 12) x t k)), .int (nI x)]) rfl ?_
      refine kn_ixor X.1 X.2.1 jd_S_tagWith_28 ?_
      refine j_run (j_mkS X (c_S_product l d D a n g x ((tgF (n 12) x t k) ^^^ (wordF (n 12) (16 * k) ((if t < ((16 * k) + 16) then t else ((16 * k) + 16)) - (16 * k)))) hx (by have h1 := tgF_lt (r := n 12) (t := t) hx k; have h2 := wordF_16 (r := n 12) (f := 16 * k) (k := (if t < 16 * k + 16 then t else 16 * k + 16) - 16 * k) h01 (by split <;> omega); have h3 := kx_lt h1 h2; omega)) jU_b (j_pp X hP) jm_560 jm_559 jm_2 jm_558 (show jOk jy_S_product 2 by unfold jOk; decide +kernel) (by decide) ⟨rfl, rfl⟩ hl.1 rfl (Nat.le_of_ble_eq_true rfl) ⟨Nat.zero_le _, Nat.zero_le _⟩ jd_S_tagWith_29) ?_
      refine W.eq (g2 := F0 m 32 ls [.int (nI (prF x ((tgF (n 12) x t k) ^^^ (wordF (n 12) (16 * k) ((if t < ((16 * k) + 16) then t else ((16 * k) + 16)) - (16 * k))))))]) rfl ?_
      refine lv_istore_n X.1 X.2.1 jd_S_tagWith_32 rfl hl (by decide) rfl (fun ls hl => ?_)
      have hl : lv_has ls 5 [(3, .int (nI (prF x ((tgF (n 12) x t k) ^^^ (wordF (n 12) (16 * k) ((if t < ((16 * k) + 16) then t else ((16 * k) + 16)) - (16 * k))))))), (4, .int (nI (16 * k))), (0, .ref (a 7)), (1, .int (nI x)), (2, .int (nI t))] := hl
      refine lv_iinc (k := 1) (v := nI ((16 * k) + 16)) X.1 X.2.1 jd_S_tagWith_33 hl rfl (kn_inc16 _) (by decide) rfl (fun ls hl => ?_)
      have hl : lv_has ls 5 [(4, .int (nI ((16 * k) + 16))), (3, .int (nI (prF x ((tgF (n 12) x t k) ^^^ (wordF (n 12) (16 * k) ((if t < ((16 * k) + 16) then t else ((16 * k) + 16)) - (16 * k))))))), (0, .ref (a 7)), (1, .int (nI x)), (2, .int (nI t))] := hl
      refine lv_goto X.1 X.2.1 jd_S_tagWith_36 (tgt := 5) (by decide) ?_
      have hl : lv_has ls 5 [(4, .int (nI (16 * (k + 1)))), (3, .int (nI (tgF (n 12) x t (k + 1)))), (0, .ref (a 7)), (1, .int (nI x)), (2, .int (nI t))] := lv_sub hl [0, 1, 2, 3, 4] rfl
      exact ihr (k + 1) ls (by omega) hl
  have hl : lv_has ls 5 [(4, .int (nI (16 * 0))), (3, .int (nI (tgF (n 12) x t 0))), (0, .ref (a 7)), (1, .int (nI x)), (2, .int (nI t))] := lv_sub hl [0, 1, 2, 3, 4] rfl
  exact loop5 ((t + 15) / 16) 0 ls (by omega) hl

set_option maxHeartbeats 4000000 in
theorem c_S_note_7 (l : Launch) (d : Nat → Nat) (D : va_G) (a : Nat → Nat) (n : Nat → Nat → Nat) (g : Nat → Nat) (hap : ∀ i j : Nat, i < 52 → j < 52 → a i = a j → i = j) (f k0 b v z : Nat) (hk : f + k0 ≤ 128) (hk2 : k0 ≤ 32) (hb : b < 4294967296) (hv : v < 4294967296) (hz : z < 4294967296) : jEff l d D a n g jy_S_note jb_S_note 7 none { frames := 0, cells := 0, slots := 0, locals := 0 } [.ref (a 7), .int (nI f), .int (nI k0), .int (nI b), .int (nI v), .int (nI z)] (fun v9 n2 g2 => none = v9 ∧ ku (noteF n 7 f b v z k0) 7 0 ((noteF n 7 f b v z k0) 7 0 + k0) = n2 ∧ g = g2) := by
  refine je_V (by decide) (Nat.le_of_ble_eq_true rfl) ?_
  intro p e s m A below meth c ls Q X hP hS hl hQ
  have hl : lv_has ls 7 [(0, .ref (a 7)), (1, .int (nI f)), (2, .int (nI k0)), (3, .int (nI b)), (4, .int (nI v)), (5, .int (nI z))] := hl
  refine lv_iconst (v := nI 0) X.1 X.2.1 jd_S_note_0 (by decide) ?_
  refine lv_istore X.1 X.2.1 jd_S_note_1 hl (by decide) rfl (fun ls hl => ?_)
  have hl : lv_has ls 7 [(6, .int (nI 0)), (0, .ref (a 7)), (1, .int (nI f)), (2, .int (nI k0)), (3, .int (nI b)), (4, .int (nI v)), (5, .int (nI z))] := hl
  have loop3 : ∀ (r k : Nat) (H : Heap) (locs : List Loc) (ls : Array Slot), k + r = k0 → va_P D jCl (jW d a (noteF n 7 f b v z k) g) H → va_S (jAa a s.heap.size) s.heap H locs → lv_has ls 7 [(6, .int (nI k)), (0, .ref (a 7)), (1, .int (nI f)), (2, .int (nI k0)), (3, .int (nI b)), (4, .int (nI v)), (5, .int (nI z))] → W p l e { frames := 0, cells := 0, slots := 0, locals := 0 } s m A below meth c H locs 0 0 Q (F0 m 3 ls []) := by
    intro r
    induction r with
    | zero => 
      intro k H locs ls hk hP hS hl
      obtain rfl : k0 = k := by omega
      refine lv_iload X.1 X.2.1 jd_S_note_3 (lv_at hl 0 rfl) ?_
      refine lv_iload_n X.1 X.2.1 jd_S_note_5 rfl (lv_at hl 3 rfl) ?_
      refine kn_cge X.1 X.2.1 jd_S_note_6 (tgt := 72) (by decide) (by omega) (fun h6 => ?_) (fun h6 => absurd h6 (by omega))
      refine lv_aload_n X.1 X.2.1 jd_S_note_72 rfl (lv_at hl 1 rfl) ?_
      refine lv_dup X.1 X.2.1 jd_S_note_73 rfl ?_
      refine jg_S_28_7 X hP jd_S_note_74 ?_
      refine lv_iload_n X.1 X.2.1 jd_S_note_77 rfl (lv_at hl 3 rfl) ?_
      refine kn_iadd X.1 X.2.1 jd_S_note_78 ?_
      refine jp_S_28_7 X hap hP hS jd_S_note_79 (fun H locs hP hS => ?_)
      exact hQ _ _ _ _ _ _ (⟨rfl, rfl, rfl⟩) hP hS jd_S_note_82
    | succ r ihr => 
      intro k H locs ls hk hP hS hl
      refine lv_iload X.1 X.2.1 jd_S_note_3 (lv_at hl 0 rfl) ?_
      refine lv_iload_n X.1 X.2.1 jd_S_note_5 rfl (lv_at hl 3 rfl) ?_
      refine kn_cge X.1 X.2.1 jd_S_note_6 (tgt := 72) (by decide) (by omega) (fun h6 => absurd h6 (by omega)) (fun h6 => ?_)
      refine lv_aload_n X.1 X.2.1 jd_S_note_9 rfl (lv_at hl 1 rfl) ?_
      refine jg_S_9_7 X hP jd_S_note_10 ?_
      refine lv_iload_n X.1 X.2.1 jd_S_note_13 rfl (lv_at hl 2 rfl) ?_
      refine lv_iload X.1 X.2.1 jd_S_note_14 (lv_at hl 0 rfl) ?_
      refine kn_iadd X.1 X.2.1 jd_S_note_16 ?_
      refine lv_iconst (v := nI 1) X.1 X.2.1 jd_S_note_17 (by decide) ?_
      refine j_zast X hap hP hS 8 (f + k) 1 (by decide) (show (f + k) < 128 from by omega) (by decide) (by omega) jd_S_note_18 (fun H locs hP hS => ?_)
      refine lv_aload_n X.1 X.2.1 jd_S_note_19 rfl (lv_at hl 1 rfl) ?_
      refine jg_S_15_7 X hP jd_S_note_20 ?_
      refine lv_iload_n X.1 X.2.1 jd_S_note_23 rfl (lv_at hl 2 rfl) ?_
      refine lv_iload X.1 X.2.1 jd_S_note_24 (lv_at hl 0 rfl) ?_
      refine kn_iadd X.1 X.2.1 jd_S_note_26 ?_
      refine lv_iload_n X.1 X.2.1 jd_S_note_27 rfl (lv_at hl 4 rfl) ?_
      refine lv_iload X.1 X.2.1 jd_S_note_28 (lv_at hl 0 rfl) ?_
      refine lv_iushr (v := nI (b / 2 ^ k)) X.1 X.2.1 jd_S_note_30 (kn_bit (by omega) (by omega)) ?_
      refine lv_iconst (v := nI 1) X.1 X.2.1 jd_S_note_31 (by decide) ?_
      refine kn_iand X.1 X.2.1 jd_S_note_32 ?_
      refine j_ast X hap hP hS 9 (f + k) ((b / 2 ^ k) &&& 1) (by decide) (show (f + k) < 128 from by omega) (by decide) jd_S_note_33 (fun H locs hP hS => ?_)
      refine lv_aload_n X.1 X.2.1 jd_S_note_34 rfl (lv_at hl 1 rfl) ?_
      refine jg_S_19_7 X hP jd_S_note_35 ?_
      refine lv_iload_n X.1 X.2.1 jd_S_note_38 rfl (lv_at hl 2 rfl) ?_
      refine lv_iload X.1 X.2.1 jd_S_note_39 (lv_at hl 0 rfl) ?_
      refine kn_iadd X.1 X.2.1 jd_S_note_41 ?_
      refine lv_iload X.1 X.2.1 jd_S_note_42 (lv_at hl 5 rfl) ?_
      refine lv_iload X.1 X.2.1 jd_S_note_44 (lv_at hl 0 rfl) ?_
      refine lv_iushr (v := nI (v / 2 ^ k)) X.1 X.2.1 jd_S_note_46 (kn_bit (by omega) (by omega)) ?_
      refine lv_iconst (v := nI 1) X.1 X.2.1 jd_S_note_47 (by decide) ?_
      refine kn_iand X.1 X.2.1 jd_S_note_48 ?_
      refine j_ast X hap hP hS 10 (f + k) ((v / 2 ^ k) &&& 1) (by decide) (show (f + k) < 128 from by omega) (by decide) jd_S_note_49 (fun H locs hP hS => ?_)
      refine lv_aload_n X.1 X.2.1 jd_S_note_50 rfl (lv_at hl 1 rfl) ?_
      refine jg_S_22_7 X hP jd_S_note_51 ?_
      refine lv_iload_n X.1 X.2.1 jd_S_note_54 rfl (lv_at hl 2 rfl) ?_
      refine lv_iload X.1 X.2.1 jd_S_note_55 (lv_at hl 0 rfl) ?_
      refine kn_iadd X.1 X.2.1 jd_S_note_57 ?_
      refine lv_iload X.1 X.2.1 jd_S_note_58 (lv_at hl 6 rfl) ?_
      refine lv_iload X.1 X.2.1 jd_S_note_60 (lv_at hl 0 rfl) ?_
      refine lv_iushr (v := nI (z / 2 ^ k)) X.1 X.2.1 jd_S_note_62 (kn_bit (by omega) (by omega)) ?_
      refine lv_iconst (v := nI 1) X.1 X.2.1 jd_S_note_63 (by decide) ?_
      refine kn_iand X.1 X.2.1 jd_S_note_64 ?_
      refine j_ast X hap hP hS 11 (f + k) ((z / 2 ^ k) &&& 1) (by decide) (show (f + k) < 128 from by omega) (by decide) jd_S_note_65 (fun H locs hP hS => ?_)
      refine lv_iinc (k := 0) (v := nI (k + 1)) X.1 X.2.1 jd_S_note_66 hl rfl (kn_inc _) (by decide) rfl (fun ls hl => ?_)
      have hl : lv_has ls 7 [(6, .int (nI (k + 1))), (0, .ref (a 7)), (1, .int (nI f)), (2, .int (nI k0)), (3, .int (nI b)), (4, .int (nI v)), (5, .int (nI z))] := hl
      refine lv_goto X.1 X.2.1 jd_S_note_69 (tgt := 3) (by decide) ?_
      have hl : lv_has ls 7 [(6, .int (nI (k + 1))), (0, .ref (a 7)), (1, .int (nI f)), (2, .int (nI k0)), (3, .int (nI b)), (4, .int (nI v)), (5, .int (nI z))] := lv_sub hl [0, 1, 2, 3, 4, 5, 6] rfl
      exact ihr (k + 1) H locs ls (by omega) hP hS hl
  have hl : lv_has ls 7 [(6, .int (nI 0)), (0, .ref (a 7)), (1, .int (nI f)), (2, .int (nI k0)), (3, .int (nI b)), (4, .int (nI v)), (5, .int (nI z))] := lv_sub hl [0, 1, 2, 3, 4, 5, 6] rfl
  exact loop3 (k0) 0 s.heap [] ls (by omega) hP hS hl

set_option maxHeartbeats 4000000 in
theorem c_S_leaveOut_7 (l : Launch) (d : Nat → Nat) (D : va_G) (a : Nat → Nat) (n : Nat → Nat → Nat) (g : Nat → Nat) (hap : ∀ i j : Nat, i < 52 → j < 52 → a i = a j → i = j) (t : Nat) (ht : t ≤ 128) (hb : ∀ k i, (lvP n 12 31 k).1 31 i < 4294967296) : jEff l d D a n g jy_S_leaveOut jb_S_leaveOut 5 none { frames := 0, cells := 0, slots := 0, locals := 0 } [.ref (a 7), .ref (a 31), .int (nI t)] (fun v9 n2 g2 => none = v9 ∧ (lvP n 12 31 t).1 = n2 ∧ g = g2) := by
  refine je_V (by decide) (Nat.le_of_ble_eq_true rfl) ?_
  intro p e s m A below meth c ls Q X hP hS hl hQ
  have hl : lv_has ls 5 [(0, .ref (a 7)), (1, .ref (a 31)), (2, .int (nI t))] := hl
  refine lv_iconst (v := nI 0) X.1 X.2.1 jd_S_leaveOut_0 (by decide) ?_
  refine lv_istore_n X.1 X.2.1 jd_S_leaveOut_1 rfl hl (by decide) rfl (fun ls hl => ?_)
  have hl : lv_has ls 5 [(3, .int (nI 0)), (0, .ref (a 7)), (1, .ref (a 31)), (2, .int (nI t))] := hl
  refine lv_iconst (v := nI 0) X.1 X.2.1 jd_S_leaveOut_2 (by decide) ?_
  refine lv_istore X.1 X.2.1 jd_S_leaveOut_3 hl (by decide) rfl (fun ls hl => ?_)
  have hl : lv_has ls 5 [(4, .int (nI 0)), (3, .int (nI 0)), (0, .ref (a 7)), (1, .ref (a 31)), (2, .int (nI t))] := hl
  have loop5 : ∀ (r k : Nat) (H : Heap) (locs : List Loc) (ls : Array Slot), k + r = t → va_P D jCl (jW d a ((lvP n 12 31 k).1) g) H → va_S (jAa a s.heap.size) s.heap H locs → lv_has ls 5 [(4, .int (nI k)), (3, .int (nI ((lvP n 12 31 k).2))), (0, .ref (a 7)), (1, .ref (a 31)), (2, .int (nI t))] → W p l e { frames := 0, cells := 0, slots := 0, locals := 0 } s m A below meth c H locs 0 0 Q (F0 m 5 ls []) := by
    intro r
    induction r with
    | zero => 
      intro k H locs ls hk hP hS hl
      obtain rfl : t = k := by omega
      refine lv_iload X.1 X.2.1 jd_S_leaveOut_5 (lv_at hl 0 rfl) ?_
      refine lv_iload_n X.1 X.2.1 jd_S_leaveOut_7 rfl (lv_at hl 4 rfl) ?_
      refine kn_cge X.1 X.2.1 jd_S_leaveOut_8 (tgt := 40) (by decide) (by omega) (fun h8 => ?_) (fun h8 => absurd h8 (by omega))
      exact hQ _ _ _ _ _ _ (⟨rfl, rfl, rfl⟩) hP hS jd_S_leaveOut_40
    | succ r ihr => 
      intro k H locs ls hk hP hS hl
      refine lv_iload X.1 X.2.1 jd_S_leaveOut_5 (lv_at hl 0 rfl) ?_
      refine lv_iload_n X.1 X.2.1 jd_S_leaveOut_7 rfl (lv_at hl 4 rfl) ?_
      refine kn_cge X.1 X.2.1 jd_S_leaveOut_8 (tgt := 40) (by decide) (by omega) (fun h8 => absurd h8 (by omega)) (fun h8 => ?_)
      refine lv_aload_n X.1 X.2.1 jd_S_leaveOut_11 rfl (lv_at hl 3 rfl) ?_
      refine lv_iload X.1 X.2.1 jd_S_leaveOut_12 (lv_at hl 0 rfl) ?_
      refine j_ald X hP 31 k (by decide) (show k < 128 from by omega) (by decide) jd_S_leaveOut_14 ?_
      refine kn_ne0 X.1 X.2.1 jd_S_leaveOut_15 (tgt := 34) (by decide) (hb _ _) (fun h15 => ?_) (fun h15 => ?_)
      · skip
        refine lv_iinc (k := 0) (v := nI (k + 1)) X.1 X.2.1 jd_S_leaveOut_34 hl rfl (kn_inc _) (by decide) rfl (fun ls hl => ?_)
        have hl : lv_has ls 5 [(4, .int (nI (k + 1))), (3, .int (nI ((lvP n 12 31 k).2))), (0, .ref (a 7)), (1, .ref (a 31)), (2, .int (nI t))] := hl
        refine lv_goto X.1 X.2.1 jd_S_leaveOut_37 (tgt := 5) (by decide) ?_
        have hP : va_P D jCl (jW d a ((lvP n 12 31 (k + 1)).1) g) H := by first | exact hP | (simp only [lvP]; first | (rw [if_pos (by first | exact h15 | omega)]; exact hP) | (rw [if_neg (by first | exact h15 | omega)]; exact hP))
        have hl : lv_has ls 5 [(4, .int (nI (k + 1))), (3, .int (nI ((lvP n 12 31 (k + 1)).2))), (0, .ref (a 7)), (1, .ref (a 31)), (2, .int (nI t))] := by first | exact lv_sub hl [0, 1, 2, 3, 4] rfl | (simp only [lvP]; first | (rw [if_pos (by first | exact h15 | omega)]; exact lv_sub hl [0, 1, 2, 3, 4] rfl) | (rw [if_neg (by first | exact h15 | omega)]; exact lv_sub hl [0, 1, 2, 3, 4] rfl))
        exact ihr (k + 1) H locs ls (by omega) hP hS hl
      · skip
        refine lv_aload_n X.1 X.2.1 jd_S_leaveOut_18 rfl (lv_at hl 2 rfl) ?_
        refine jg_S_25_7 X hP jd_S_leaveOut_19 ?_
        refine lv_iload_n X.1 X.2.1 jd_S_leaveOut_22 rfl (lv_at hl 1 rfl) ?_
        refine lv_aload_n X.1 X.2.1 jd_S_leaveOut_23 rfl (lv_at hl 2 rfl) ?_
        refine jg_S_25_7 X hP jd_S_leaveOut_24 ?_
        refine lv_iload X.1 X.2.1 jd_S_leaveOut_27 (lv_at hl 0 rfl) ?_
        refine j_ald X hP 12 k (by decide) (show k < 128 from by omega) (by decide) jd_S_leaveOut_29 ?_
        refine j_ast X hap hP hS 12 ((lvP n 12 31 k).2) (((lvP n 12 31 k).1) 12 k) (by decide) (show (lvP n 12 31 k).2 < 128 from by have := lvP_le n 12 31 k; omega) (by decide) jd_S_leaveOut_30 (fun H locs hP hS => ?_)
        refine lv_iinc (k := 1) (v := nI ((lvP n 12 31 k).2 + 1)) X.1 X.2.1 jd_S_leaveOut_31 hl rfl (kn_inc _) (by decide) rfl (fun ls hl => ?_)
        have hl : lv_has ls 5 [(3, .int (nI ((lvP n 12 31 k).2 + 1))), (4, .int (nI k)), (0, .ref (a 7)), (1, .ref (a 31)), (2, .int (nI t))] := hl
        refine lv_iinc (k := 1) (v := nI (k + 1)) X.1 X.2.1 jd_S_leaveOut_34 hl rfl (kn_inc _) (by decide) rfl (fun ls hl => ?_)
        have hl : lv_has ls 5 [(4, .int (nI (k + 1))), (3, .int (nI ((lvP n 12 31 k).2 + 1))), (0, .ref (a 7)), (1, .ref (a 31)), (2, .int (nI t))] := hl
        refine lv_goto X.1 X.2.1 jd_S_leaveOut_37 (tgt := 5) (by decide) ?_
        have hP : va_P D jCl (jW d a ((lvP n 12 31 (k + 1)).1) g) H := by first | exact hP | (simp only [lvP]; first | (rw [if_pos (by first | exact h15 | omega)]; exact hP) | (rw [if_neg (by first | exact h15 | omega)]; exact hP))
        have hl : lv_has ls 5 [(4, .int (nI (k + 1))), (3, .int (nI ((lvP n 12 31 (k + 1)).2))), (0, .ref (a 7)), (1, .ref (a 31)), (2, .int (nI t))] := by first | exact lv_sub hl [0, 1, 2, 3, 4] rfl | (simp only [lvP]; first | (rw [if_pos (by first | exact h15 | omega)]; exact lv_sub hl [0, 1, 2, 3, 4] rfl) | (rw [if_neg (by first | exact h15 | omega)]; exact lv_sub hl [0, 1, 2, 3, 4] rfl))
        exact ihr (k + 1) H locs ls (by omega) hP hS hl
  have hl : lv_has ls 5 [(4, .int (nI 0)), (3, .int (nI ((lvP n 12 31 0).2))), (0, .ref (a 7)), (1, .ref (a 31)), (2, .int (nI t))] := lv_sub hl [0, 1, 2, 3, 4] rfl
  exact loop5 (t) 0 s.heap [] ls (by omega) hP hS hl
end
section
/-! longs by numbers (the family wb_ of kit/laws/BITS.to-paste), drawing -/
theorem wb_tb (n : Nat) : (lN n).toBitVec = BitVec.ofNat 64 n := rfl
theorem wb_inj {a b : Int64} (h : a.toBitVec = b.toBitVec) : a = b := Int64.toBitVec_inj.mp h
theorem wb_tn {n : Nat} (h : n < 2 ^ 64) : (lN n).toBitVec.toNat = n := by rw [wb_tb, BitVec.toNat_ofNat, Nat.mod_eq_of_lt h]
theorem wb_of (x : Int64) : ∃ n, n < 2 ^ 64 ∧ x = lN n := ⟨x.toBitVec.toNat, x.toBitVec.isLt, wb_inj (by rw [wb_tb]; simp)⟩
theorem wb_of32 (x : Int32) : ∃ n, n < 2 ^ 32 ∧ x = nI n := ⟨x.toBitVec.toNat, x.toBitVec.isLt, Int32.toBitVec_inj.mp (by show _ = BitVec.ofNat 32 _; simp)⟩
theorem wb_c : ∀ k, k < 64 → ((nI k).toInt64 &&& 63) = lN k := by decide +kernel
theorem wb_cu : ∀ k, k < 64 → ((nI k).toInt64.toUInt64 &&& Int64.toUInt64 63) = UInt64.ofNat k := by decide +kernel
theorem wb_sm : ∀ k, k < 64 → (BitVec.ofNat 64 k).smod 64 = BitVec.ofNat 64 k := by decide +kernel
theorem wb_pw {a b : Nat} (h : a ≤ b) : 2 ^ b = 2 ^ a * 2 ^ (b - a) := by rw [← Nat.pow_add]; congr 1; omega
theorem wb_lt2 {a b : Nat} (h : a < b) : 2 ^ a < 2 ^ b := Nat.pow_lt_pow_right (by decide) h
theorem wb_mod (n : Nat) : lN n = lN (n % 2 ^ 64) := wb_inj (by rw [wb_tb, wb_tb]; apply BitVec.eq_of_toNat_eq; rw [BitVec.toNat_ofNat, BitVec.toNat_ofNat, Nat.mod_mod])
theorem wb_shr {n k : Nat} (hn : n < 2 ^ 64) (hk : k < 64) : ((lN n).toUInt64 >>> ((nI k).toInt64.toUInt64 &&& Int64.toUInt64 63)).toInt64 = lN (n / 2 ^ k) := by
  rw [wb_cu k hk]
  apply wb_inj
  apply BitVec.eq_of_toNat_eq
  show ((lN n).toUInt64 >>> UInt64.ofNat k).toNat = (BitVec.ofNat 64 _).toNat
  have h1 : (UInt64.ofNat k).toNat = k := by
    show (BitVec.ofNat 64 k).toNat = k
    rw [BitVec.toNat_ofNat, Nat.mod_eq_of_lt (by omega)]
  have h2 : (lN n).toUInt64.toNat = n := wb_tn hn
  rw [UInt64.toNat_shiftRight, h1, h2, Nat.mod_eq_of_lt hk, Nat.shiftRight_eq_div_pow, BitVec.toNat_ofNat, Nat.mod_eq_of_lt (Nat.lt_of_le_of_lt (Nat.div_le_self _ _) hn)]
theorem wb_shl (n : Nat) {k : Nat} (hk : k < 64) : lN n <<< ((nI k).toInt64 &&& 63) = lN (n * 2 ^ k) := by
  rw [wb_c k hk]
  apply wb_inj
  rw [Int64.toBitVec_shiftLeft, wb_tb, wb_tb, wb_tb, wb_sm k hk]
  apply BitVec.eq_of_toNat_eq
  rw [BitVec.shiftLeft_eq', BitVec.toNat_shiftLeft, BitVec.toNat_ofNat, BitVec.toNat_ofNat, BitVec.toNat_ofNat, Nat.mod_eq_of_lt (show k < 2 ^ 64 by omega), Nat.shiftLeft_eq, Nat.mul_mod, Nat.mod_mod, ← Nat.mul_mod]
theorem wb_and {a b : Nat} (ha : a < 2 ^ 64) (hb : b < 2 ^ 64) : lN a &&& lN b = lN (a &&& b) := by
  apply wb_inj
  rw [Int64.toBitVec_and, wb_tb, wb_tb, wb_tb]
  apply BitVec.eq_of_toNat_eq
  rw [BitVec.toNat_and, BitVec.toNat_ofNat, BitVec.toNat_ofNat, BitVec.toNat_ofNat, Nat.mod_eq_of_lt ha, Nat.mod_eq_of_lt hb, Nat.mod_eq_of_lt (Nat.and_lt_two_pow _ hb)]
theorem wb_or {a b : Nat} (ha : a < 2 ^ 64) (hb : b < 2 ^ 64) : lN a ||| lN b = lN (a ||| b) := by
  apply wb_inj
  rw [Int64.toBitVec_or, wb_tb, wb_tb, wb_tb]
  apply BitVec.eq_of_toNat_eq
  rw [BitVec.toNat_or, BitVec.toNat_ofNat, BitVec.toNat_ofNat, BitVec.toNat_ofNat, Nat.mod_eq_of_lt ha, Nat.mod_eq_of_lt hb, Nat.mod_eq_of_lt (Nat.or_lt_two_pow ha hb)]
theorem wb_mask {n k : Nat} (hn : n < 2 ^ 64) (hk : k < 64) : lN n &&& lN (2 ^ k - 1) = lN (n % 2 ^ k) := by
  rw [wb_and hn (by have := wb_lt2 hk; omega), Nat.and_two_pow_sub_one_eq_mod]
theorem wb_a1 {n : Nat} (hn : n < 2 ^ 64) : lN n &&& 1 = lN (n % 2) := wb_mask (k := 1) hn (by decide)
theorem wb_bit {n k : Nat} (hn : n < 2 ^ 64) (hk : k < 64) : ((lN n).toUInt64 >>> ((nI k).toInt64.toUInt64 &&& Int64.toUInt64 63)).toInt64 &&& 1 = lN (n / 2 ^ k % 2) := by
  rw [wb_shr hn hk, wb_a1 (Nat.lt_of_le_of_lt (Nat.div_le_self _ _) hn)]
def advF (x : Nat) : Nat := (x * 6364136223846793005 + 1442695040888963407) % 18446744073709551616
def itF (s : Nat) : Nat → Nat
  | 0 => s
  | k + 1 => advF (itF s k)
def limF (k : Nat) : Nat := 2147483648 / k * k
/-- how many are rejected -/
def dbK (s k : Nat) : Nat := if itF s 1 / 2 ^ 33 < limF k then 0 else if itF s 2 / 2 ^ 33 < limF k then 1 else if itF s 3 / 2 ^ 33 < limF k then 2 else 3
def drS (s k : Nat) : Nat := itF s (dbK s k + 1)
def drV (s k : Nat) : Nat := drS s k / 2 ^ 33 % k
theorem advF_lt (x : Nat) : advF x < 18446744073709551616 := Nat.mod_lt _ (by decide)
theorem itF_lt (s k : Nat) : itF s (k + 1) < 18446744073709551616 := advF_lt _
theorem dbK_le (s k : Nat) : dbK s k ≤ 3 := by unfold dbK; split; · omega
                                               split; · omega
                                               split <;> omega
theorem limF_ge {k : Nat} (h2 : 2 ≤ k) (hk : k ≤ 128) : 2147483648 - 128 < limF k := by
  unfold limF
  have h1 := Nat.div_add_mod 2147483648 k
  have h3 := Nat.mod_lt 2147483648 (show 0 < k by omega)
  have h4 : k * (2147483648 / k) = 2147483648 / k * k := Nat.mul_comm _ _
  omega
theorem limF_le {k : Nat} : limF k ≤ 2147483648 := Nat.div_mul_le_self _ _
theorem adv_eq (x : Nat) : ∃ q : Int, (x : Int) * 6364136223846793005 + 1442695040888963407 = 18446744073709551616 * q + (advF x : Int) := by
  refine ⟨((x * 6364136223846793005 + 1442695040888963407) / 18446744073709551616 : Nat), ?_⟩
  have h := Nat.div_add_mod (x * 6364136223846793005 + 1442695040888963407) 18446744073709551616
  unfold advF
  omega
theorem rej_top {k x : Nat} (h2 : 2 ≤ k) (hk : k ≤ 128) (hx : x < 18446744073709551616) (h : limF k ≤ x / 2 ^ 33) : 18446744073709551616 - 1099511627776 ≤ (x : Int) ∧ (x : Int) < 18446744073709551616 := by
  have := limF_ge h2 hk
  omega
/-- of four in a row one is accepted -/
theorem db_some {s k : Nat} (h2 : 2 ≤ k) (hk : k ≤ 128) (h : limF k ≤ itF s 1 / 2 ^ 33) (h' : limF k ≤ itF s 2 / 2 ^ 33) (h'' : limF k ≤ itF s 3 / 2 ^ 33) : itF s 4 / 2 ^ 33 < limF k := by
  apply Nat.lt_of_not_le
  intro h4
  obtain ⟨q1, e1⟩ := adv_eq (itF s 1)
  obtain ⟨q2, e2⟩ := adv_eq (itF s 2)
  obtain ⟨q3, e3⟩ := adv_eq (itF s 3)
  exact kl_core _ _ _ _ q1 q2 q3 e1 e2 e3 (rej_top h2 hk (itF_lt s 0) h) (rej_top h2 hk (itF_lt s 1) h') (rej_top h2 hk (itF_lt s 2) h'') (rej_top h2 hk (itF_lt s 3) h4)
theorem db_acc {s k : Nat} (h2 : 2 ≤ k) (hk : k ≤ 128) : itF s (dbK s k + 1) / 2 ^ 33 < limF k := by
  unfold dbK
  split
  · assumption
  · split
    · assumption
    · split
      · assumption
      · exact db_some h2 hk (by omega) (by omega) (by omega)
theorem db_rej {s k j : Nat} (h : j < dbK s k) : limF k ≤ itF s (j + 1) / 2 ^ 33 := by
  unfold dbK at h
  split at h
  · omega
  · rename_i h1
    split at h
    · rcases (show j = 0 by omega) with rfl
      exact Nat.le_of_not_lt h1
    · rename_i h2
      split at h
      · rcases (show j = 0 ∨ j = 1 by omega) with rfl | rfl
        · exact Nat.le_of_not_lt h1
        · exact Nat.le_of_not_lt h2
      · rename_i h3
        rcases (show j = 0 ∨ j = 1 ∨ j = 2 by omega) with rfl | rfl | rfl
        · exact Nat.le_of_not_lt h1
        · exact Nat.le_of_not_lt h2
        · exact Nat.le_of_not_lt h3
theorem db_hit {s k j : Nat} (h : j ≤ dbK s k) (ha : itF s (j + 1) / 2 ^ 33 < limF k) : dbK s k = j := by
  rcases Nat.lt_or_ge j (dbK s k) with h1 | h1
  · have := db_rej h1; omega
  · omega
theorem db_miss {s k j : Nat} (h2 : 2 ≤ k) (hk : k ≤ 128) (h : j ≤ dbK s k) (ha : limF k ≤ itF s (j + 1) / 2 ^ 33) : j + 1 ≤ dbK s k := by
  rcases Nat.lt_or_ge j (dbK s k) with h1 | h1
  · omega
  · have e : dbK s k = j := by omega
    have := db_acc (s := s) h2 hk
    rw [e] at this
    omega
theorem drV_lt {s k : Nat} (h : 0 < k) : drV s k < k := Nat.mod_lt _ h
theorem kg_kg (g : Nat → Nat) (i x y : Nat) : kg (kg g i x) i y = kg g i y := by
  funext j
  unfold kg
  split <;> rfl
section KL
variable {p : Program} {l : Launch} {e : Env} {R : Room} {s : State} {m : MethodId} {args : Array Value} {below : List Frame} {meth : Method} {c : Code} {H : Heap} {locs : List Loc} {cells slots : Nat} {Q : State → Prop}
variable {cc : ByteArray} {pc : Nat} {ls : Array Slot} {rest : List Value}
theorem kn_lmul (hx : p.tables.exec = Jvm.exec) (hb : c.code = cc) {x y : Nat} (hdg : decode cc pc = .ok (.lmul, 1)) (k : W p l e R s m args below meth c H locs cells slots Q (F0 m (pc + 1) ls (.long (lN (x * y)) :: rest))) : W p l e R s m args below meth c H locs cells slots Q (F0 m pc ls (.long (lN y) :: .long (lN x) :: rest)) :=
  lv_lmul hx hb hdg (by rw [lN_mul]; exact k)
theorem kn_ladd (hx : p.tables.exec = Jvm.exec) (hb : c.code = cc) {x y : Nat} (hdg : decode cc pc = .ok (.ladd, 1)) (k : W p l e R s m args below meth c H locs cells slots Q (F0 m (pc + 1) ls (.long (lN (x + y)) :: rest))) : W p l e R s m args below meth c H locs cells slots Q (F0 m pc ls (.long (lN y) :: .long (lN x) :: rest)) :=
  lv_ladd hx hb hdg (by rw [lN_add]; exact k)
theorem kn_ldiv (hx : p.tables.exec = Jvm.exec) (hb : c.code = cc) {x y : Nat} (hdg : decode cc pc = .ok (.ldiv, 1)) (h : x < 9223372036854775808 ∧ 0 < y ∧ y < 9223372036854775808) (k : W p l e R s m args below meth c H locs cells slots Q (F0 m (pc + 1) ls (.long (lN (x / y)) :: rest))) : W p l e R s m args below meth c H locs cells slots Q (F0 m pc ls (.long (lN y) :: .long (lN x) :: rest)) :=
  lv_ldiv hx hb hdg (fun z => by have := (pk_lEQ (b := 0) h.2.2 (by decide)).mp z; omega) (by rw [pk_lDiv h.1 h.2.1 h.2.2]; exact k)
theorem kn_lrem (hx : p.tables.exec = Jvm.exec) (hb : c.code = cc) {x y : Nat} (hdg : decode cc pc = .ok (.lrem, 1)) (h : x < 9223372036854775808 ∧ 0 < y ∧ y < 9223372036854775808) (k : W p l e R s m args below meth c H locs cells slots Q (F0 m (pc + 1) ls (.long (lN (x % y)) :: rest))) : W p l e R s m args below meth c H locs cells slots Q (F0 m pc ls (.long (lN y) :: .long (lN x) :: rest)) :=
  lv_lrem hx hb hdg (fun z => by have := (pk_lEQ (b := 0) h.2.2 (by decide)).mp z; omega) (by rw [pk_lRem h.1 h.2.1 h.2.2]; exact k)
theorem kn_tol {x y : Nat} (h : lN x = lN y) (k : W p l e R s m args below meth c H locs cells slots Q (F0 m pc ls (.long (lN y) :: rest))) : W p l e R s m args below meth c H locs cells slots Q (F0 m pc ls (.long (lN x) :: rest)) := by rw [h]; exact k
theorem kn_lge (hx : p.tables.exec = Jvm.exec) (hb : c.code = cc) {x y : Nat} {off : Int} {tgt : Nat} (hd0 : decode cc pc = .ok (.lcmp, 1)) (hdg : decode cc (pc + 1) = .ok (.ifCond .ge off, 3)) (ht : ((pc + 1 : Nat) : Int) + off = (tgt : Int)) (h : x < 9223372036854775808 ∧ y < 9223372036854775808)
    (kt : y ≤ x → W p l e R s m args below meth c H locs cells slots Q (F0 m tgt ls rest)) (kf : x < y → W p l e R s m args below meth c H locs cells slots Q (F0 m (pc + 1 + 3) ls rest)) : W p l e R s m args below meth c H locs cells slots Q (F0 m pc ls (.long (lN y) :: .long (lN x) :: rest)) :=
  W.lcmp hx hb hd0 (lv_if_ge hx hb hdg ht (fun z => kt ((pk_lLE h.2 h.1).mp ((lg_cmp_ge _ _).mp z))) (fun z => kf (Nat.lt_of_not_le fun q => z ((lg_cmp_ge _ _).mpr ((pk_lLE h.2 h.1).mpr q)))))
end KL
theorem adv_lN (x : Nat) : lN (x * 6364136223846793005 + 1442695040888963407) = lN (advF x) := wb_mod _
end
section
/-! pure words: shuffling, letters -/
def flF (n : Nat → Nat → Nat) (q : Nat) : Nat → Nat → Nat → Nat
  | 0 => n
  | k + 1 => ku (flF n q k) q k k
def swP (n : Nat → Nat → Nat) (q s t : Nat) : Nat → (Nat → Nat → Nat) × Nat
  | 0 => (flF n q t, s)
  | k + 1 => (ku (ku (swP n q s t k).1 q (drV (swP n q s t k).2 (t - 1 - k + 1)) ((swP n q s t k).1 q (t - 1 - k))) q (t - 1 - k) ((swP n q s t k).1 q (drV (swP n q s t k).2 (t - 1 - k + 1))), drS (swP n q s t k).2 (t - 1 - k + 1))
theorem kg_self (g : Nat → Nat) (i : Nat) : kg g i (g i) = g := by
  funext j
  unfold kg
  split
  · rename_i h; rw [h]
  · rfl
/-- letters: shifted by one from k + 1 on -/
def shN (n : Nat → Nat → Nat) (k : Nat) : Nat → Nat → Nat → Nat
  | 0 => n
  | i + 1 => ku (ku (ku (shN n k i) 16 (k + 1 + i - 1) (shN n k i 16 (k + 1 + i))) 17 (k + 1 + i - 1) (ku (shN n k i) 16 (k + 1 + i - 1) (shN n k i 16 (k + 1 + i)) 17 (k + 1 + i))) 18 (k + 1 + i - 1) (ku (ku (shN n k i) 16 (k + 1 + i - 1) (shN n k i 16 (k + 1 + i))) 17 (k + 1 + i - 1) (ku (shN n k i) 16 (k + 1 + i - 1) (shN n k i 16 (k + 1 + i)) 17 (k + 1 + i)) 18 (k + 1 + i))
theorem shN_c (n : Nat → Nat → Nat) (k : Nat) : ∀ i, shN n k i 15 0 = n 15 0
  | 0 => rfl
  | i + 1 => by
    have := shN_c n k i
    simp only [shN]
    rw [ku_n (by decide), ku_n (by decide), ku_n (by decide)]
    exact this
def fiF (n : Nat → Nat → Nat) (q x : Nat) : Nat → Nat → Nat → Nat
  | 0 => n
  | k + 1 => ku (fiF n q x k) q k x
end
section
set_option maxHeartbeats 4000000 in
theorem c_G_restart (l : Launch) (d : Nat → Nat) (D : va_G) (a : Nat → Nat) (n : Nat → Nat → Nat) (g : Nat → Nat) (hap : ∀ i j : Nat, i < 52 → j < 52 → a i = a j → i = j) (x : Nat) : jEff l d D a n g jy_G_restart jb_G_restart 3 none { frames := 0, cells := 0, slots := 0, locals := 0 } [.ref (a 13), .long (lN x)] (fun v9 n2 g2 => none = v9 ∧ n = n2 ∧ kg g 0 x = g2) := by
  refine je_V (by decide) (Nat.le_of_ble_eq_true rfl) ?_
  intro p e s m A below meth c ls Q X hP hS hl hQ
  have hl : lv_has ls 3 [(0, .ref (a 13)), (1, .long (lN x))] := hl
  refine lv_aload_n X.1 X.2.1 jd_G_restart_0 rfl (lv_at hl 0 rfl) ?_
  refine lv_lload_n X.1 X.2.1 jd_G_restart_1 rfl (lv_at hl 1 rfl) ?_
  refine jp_G_7_13 X hap hP hS jd_G_restart_2 (fun H locs hP hS => ?_)
  exact hQ _ _ _ _ _ _ (⟨rfl, rfl, rfl⟩) hP hS jd_G_restart_5

set_option maxHeartbeats 4000000 in
theorem c_G_advance (l : Launch) (d : Nat → Nat) (D : va_G) (a : Nat → Nat) (n : Nat → Nat → Nat) (g : Nat → Nat) (hap : ∀ i j : Nat, i < 52 → j < 52 → a i = a j → i = j)  : jEff l d D a n g jy_G_advance jb_G_advance 1 none { frames := 0, cells := 0, slots := 0, locals := 0 } [.ref (a 13)] (fun v9 n2 g2 => none = v9 ∧ n = n2 ∧ kg g 0 (advF (g 0)) = g2) := by
  refine je_V (by decide) (Nat.le_of_ble_eq_true rfl) ?_
  intro p e s m A below meth c ls Q X hP hS hl hQ
  have hl : lv_has ls 1 [(0, .ref (a 13))] := hl
  refine lv_aload_n X.1 X.2.1 jd_G_advance_0 rfl (lv_at hl 0 rfl) ?_
  refine lv_aload_n X.1 X.2.1 jd_G_advance_1 rfl (lv_at hl 0 rfl) ?_
  refine jg_G_7_13 X hP jd_G_advance_2 ?_
  refine lv_ldc2 (v := lN 6364136223846793005) X.1 X.2.1 X.2.2.2.2.2.1 (X.2.2.2.2.2.2.1 _ jm_386) jd_G_advance_5 ?_
  refine kn_lmul X.1 X.2.1 jd_G_advance_8 ?_
  refine lv_ldc2 (v := lN 1442695040888963407) X.1 X.2.1 X.2.2.2.2.2.1 (X.2.2.2.2.2.2.1 _ jm_387) jd_G_advance_9 ?_
  refine kn_ladd X.1 X.2.1 jd_G_advance_12 ?_
  refine kn_tol (y := advF (g 0)) (adv_lN _) ?_
  refine jp_G_7_13 X hap hP hS jd_G_advance_13 (fun H locs hP hS => ?_)
  exact hQ _ _ _ _ _ _ (⟨rfl, rfl, rfl⟩) hP hS jd_G_advance_16

set_option maxHeartbeats 4000000 in
theorem c_G_drawBit (l : Launch) (d : Nat → Nat) (D : va_G) (a : Nat → Nat) (n : Nat → Nat → Nat) (g : Nat → Nat) (hap : ∀ i j : Nat, i < 52 → j < 52 → a i = a j → i = j)  : jEff l d D a n g jy_G_drawBit jb_G_drawBit 1 (some .int) { frames := 1, cells := 0, slots := 0, locals := 20 } [.ref (a 13)] (fun v9 n2 g2 => some (.int (nI (advF (g 0) / 2 ^ 63))) = v9 ∧ n = n2 ∧ kg g 0 (advF (g 0)) = g2) := by
  refine je_I (by decide) (Nat.le_of_ble_eq_true rfl) ?_
  intro p e s m A below meth c ls Q X hP hS hl hQ
  have hl : lv_has ls 1 [(0, .ref (a 13))] := hl
  refine lv_aload_n X.1 X.2.1 jd_G_drawBit_0 rfl (lv_at hl 0 rfl) ?_
  refine j_rune (j_mkV X hP (c_G_advance l d D a n g hap _) jU_bs (j_pe X hP) jm_385 jm_384 js_16 jm_3 jm_382 (by decide) rfl rfl (show jOk jy_G_advance 0 by unfold jOk; decide +kernel) (by decide) ⟨rfl, rfl⟩ hl.1 rfl (Nat.le_of_ble_eq_true rfl) ⟨Nat.zero_le _, Nat.zero_le _⟩ jd_G_drawBit_1) hS (fun v1 n1 g1 H locs h1 hP hS => ?_)
  obtain ⟨rfl, rfl, rfl⟩ := h1
  refine W.eq (g2 := F0 m 4 ls []) rfl ?_
  refine lv_aload_n X.1 X.2.1 jd_G_drawBit_4 rfl (lv_at hl 0 rfl) ?_
  refine jg_G_7_13 X hP jd_G_drawBit_5 ?_
  refine kn_tol (y := advF (g 0)) (by rw [kg_s]) ?_
  refine lv_bipush (v := nI 63) X.1 X.2.1 jd_G_drawBit_8 (by decide) ?_
  refine lv_lushr (v := lN ((advF (g 0)) / 2 ^ 63)) X.1 X.2.1 jd_G_drawBit_10 (wb_shr (advF_lt _) (by decide)) ?_
  refine lv_l2i (v := nI ((advF (g 0)) / 2 ^ 63)) X.1 X.2.1 jd_G_drawBit_11 (lN_i _) ?_
  exact hQ _ _ _ _ _ _ _ (⟨rfl, rfl, rfl⟩) hP hS jd_G_drawBit_12

set_option maxHeartbeats 4000000 in
theorem c_G_drawBelow (l : Launch) (d : Nat → Nat) (D : va_G) (a : Nat → Nat) (n : Nat → Nat → Nat) (g : Nat → Nat) (hap : ∀ i j : Nat, i < 52 → j < 52 → a i = a j → i = j) (z k0 : Nat) (hz : g 0 = z) (h2 : 2 ≤ k0) (hk0 : k0 ≤ 128) : jEff l d D a n g jy_G_drawBelow jb_G_drawBelow 7 (some .int) { frames := 1, cells := 0, slots := 0, locals := 20 } [.ref (a 13), .int (nI k0)] (fun v9 n2 g2 => some (.int (nI (drV z k0))) = v9 ∧ n = n2 ∧ kg g 0 (drS z k0) = g2) := by
  refine je_I (by decide) (Nat.le_of_ble_eq_true rfl) ?_
  intro p e s m A below meth c ls Q X hP hS hl hQ
  have hl : lv_has ls 7 [(0, .ref (a 13)), (1, .int (nI k0))] := hl
  refine lv_iload_n X.1 X.2.1 jd_G_drawBelow_0 rfl (lv_at hl 1 rfl) ?_
  refine lv_iconst (v := nI 2) X.1 X.2.1 jd_G_drawBelow_1 (by decide) ?_
  refine kn_cge X.1 X.2.1 jd_G_drawBelow_2 (tgt := 7) (by decide) (by omega) (fun h2 => ?_) (fun h2 => absurd h2 (by omega))
  refine lv_ldc2 (v := lN 2147483648) X.1 X.2.1 X.2.2.2.2.2.1 (X.2.2.2.2.2.2.1 _ jm_380) jd_G_drawBelow_7 ?_
  refine lv_iload_n X.1 X.2.1 jd_G_drawBelow_10 rfl (lv_at hl 1 rfl) ?_
  refine lv_i2l (v := lN k0) X.1 X.2.1 jd_G_drawBelow_11 (nI_l (by omega)) ?_
  refine kn_ldiv X.1 X.2.1 jd_G_drawBelow_12 (by omega) ?_
  refine lv_iload_n X.1 X.2.1 jd_G_drawBelow_13 rfl (lv_at hl 1 rfl) ?_
  refine lv_i2l (v := lN k0) X.1 X.2.1 jd_G_drawBelow_14 (nI_l (by omega)) ?_
  refine kn_lmul X.1 X.2.1 jd_G_drawBelow_15 ?_
  refine lv_lstore_n X.1 X.2.1 jd_G_drawBelow_16 rfl hl (by decide) rfl (fun ls hl => ?_)
  have hl : lv_has ls 7 [(2, .long (lN ((2147483648 / k0) * k0))), (0, .ref (a 13)), (1, .int (nI k0))] := hl
  refine lv_iconst (v := nI 0) X.1 X.2.1 jd_G_drawBelow_17 (by decide) ?_
  refine lv_istore X.1 X.2.1 jd_G_drawBelow_18 hl (by decide) rfl (fun ls hl => ?_)
  have hl : lv_has ls 7 [(4, .int (nI 0)), (2, .long (lN ((2147483648 / k0) * k0))), (0, .ref (a 13)), (1, .int (nI k0))] := hl
  have loop20 : ∀ (r k : Nat) (H : Heap) (locs : List Loc) (ls : Array Slot), k + r = 1000000 → k ≤ dbK z k0 → va_P D jCl (jW d a n (kg g 0 (itF z k))) H → va_S (jAa a s.heap.size) s.heap H locs → lv_has ls 7 [(4, .int (nI k)), (2, .long (lN (2147483648 / k0 * k0))), (0, .ref (a 13)), (1, .int (nI k0))] → W p l e { frames := 1, cells := 0, slots := 0, locals := 20 } s m A below meth c H locs 0 0 Q (F0 m 20 ls []) := by
    intro r
    induction r with
    | zero => 
      intro k H locs ls hk hd hP hS hl
      obtain rfl : 1000000 = k := by omega
      refine lv_iload X.1 X.2.1 jd_G_drawBelow_20 (lv_at hl 0 rfl) ?_
      refine lv_ldc (v := nI 1000000) X.1 X.2.1 X.2.2.2.2.2.1 (X.2.2.2.2.2.2.1 _ jm_381) jd_G_drawBelow_22 ?_
      refine kn_cge X.1 X.2.1 jd_G_drawBelow_24 (tgt := 60) (by decide) (by omega) (fun h24 => ?_) (fun h24 => absurd h24 (by omega))
      refine lv_iconst (v := nI 0) X.1 X.2.1 jd_G_drawBelow_60 (by decide) ?_
      exact hQ _ _ _ _ _ _ _ (absurd hd (by have := dbK_le z k0; omega)) hP hS jd_G_drawBelow_61
    | succ r ihr => 
      intro k H locs ls hk hd hP hS hl
      refine lv_iload X.1 X.2.1 jd_G_drawBelow_20 (lv_at hl 0 rfl) ?_
      refine lv_ldc (v := nI 1000000) X.1 X.2.1 X.2.2.2.2.2.1 (X.2.2.2.2.2.2.1 _ jm_381) jd_G_drawBelow_22 ?_
      refine kn_cge X.1 X.2.1 jd_G_drawBelow_24 (tgt := 60) (by decide) (by omega) (fun h24 => absurd h24 (by omega)) (fun h24 => ?_)
      refine lv_aload_n X.1 X.2.1 jd_G_drawBelow_27 rfl (lv_at hl 2 rfl) ?_
      refine j_rune (j_mkV X hP (c_G_advance l d D a n (kg g 0 (itF z k)) hap _) jU_bs (j_pe X hP) jm_385 jm_384 js_16 jm_3 jm_382 (by decide) rfl rfl (show jOk jy_G_advance 0 by unfold jOk; decide +kernel) (by decide) ⟨rfl, rfl⟩ hl.1 rfl (Nat.le_of_ble_eq_true rfl) ⟨Nat.zero_le _, Nat.zero_le _⟩ jd_G_drawBelow_28) hS (fun v28 n28 g28 H locs h28 hP hS => ?_)
      obtain ⟨rfl, rfl, rfl⟩ := h28
      have hP : va_P D jCl (jW d a n (kg g 0 (itF z (k + 1)))) H := by rw [kg_kg, kg_s] at hP; exact hP
      refine W.eq (g2 := F0 m 31 ls []) rfl ?_
      refine lv_aload_n X.1 X.2.1 jd_G_drawBelow_31 rfl (lv_at hl 2 rfl) ?_
      refine jg_G_7_13 X hP jd_G_drawBelow_32 ?_
      refine kn_tol (y := itF z (k + 1)) (by rw [kg_s]) ?_
      refine lv_bipush (v := nI 33) X.1 X.2.1 jd_G_drawBelow_35 (by decide) ?_
      refine lv_lushr (v := lN ((itF z (k + 1)) / 2 ^ 33)) X.1 X.2.1 jd_G_drawBelow_37 (wb_shr (itF_lt _ _) (by decide)) ?_
      refine lv_lstore X.1 X.2.1 jd_G_drawBelow_38 hl (by decide) rfl (fun ls hl => ?_)
      have hl : lv_has ls 7 [(5, .long (lN ((itF z (k + 1)) / 2 ^ 33))), (4, .int (nI k)), (2, .long (lN (2147483648 / k0 * k0))), (0, .ref (a 13)), (1, .int (nI k0))] := hl
      refine lv_lload X.1 X.2.1 jd_G_drawBelow_40 (lv_at hl 0 rfl) ?_
      refine lv_lload_n X.1 X.2.1 jd_G_drawBelow_42 rfl (lv_at hl 2 rfl) ?_
      refine kn_lge X.1 X.2.1 jd_G_drawBelow_43 jd_G_drawBelow_44 (tgt := 54) (by decide) (⟨by have := itF_lt z k; omega, by have := limF_le (k := k0); unfold limF at this; omega⟩) (fun h44 => ?_) (fun h44 => ?_)
      · skip
        refine lv_iinc (k := 1) (v := nI (k + 1)) X.1 X.2.1 jd_G_drawBelow_54 hl rfl (kn_inc _) (by decide) rfl (fun ls hl => ?_)
        have hl : lv_has ls 7 [(4, .int (nI (k + 1))), (5, .long (lN ((itF z (k + 1)) / 2 ^ 33))), (2, .long (lN (2147483648 / k0 * k0))), (0, .ref (a 13)), (1, .int (nI k0))] := hl
        refine lv_goto X.1 X.2.1 jd_G_drawBelow_57 (tgt := 20) (by decide) ?_
        have hl : lv_has ls 7 [(4, .int (nI (k + 1))), (2, .long (lN (2147483648 / k0 * k0))), (0, .ref (a 13)), (1, .int (nI k0))] := lv_sub hl [0, 2, 3, 4] rfl
        exact ihr (k + 1) H locs ls (by omega) (db_miss h2 hk0 hd h44) hP hS hl
      · skip
        refine lv_lload X.1 X.2.1 jd_G_drawBelow_47 (lv_at hl 0 rfl) ?_
        refine lv_iload_n X.1 X.2.1 jd_G_drawBelow_49 rfl (lv_at hl 4 rfl) ?_
        refine lv_i2l (v := lN k0) X.1 X.2.1 jd_G_drawBelow_50 (nI_l (by omega)) ?_
        refine kn_lrem X.1 X.2.1 jd_G_drawBelow_51 (by have := itF_lt z k; omega) ?_
        refine lv_l2i (v := nI (((itF z (k + 1)) / 2 ^ 33) % k0)) X.1 X.2.1 jd_G_drawBelow_52 (lN_i _) ?_
        exact hQ _ _ _ _ _ _ _ (by have e := db_hit hd h44; exact ⟨by unfold drV drS; rw [e], rfl, by unfold drS; rw [e]⟩) hP hS jd_G_drawBelow_53
  have hP : va_P D jCl (jW d a n (kg g 0 (itF z 0))) s.heap := by rw [show itF z 0 = g 0 from hz.symm, kg_self]; exact hP
  have hl : lv_has ls 7 [(4, .int (nI 0)), (2, .long (lN (2147483648 / k0 * k0))), (0, .ref (a 13)), (1, .int (nI k0))] := lv_sub hl [0, 1, 2, 3] rfl
  exact loop20 (1000000) 0 s.heap [] ls (by omega) (Nat.zero_le _) hP hS hl

set_option maxHeartbeats 4000000 in
theorem c_G_shuffle (l : Launch) (d : Nat → Nat) (D : va_G) (a : Nat → Nat) (n : Nat → Nat → Nat) (g : Nat → Nat) (hap : ∀ i j : Nat, i < 52 → j < 52 → a i = a j → i = j) (q t z : Nat) (hq : q < 52) (hI : jI q = 128) (h1 : 1 ≤ t) (ht : t ≤ 128) : jEff l d D a n g jy_G_shuffle jb_G_shuffle 8 none { frames := 2, cells := 0, slots := 0, locals := 46 } [.ref (a 13), .long (lN z), .int (nI t), .ref (a q)] (fun v9 n2 g2 => none = v9 ∧ (swP n q z t (t - 1)).1 = n2 ∧ kg g 0 (swP n q z t (t - 1)).2 = g2) := by
  refine je_V (by decide) (Nat.le_of_ble_eq_true rfl) ?_
  intro p e s m A below meth c ls Q X hP hS hl hQ
  have hl : lv_has ls 8 [(0, .ref (a 13)), (1, .long (lN z)), (3, .int (nI t)), (4, .ref (a q))] := hl
  refine lv_aload_n X.1 X.2.1 jd_G_shuffle_0 rfl (lv_at hl 0 rfl) ?_
  refine lv_lload_n X.1 X.2.1 jd_G_shuffle_1 rfl (lv_at hl 1 rfl) ?_
  refine j_rune (j_mkV X hP (c_G_restart l d D a n g hap z _) jU_bs (j_pe X hP) jm_375 jm_374 js_14 jm_3 jm_372 (by decide) rfl rfl (show jOk jy_G_restart 1 by unfold jOk; decide +kernel) (by decide) ⟨rfl, rfl⟩ hl.1 rfl (Nat.le_of_ble_eq_true rfl) ⟨Nat.zero_le _, Nat.zero_le _⟩ jd_G_shuffle_2) hS (fun v2 n2 g2 H locs h2 hP hS => ?_)
  obtain ⟨rfl, rfl, rfl⟩ := h2
  refine W.eq (g2 := F0 m 5 ls []) rfl ?_
  refine lv_iconst (v := nI 0) X.1 X.2.1 jd_G_shuffle_5 (by decide) ?_
  refine lv_istore X.1 X.2.1 jd_G_shuffle_6 hl (by decide) rfl (fun ls hl => ?_)
  have hl : lv_has ls 8 [(5, .int (nI 0)), (0, .ref (a 13)), (1, .long (lN z)), (3, .int (nI t)), (4, .ref (a q))] := hl
  have loop8 : ∀ (r k : Nat) (H : Heap) (locs : List Loc) (ls : Array Slot), k + r = t → va_P D jCl (jW d a (flF n q k) (kg g 0 z)) H → va_S (jAa a s.heap.size) s.heap H locs → lv_has ls 8 [(5, .int (nI k)), (0, .ref (a 13)), (1, .long (lN z)), (3, .int (nI t)), (4, .ref (a q))] → W p l e { frames := 2, cells := 0, slots := 0, locals := 46 } s m A below meth c H locs 0 0 Q (F0 m 8 ls []) := by
    intro r
    induction r with
    | zero => 
      intro k H locs ls hk hP hS hl
      obtain rfl : t = k := by omega
      refine lv_iload X.1 X.2.1 jd_G_shuffle_8 (lv_at hl 0 rfl) ?_
      refine lv_iload_n X.1 X.2.1 jd_G_shuffle_10 rfl (lv_at hl 3 rfl) ?_
      refine kn_cge X.1 X.2.1 jd_G_shuffle_11 (tgt := 27) (by decide) (by omega) (fun h11 => ?_) (fun h11 => absurd h11 (by omega))
      refine lv_iload_n X.1 X.2.1 jd_G_shuffle_27 rfl (lv_at hl 3 rfl) ?_
      refine lv_iconst (v := nI 1) X.1 X.2.1 jd_G_shuffle_28 (by decide) ?_
      refine kn_isub X.1 X.2.1 jd_G_shuffle_29 (by omega) ?_
      refine lv_istore X.1 X.2.1 jd_G_shuffle_30 hl (by decide) rfl (fun ls hl => ?_)
      have hl : lv_has ls 8 [(5, .int (nI (t - 1))), (0, .ref (a 13)), (1, .long (lN z)), (3, .int (nI t)), (4, .ref (a q))] := hl
      have loopB : ∀ (r2 k : Nat) (H : Heap) (locs : List Loc) (ls : Array Slot), k + r2 = t - 1 → va_P D jCl (jW d a ((swP n q z t k).1) (kg g 0 (swP n q z t k).2)) H → va_S (jAa a s.heap.size) s.heap H locs → lv_has ls 8 [(5, .int (nI (t - 1 - k))), (0, .ref (a 13)), (1, .long (lN z)), (3, .int (nI t)), (4, .ref (a q))] → W p l e { frames := 2, cells := 0, slots := 0, locals := 46 } s m A below meth c H locs 0 0 Q (F0 m 32 ls []) := by
        intro r2
        induction r2 with
        | zero => 
          intro k H locs ls hk hP hS hl
          obtain rfl : t - 1 = k := by omega
          refine lv_iload X.1 X.2.1 jd_G_shuffle_32 (lv_at hl 0 rfl) ?_
          refine lv_iconst (v := nI 1) X.1 X.2.1 jd_G_shuffle_34 (by decide) ?_
          refine kn_clt X.1 X.2.1 jd_G_shuffle_35 (tgt := 78) (by decide) (by omega) (fun h35 => ?_) (fun h35 => absurd h35 (by omega))
          exact hQ _ _ _ _ _ _ (⟨rfl, rfl, rfl⟩) hP hS jd_G_shuffle_78
        | succ r2 ihr2 => 
          intro k H locs ls hk hP hS hl
          refine lv_iload X.1 X.2.1 jd_G_shuffle_32 (lv_at hl 0 rfl) ?_
          refine lv_iconst (v := nI 1) X.1 X.2.1 jd_G_shuffle_34 (by decide) ?_
          refine kn_clt X.1 X.2.1 jd_G_shuffle_35 (tgt := 78) (by decide) (by omega) (fun h35 => absurd h35 (by omega)) (fun h35 => ?_)
          refine lv_aload_n X.1 X.2.1 jd_G_shuffle_38 rfl (lv_at hl 1 rfl) ?_
          refine lv_iload X.1 X.2.1 jd_G_shuffle_39 (lv_at hl 0 rfl) ?_
          refine lv_iconst (v := nI 1) X.1 X.2.1 jd_G_shuffle_41 (by decide) ?_
          refine kn_iadd X.1 X.2.1 jd_G_shuffle_42 ?_
          refine j_rune (j_mkV X hP (c_G_drawBelow l d D a (swP n q z t k).1 (kg g 0 (swP n q z t k).2) hap (swP n q z t k).2 (t - 1 - k + 1) (kg_s _ _ _) (by omega) (by omega) _) jU_bs (j_pe X hP) jm_379 jm_378 js_15 jm_3 jm_376 (by decide) rfl rfl (show jOk jy_G_drawBelow 1 by unfold jOk; decide +kernel) (by decide) ⟨rfl, rfl⟩ hl.1 rfl (Nat.le_of_ble_eq_true rfl) ⟨Nat.zero_le _, Nat.zero_le _⟩ jd_G_shuffle_43) hS (fun v43 n43 g43 H locs h43 hP hS => ?_)
          obtain ⟨rfl, rfl, rfl⟩ := h43
          rw [kg_kg] at hP
          refine W.eq (g2 := F0 m 46 ls [.int (nI (drV (swP n q z t k).2 (t - 1 - k + 1)))]) rfl ?_
          refine lv_istore X.1 X.2.1 jd_G_shuffle_46 hl (by decide) rfl (fun ls hl => ?_)
          have hl : lv_has ls 8 [(6, .int (nI (drV (swP n q z t k).2 (t - 1 - k + 1)))), (5, .int (nI (t - 1 - k))), (0, .ref (a 13)), (1, .long (lN z)), (3, .int (nI t)), (4, .ref (a q))] := hl
          refine lv_aload X.1 X.2.1 jd_G_shuffle_48 (lv_at hl 5 rfl) ?_
          refine lv_iload X.1 X.2.1 jd_G_shuffle_50 (lv_at hl 0 rfl) ?_
          refine j_ald X hP q (drV (swP n q z t k).2 (t - 1 - k + 1)) hq (by have := drV_lt (s := (swP n q z t k).2) (k := t - 1 - k + 1) (by omega); omega) (by omega) jd_G_shuffle_52 ?_
          refine lv_istore X.1 X.2.1 jd_G_shuffle_53 hl (by decide) rfl (fun ls hl => ?_)
          have hl : lv_has ls 8 [(7, .int (nI (((swP n q z t k).1) q (drV (swP n q z t k).2 (t - 1 - k + 1))))), (6, .int (nI (drV (swP n q z t k).2 (t - 1 - k + 1)))), (5, .int (nI (t - 1 - k))), (0, .ref (a 13)), (1, .long (lN z)), (3, .int (nI t)), (4, .ref (a q))] := hl
          refine lv_aload X.1 X.2.1 jd_G_shuffle_55 (lv_at hl 6 rfl) ?_
          refine lv_iload X.1 X.2.1 jd_G_shuffle_57 (lv_at hl 1 rfl) ?_
          refine lv_aload X.1 X.2.1 jd_G_shuffle_59 (lv_at hl 6 rfl) ?_
          refine lv_iload X.1 X.2.1 jd_G_shuffle_61 (lv_at hl 2 rfl) ?_
          refine j_ald X hP q (t - 1 - k) hq (by omega) (by omega) jd_G_shuffle_63 ?_
          refine j_ast X hap hP hS q (drV (swP n q z t k).2 (t - 1 - k + 1)) (((swP n q z t k).1) q (t - 1 - k)) hq (by have := drV_lt (s := (swP n q z t k).2) (k := t - 1 - k + 1) (by omega); omega) (by omega) jd_G_shuffle_64 (fun H locs hP hS => ?_)
          refine lv_aload X.1 X.2.1 jd_G_shuffle_65 (lv_at hl 6 rfl) ?_
          refine lv_iload X.1 X.2.1 jd_G_shuffle_67 (lv_at hl 2 rfl) ?_
          refine lv_iload X.1 X.2.1 jd_G_shuffle_69 (lv_at hl 0 rfl) ?_
          refine j_ast X hap hP hS q (t - 1 - k) (((swP n q z t k).1) q (drV (swP n q z t k).2 (t - 1 - k + 1))) hq (by omega) (by omega) jd_G_shuffle_71 (fun H locs hP hS => ?_)
          refine lv_iinc (k := 2) (v := nI ((t - 1 - k) - 1)) X.1 X.2.1 jd_G_shuffle_72 hl rfl (kn_dec (by omega)) (by decide) rfl (fun ls hl => ?_)
          have hl : lv_has ls 8 [(5, .int (nI ((t - 1 - k) - 1))), (7, .int (nI (((swP n q z t k).1) q (drV (swP n q z t k).2 (t - 1 - k + 1))))), (6, .int (nI (drV (swP n q z t k).2 (t - 1 - k + 1)))), (0, .ref (a 13)), (1, .long (lN z)), (3, .int (nI t)), (4, .ref (a q))] := hl
          refine lv_goto X.1 X.2.1 jd_G_shuffle_75 (tgt := 32) (by decide) ?_
          have hl : lv_has ls 8 [(5, .int (nI (t - 1 - (k + 1)))), (0, .ref (a 13)), (1, .long (lN z)), (3, .int (nI t)), (4, .ref (a q))] := lv_sub hl [0, 3, 4, 5, 6] rfl
          exact ihr2 (k + 1) H locs ls (by omega) hP hS hl
      have hl : lv_has ls 8 [(5, .int (nI (t - 1 - 0))), (0, .ref (a 13)), (1, .long (lN z)), (3, .int (nI t)), (4, .ref (a q))] := lv_sub hl [0, 1, 2, 3, 4] rfl
      exact loopB (t - 1) 0 H locs ls (by omega) hP hS hl
    | succ r ihr => 
      intro k H locs ls hk hP hS hl
      refine lv_iload X.1 X.2.1 jd_G_shuffle_8 (lv_at hl 0 rfl) ?_
      refine lv_iload_n X.1 X.2.1 jd_G_shuffle_10 rfl (lv_at hl 3 rfl) ?_
      refine kn_cge X.1 X.2.1 jd_G_shuffle_11 (tgt := 27) (by decide) (by omega) (fun h11 => absurd h11 (by omega)) (fun h11 => ?_)
      refine lv_aload X.1 X.2.1 jd_G_shuffle_14 (lv_at hl 4 rfl) ?_
      refine lv_iload X.1 X.2.1 jd_G_shuffle_16 (lv_at hl 0 rfl) ?_
      refine lv_iload X.1 X.2.1 jd_G_shuffle_18 (lv_at hl 0 rfl) ?_
      refine j_ast X hap hP hS q k k hq (by omega) (by omega) jd_G_shuffle_20 (fun H locs hP hS => ?_)
      refine lv_iinc (k := 0) (v := nI (k + 1)) X.1 X.2.1 jd_G_shuffle_21 hl rfl (kn_inc _) (by decide) rfl (fun ls hl => ?_)
      have hl : lv_has ls 8 [(5, .int (nI (k + 1))), (0, .ref (a 13)), (1, .long (lN z)), (3, .int (nI t)), (4, .ref (a q))] := hl
      refine lv_goto X.1 X.2.1 jd_G_shuffle_24 (tgt := 8) (by decide) ?_
      have hl : lv_has ls 8 [(5, .int (nI (k + 1))), (0, .ref (a 13)), (1, .long (lN z)), (3, .int (nI t)), (4, .ref (a q))] := lv_sub hl [0, 1, 2, 3, 4] rfl
      exact ihr (k + 1) H locs ls (by omega) hP hS hl
  have hl : lv_has ls 8 [(5, .int (nI 0)), (0, .ref (a 13)), (1, .long (lN z)), (3, .int (nI t)), (4, .ref (a q))] := lv_sub hl [0, 1, 2, 3, 4] rfl
  exact loop8 (t) 0 H locs ls (by omega) hP hS hl

set_option maxHeartbeats 4000000 in
theorem c_G_shuffle_0 (l : Launch) (d : Nat → Nat) (D : va_G) (a : Nat → Nat) (n : Nat → Nat → Nat) (g : Nat → Nat) (hap : ∀ i j : Nat, i < 52 → j < 52 → a i = a j → i = j) (q z : Nat) : jEff l d D a n g jy_G_shuffle jb_G_shuffle 8 none { frames := 2, cells := 0, slots := 0, locals := 46 } [.ref (a 13), .long (lN z), .int (nI 0), .ref (a q)] (fun v9 n2 g2 => none = v9 ∧ n = n2 ∧ kg g 0 z = g2) := by
  refine je_V (by decide) (Nat.le_of_ble_eq_true rfl) ?_
  intro p e s m A below meth c ls Q X hP hS hl hQ
  have hl : lv_has ls 8 [(0, .ref (a 13)), (1, .long (lN z)), (3, .int (nI 0)), (4, .ref (a q))] := hl
  refine lv_aload_n X.1 X.2.1 jd_G_shuffle_0 rfl (lv_at hl 0 rfl) ?_
  refine lv_lload_n X.1 X.2.1 jd_G_shuffle_1 rfl (lv_at hl 1 rfl) ?_
  refine j_rune (j_mkV X hP (c_G_restart l d D a n g hap z _) jU_bs (j_pe X hP) jm_375 jm_374 js_14 jm_3 jm_372 (by decide) rfl rfl (show jOk jy_G_restart 1 by unfold jOk; decide +kernel) (by decide) ⟨rfl, rfl⟩ hl.1 rfl (Nat.le_of_ble_eq_true rfl) ⟨Nat.zero_le _, Nat.zero_le _⟩ jd_G_shuffle_2) hS (fun v2 n2 g2 H locs h2 hP hS => ?_)
  obtain ⟨rfl, rfl, rfl⟩ := h2
  refine W.eq (g2 := F0 m 5 ls []) rfl ?_
  refine lv_iconst (v := nI 0) X.1 X.2.1 jd_G_shuffle_5 (by decide) ?_
  refine lv_istore X.1 X.2.1 jd_G_shuffle_6 hl (by decide) rfl (fun ls hl => ?_)
  have hl : lv_has ls 8 [(5, .int (nI 0)), (0, .ref (a 13)), (1, .long (lN z)), (3, .int (nI 0)), (4, .ref (a q))] := hl
  refine lv_iload X.1 X.2.1 jd_G_shuffle_8 (lv_at hl 0 rfl) ?_
  refine lv_iload_n X.1 X.2.1 jd_G_shuffle_10 rfl (lv_at hl 3 rfl) ?_
  refine kn_cge X.1 X.2.1 jd_G_shuffle_11 (tgt := 27) (by decide) (by omega) (fun h11 => ?_) (fun h11 => absurd h11 (by omega))
  refine lv_iload_n X.1 X.2.1 jd_G_shuffle_27 rfl (lv_at hl 3 rfl) ?_
  refine lv_iconst (v := nI 1) X.1 X.2.1 jd_G_shuffle_28 (by decide) ?_
  refine lv_isub X.1 X.2.1 jd_G_shuffle_29 ?_
  refine kn_is (y := 4294967295) (by decide) ?_
  refine lv_istore X.1 X.2.1 jd_G_shuffle_30 hl (by decide) rfl (fun ls hl => ?_)
  have hl : lv_has ls 8 [(5, .int (nI 4294967295)), (0, .ref (a 13)), (1, .long (lN z)), (3, .int (nI 0)), (4, .ref (a q))] := hl
  refine lv_iload X.1 X.2.1 jd_G_shuffle_32 (lv_at hl 0 rfl) ?_
  refine lv_iconst (v := nI 1) X.1 X.2.1 jd_G_shuffle_34 (by decide) ?_
  refine kn_xlt X.1 X.2.1 jd_G_shuffle_35 (tgt := 78) (by decide) (by omega) (fun h35 => ?_) (fun h35 => absurd h35 (by omega))
  exact hQ _ _ _ _ _ _ (⟨rfl, rfl, rfl⟩) hP hS jd_G_shuffle_78

set_option maxHeartbeats 4000000 in
theorem c_E_send (l : Launch) (d : Nat → Nat) (D : va_G) (a : Nat → Nat) (n : Nat → Nat → Nat) (g : Nat → Nat) (hap : ∀ i j : Nat, i < 52 → j < 52 → a i = a j → i = j) (x y z : Nat) (hc : n 15 0 < 16) : jEff l d D a n g jy_E_send jb_E_send 4 none { frames := 0, cells := 0, slots := 0, locals := 0 } [.ref (a 15), .int (nI x), .int (nI y), .int (nI z)] (fun v9 n2 g2 => none = v9 ∧ ku (ku (ku (ku n 16 (n 15 0) x) 17 (n 15 0) y) 18 (n 15 0) z) 15 0 (n 15 0 + 1) = n2 ∧ g = g2) := by
  refine je_V (by decide) (Nat.le_of_ble_eq_true rfl) ?_
  intro p e s m A below meth c ls Q X hP hS hl hQ
  have hl : lv_has ls 4 [(0, .ref (a 15)), (1, .int (nI x)), (2, .int (nI y)), (3, .int (nI z))] := hl
  refine lv_aload_n X.1 X.2.1 jd_E_send_0 rfl (lv_at hl 0 rfl) ?_
  refine jg_E_21_15 X hP jd_E_send_1 ?_
  refine lv_bipush (v := nI 16) X.1 X.2.1 jd_E_send_4 (by decide) ?_
  refine kn_cne X.1 X.2.1 jd_E_send_6 (tgt := 10) (by decide) (by omega) (fun h6 => ?_) (fun h6 => absurd h6 (by omega))
  refine lv_aload_n X.1 X.2.1 jd_E_send_10 rfl (lv_at hl 0 rfl) ?_
  refine jg_E_9_15 X hP jd_E_send_11 ?_
  refine lv_aload_n X.1 X.2.1 jd_E_send_14 rfl (lv_at hl 0 rfl) ?_
  refine jg_E_21_15 X hP jd_E_send_15 ?_
  refine lv_iload_n X.1 X.2.1 jd_E_send_18 rfl (lv_at hl 1 rfl) ?_
  refine j_ast X hap hP hS 16 (n 15 0) x (by decide) (show (n 15 0) < 16 from by omega) (by decide) jd_E_send_19 (fun H locs hP hS => ?_)
  refine lv_aload_n X.1 X.2.1 jd_E_send_20 rfl (lv_at hl 0 rfl) ?_
  refine jg_E_15_15 X hP jd_E_send_21 ?_
  refine lv_aload_n X.1 X.2.1 jd_E_send_24 rfl (lv_at hl 0 rfl) ?_
  refine jg_E_21_15 X hP jd_E_send_25 ?_
  refine kn_to (y := n 15 0) (rfl) ?_
  refine lv_iload_n X.1 X.2.1 jd_E_send_28 rfl (lv_at hl 2 rfl) ?_
  refine j_ast X hap hP hS 17 (n 15 0) y (by decide) (show (n 15 0) < 16 from by omega) (by decide) jd_E_send_29 (fun H locs hP hS => ?_)
  refine lv_aload_n X.1 X.2.1 jd_E_send_30 rfl (lv_at hl 0 rfl) ?_
  refine jg_E_18_15 X hP jd_E_send_31 ?_
  refine lv_aload_n X.1 X.2.1 jd_E_send_34 rfl (lv_at hl 0 rfl) ?_
  refine jg_E_21_15 X hP jd_E_send_35 ?_
  refine kn_to (y := n 15 0) (rfl) ?_
  refine lv_iload_n X.1 X.2.1 jd_E_send_38 rfl (lv_at hl 3 rfl) ?_
  refine j_ast X hap hP hS 18 (n 15 0) z (by decide) (show (n 15 0) < 16 from by omega) (by decide) jd_E_send_39 (fun H locs hP hS => ?_)
  refine lv_aload_n X.1 X.2.1 jd_E_send_40 rfl (lv_at hl 0 rfl) ?_
  refine lv_dup X.1 X.2.1 jd_E_send_41 rfl ?_
  refine jg_E_21_15 X hP jd_E_send_42 ?_
  refine kn_to (y := n 15 0) (rfl) ?_
  refine lv_iconst (v := nI 1) X.1 X.2.1 jd_E_send_45 (by decide) ?_
  refine kn_iadd X.1 X.2.1 jd_E_send_46 ?_
  refine jp_E_21_15 X hap hP hS jd_E_send_47 (fun H locs hP hS => ?_)
  exact hQ _ _ _ _ _ _ (⟨rfl, rfl, rfl⟩) hP hS jd_E_send_50

set_option maxHeartbeats 4000000 in
theorem c_E_send_f (l : Launch) (d : Nat → Nat) (D : va_G) (a : Nat → Nat) (n : Nat → Nat → Nat) (g : Nat → Nat) (hap : ∀ i j : Nat, i < 52 → j < 52 → a i = a j → i = j) (x y z : Nat) (hc : n 15 0 = 16) : jEff l d D a n g jy_E_send jb_E_send 4 none { frames := 0, cells := 0, slots := 0, locals := 0 } [.ref (a 15), .int (nI x), .int (nI y), .int (nI z)] (fun v9 n2 g2 => none = v9 ∧ n = n2 ∧ g = g2) := by
  refine je_V (by decide) (Nat.le_of_ble_eq_true rfl) ?_
  intro p e s m A below meth c ls Q X hP hS hl hQ
  have hl : lv_has ls 4 [(0, .ref (a 15)), (1, .int (nI x)), (2, .int (nI y)), (3, .int (nI z))] := hl
  refine lv_aload_n X.1 X.2.1 jd_E_send_0 rfl (lv_at hl 0 rfl) ?_
  refine jg_E_21_15 X hP jd_E_send_1 ?_
  refine lv_bipush (v := nI 16) X.1 X.2.1 jd_E_send_4 (by decide) ?_
  refine kn_cne X.1 X.2.1 jd_E_send_6 (tgt := 10) (by decide) (by omega) (fun h6 => absurd h6 (by omega)) (fun h6 => ?_)
  exact hQ _ _ _ _ _ _ (⟨rfl, rfl, rfl⟩) hP hS jd_E_send_9

set_option maxHeartbeats 4000000 in
theorem c_E_takeOut (l : Launch) (d : Nat → Nat) (D : va_G) (a : Nat → Nat) (n : Nat → Nat → Nat) (g : Nat → Nat) (hap : ∀ i j : Nat, i < 52 → j < 52 → a i = a j → i = j) (x : Nat) (hx : x < n 15 0) (hc : n 15 0 ≤ 16) : jEff l d D a n g jy_E_takeOut jb_E_takeOut 3 none { frames := 0, cells := 0, slots := 0, locals := 0 } [.ref (a 15), .int (nI x)] (fun v9 n2 g2 => none = v9 ∧ ku (shN n x (n 15 0 - 1 - x)) 15 0 (n 15 0 - 1) = n2 ∧ g = g2) := by
  refine je_V (by decide) (Nat.le_of_ble_eq_true rfl) ?_
  intro p e s m A below meth c ls Q X hP hS hl hQ
  have hl : lv_has ls 3 [(0, .ref (a 15)), (1, .int (nI x))] := hl
  refine lv_iload_n X.1 X.2.1 jd_E_takeOut_0 rfl (lv_at hl 1 rfl) ?_
  refine lv_iconst (v := nI 1) X.1 X.2.1 jd_E_takeOut_1 (by decide) ?_
  refine kn_iadd X.1 X.2.1 jd_E_takeOut_2 ?_
  refine lv_istore_n X.1 X.2.1 jd_E_takeOut_3 rfl hl (by decide) rfl (fun ls hl => ?_)
  have hl : lv_has ls 3 [(2, .int (nI (x + 1))), (0, .ref (a 15)), (1, .int (nI x))] := hl
  have loop4 : ∀ (r k : Nat) (H : Heap) (locs : List Loc) (ls : Array Slot), k + r = n 15 0 - 1 - x → va_P D jCl (jW d a (shN n x k) g) H → va_S (jAa a s.heap.size) s.heap H locs → lv_has ls 3 [(2, .int (nI (x + 1 + k))), (0, .ref (a 15)), (1, .int (nI x))] → W p l e { frames := 0, cells := 0, slots := 0, locals := 0 } s m A below meth c H locs 0 0 Q (F0 m 4 ls []) := by
    intro r
    induction r with
    | zero => 
      intro k H locs ls hk hP hS hl
      obtain rfl : n 15 0 - 1 - x = k := by omega
      refine lv_iload_n X.1 X.2.1 jd_E_takeOut_4 rfl (lv_at hl 0 rfl) ?_
      refine lv_aload_n X.1 X.2.1 jd_E_takeOut_5 rfl (lv_at hl 1 rfl) ?_
      refine jg_E_21_15 X hP jd_E_takeOut_6 ?_
      refine kn_to (y := n 15 0) (shN_c _ _ _) ?_
      refine kn_cge X.1 X.2.1 jd_E_takeOut_9 (tgt := 60) (by decide) (by omega) (fun h9 => ?_) (fun h9 => absurd h9 (by omega))
      refine lv_aload_n X.1 X.2.1 jd_E_takeOut_60 rfl (lv_at hl 1 rfl) ?_
      refine lv_dup X.1 X.2.1 jd_E_takeOut_61 rfl ?_
      refine jg_E_21_15 X hP jd_E_takeOut_62 ?_
      refine kn_to (y := n 15 0) (shN_c _ _ _) ?_
      refine lv_iconst (v := nI 1) X.1 X.2.1 jd_E_takeOut_65 (by decide) ?_
      refine kn_isub X.1 X.2.1 jd_E_takeOut_66 (by omega) ?_
      refine jp_E_21_15 X hap hP hS jd_E_takeOut_67 (fun H locs hP hS => ?_)
      exact hQ _ _ _ _ _ _ (⟨rfl, rfl, rfl⟩) hP hS jd_E_takeOut_70
    | succ r ihr => 
      intro k H locs ls hk hP hS hl
      refine lv_iload_n X.1 X.2.1 jd_E_takeOut_4 rfl (lv_at hl 0 rfl) ?_
      refine lv_aload_n X.1 X.2.1 jd_E_takeOut_5 rfl (lv_at hl 1 rfl) ?_
      refine jg_E_21_15 X hP jd_E_takeOut_6 ?_
      refine kn_to (y := n 15 0) (shN_c _ _ _) ?_
      refine kn_cge X.1 X.2.1 jd_E_takeOut_9 (tgt := 60) (by decide) (by omega) (fun h9 => absurd h9 (by omega)) (fun h9 => ?_)
      refine lv_aload_n X.1 X.2.1 jd_E_takeOut_12 rfl (lv_at hl 1 rfl) ?_
      refine jg_E_9_15 X hP jd_E_takeOut_13 ?_
      refine lv_iload_n X.1 X.2.1 jd_E_takeOut_16 rfl (lv_at hl 0 rfl) ?_
      refine lv_iconst (v := nI 1) X.1 X.2.1 jd_E_takeOut_17 (by decide) ?_
      refine kn_isub X.1 X.2.1 jd_E_takeOut_18 (by omega) ?_
      refine lv_aload_n X.1 X.2.1 jd_E_takeOut_19 rfl (lv_at hl 1 rfl) ?_
      refine jg_E_9_15 X hP jd_E_takeOut_20 ?_
      refine lv_iload_n X.1 X.2.1 jd_E_takeOut_23 rfl (lv_at hl 0 rfl) ?_
      refine j_ald X hP 16 (x + 1 + k) (by decide) (show (x + 1 + k) < 16 from by omega) (by decide) jd_E_takeOut_24 ?_
      refine j_ast X hap hP hS 16 ((x + 1 + k) - 1) ((shN n x k) 16 (x + 1 + k)) (by decide) (show ((x + 1 + k) - 1) < 16 from by omega) (by decide) jd_E_takeOut_25 (fun H locs hP hS => ?_)
      refine lv_aload_n X.1 X.2.1 jd_E_takeOut_26 rfl (lv_at hl 1 rfl) ?_
      refine jg_E_15_15 X hP jd_E_takeOut_27 ?_
      refine lv_iload_n X.1 X.2.1 jd_E_takeOut_30 rfl (lv_at hl 0 rfl) ?_
      refine lv_iconst (v := nI 1) X.1 X.2.1 jd_E_takeOut_31 (by decide) ?_
      refine kn_isub X.1 X.2.1 jd_E_takeOut_32 (by omega) ?_
      refine lv_aload_n X.1 X.2.1 jd_E_takeOut_33 rfl (lv_at hl 1 rfl) ?_
      refine jg_E_15_15 X hP jd_E_takeOut_34 ?_
      refine lv_iload_n X.1 X.2.1 jd_E_takeOut_37 rfl (lv_at hl 0 rfl) ?_
      refine j_ald X hP 17 (x + 1 + k) (by decide) (show (x + 1 + k) < 16 from by omega) (by decide) jd_E_takeOut_38 ?_
      refine j_ast X hap hP hS 17 ((x + 1 + k) - 1) ((ku (shN n x k) 16 ((x + 1 + k) - 1) ((shN n x k) 16 (x + 1 + k))) 17 (x + 1 + k)) (by decide) (show ((x + 1 + k) - 1) < 16 from by omega) (by decide) jd_E_takeOut_39 (fun H locs hP hS => ?_)
      refine lv_aload_n X.1 X.2.1 jd_E_takeOut_40 rfl (lv_at hl 1 rfl) ?_
      refine jg_E_18_15 X hP jd_E_takeOut_41 ?_
      refine lv_iload_n X.1 X.2.1 jd_E_takeOut_44 rfl (lv_at hl 0 rfl) ?_
      refine lv_iconst (v := nI 1) X.1 X.2.1 jd_E_takeOut_45 (by decide) ?_
      refine kn_isub X.1 X.2.1 jd_E_takeOut_46 (by omega) ?_
      refine lv_aload_n X.1 X.2.1 jd_E_takeOut_47 rfl (lv_at hl 1 rfl) ?_
      refine jg_E_18_15 X hP jd_E_takeOut_48 ?_
      refine lv_iload_n X.1 X.2.1 jd_E_takeOut_51 rfl (lv_at hl 0 rfl) ?_
      refine j_ald X hP 18 (x + 1 + k) (by decide) (show (x + 1 + k) < 16 from by omega) (by decide) jd_E_takeOut_52 ?_
      refine j_ast X hap hP hS 18 ((x + 1 + k) - 1) ((ku (ku (shN n x k) 16 ((x + 1 + k) - 1) ((shN n x k) 16 (x + 1 + k))) 17 ((x + 1 + k) - 1) ((ku (shN n x k) 16 ((x + 1 + k) - 1) ((shN n x k) 16 (x + 1 + k))) 17 (x + 1 + k))) 18 (x + 1 + k)) (by decide) (show ((x + 1 + k) - 1) < 16 from by omega) (by decide) jd_E_takeOut_53 (fun H locs hP hS => ?_)
      refine lv_iinc (k := 0) (v := nI ((x + 1 + k) + 1)) X.1 X.2.1 jd_E_takeOut_54 hl rfl (kn_inc _) (by decide) rfl (fun ls hl => ?_)
      have hl : lv_has ls 3 [(2, .int (nI ((x + 1 + k) + 1))), (0, .ref (a 15)), (1, .int (nI x))] := hl
      refine lv_goto X.1 X.2.1 jd_E_takeOut_57 (tgt := 4) (by decide) ?_
      have hl : lv_has ls 3 [(2, .int (nI (x + 1 + (k + 1)))), (0, .ref (a 15)), (1, .int (nI x))] := lv_sub hl [0, 1, 2] rfl
      exact ihr (k + 1) H locs ls (by omega) hP hS hl
  have hl : lv_has ls 3 [(2, .int (nI (x + 1 + 0))), (0, .ref (a 15)), (1, .int (nI x))] := lv_sub hl [0, 1, 2] rfl
  exact loop4 (n 15 0 - 1 - x) 0 s.heap [] ls (by omega) hP hS hl

set_option maxHeartbeats 4000000 in
theorem c_Arrays_fill (l : Launch) (d : Nat → Nat) (D : va_G) (a : Nat → Nat) (n : Nat → Nat → Nat) (g : Nat → Nat) (hap : ∀ i j : Nat, i < 52 → j < 52 → a i = a j → i = j) (q x : Nat) (hq : q < 52) (hI : jI q = 128) : jEff l d D a n g jy_Arrays_fill jb_Arrays_fill 4 none { frames := 0, cells := 0, slots := 0, locals := 0 } [.ref (a q), .int (nI x)] (fun v9 n2 g2 => none = v9 ∧ fiF n q x 128 = n2 ∧ g = g2) := by
  refine je_V (by decide) (Nat.le_of_ble_eq_true rfl) ?_
  intro p e s m A below meth c ls Q X hP hS hl hQ
  have hl : lv_has ls 4 [(0, .ref (a q)), (1, .int (nI x))] := hl
  refine lv_iconst (v := nI 0) X.1 X.2.1 jd_Arrays_fill_0 (by decide) ?_
  refine lv_istore_n X.1 X.2.1 jd_Arrays_fill_1 rfl hl (by decide) rfl (fun ls hl => ?_)
  have hl : lv_has ls 4 [(2, .int (nI 0)), (0, .ref (a q)), (1, .int (nI x))] := hl
  refine lv_aload_n X.1 X.2.1 jd_Arrays_fill_2 rfl (lv_at hl 1 rfl) ?_
  refine va_alen X.1 X.2.1 X.2.2.2.2.2.2.2.1 hP q 0 (by rw [jW_g q hq, jE_I q hq (by omega)]) rfl (v := nI 128) (by show Int32.ofNat (jI q) = nI 128; rw [hI]; rfl) jd_Arrays_fill_3 ?_
  refine lv_istore_n X.1 X.2.1 jd_Arrays_fill_4 rfl hl (by decide) rfl (fun ls hl => ?_)
  have hl : lv_has ls 4 [(3, .int (nI 128)), (2, .int (nI 0)), (0, .ref (a q)), (1, .int (nI x))] := hl
  have loop5 : ∀ (r k : Nat) (H : Heap) (locs : List Loc) (ls : Array Slot), k + r = 128 → va_P D jCl (jW d a (fiF n q x k) g) H → va_S (jAa a s.heap.size) s.heap H locs → lv_has ls 4 [(2, .int (nI k)), (3, .int (nI 128)), (0, .ref (a q)), (1, .int (nI x))] → W p l e { frames := 0, cells := 0, slots := 0, locals := 0 } s m A below meth c H locs 0 0 Q (F0 m 5 ls []) := by
    intro r
    induction r with
    | zero => 
      intro k H locs ls hk hP hS hl
      obtain rfl : 128 = k := by omega
      refine lv_iload_n X.1 X.2.1 jd_Arrays_fill_5 rfl (lv_at hl 0 rfl) ?_
      refine lv_iload_n X.1 X.2.1 jd_Arrays_fill_6 rfl (lv_at hl 1 rfl) ?_
      refine kn_cge X.1 X.2.1 jd_Arrays_fill_7 (tgt := 20) (by decide) (by omega) (fun h7 => ?_) (fun h7 => absurd h7 (by omega))
      exact hQ _ _ _ _ _ _ (⟨rfl, rfl, rfl⟩) hP hS jd_Arrays_fill_20
    | succ r ihr => 
      intro k H locs ls hk hP hS hl
      refine lv_iload_n X.1 X.2.1 jd_Arrays_fill_5 rfl (lv_at hl 0 rfl) ?_
      refine lv_iload_n X.1 X.2.1 jd_Arrays_fill_6 rfl (lv_at hl 1 rfl) ?_
      refine kn_cge X.1 X.2.1 jd_Arrays_fill_7 (tgt := 20) (by decide) (by omega) (fun h7 => absurd h7 (by omega)) (fun h7 => ?_)
      refine lv_aload_n X.1 X.2.1 jd_Arrays_fill_10 rfl (lv_at hl 2 rfl) ?_
      refine lv_iload_n X.1 X.2.1 jd_Arrays_fill_11 rfl (lv_at hl 0 rfl) ?_
      refine lv_iload_n X.1 X.2.1 jd_Arrays_fill_12 rfl (lv_at hl 3 rfl) ?_
      refine j_ast X hap hP hS q k x hq (by omega) (by omega) jd_Arrays_fill_13 (fun H locs hP hS => ?_)
      refine lv_iinc (k := 0) (v := nI (k + 1)) X.1 X.2.1 jd_Arrays_fill_14 hl rfl (kn_inc _) (by decide) rfl (fun ls hl => ?_)
      have hl : lv_has ls 4 [(2, .int (nI (k + 1))), (3, .int (nI 128)), (0, .ref (a q)), (1, .int (nI x))] := hl
      refine lv_goto X.1 X.2.1 jd_Arrays_fill_17 (tgt := 5) (by decide) ?_
      have hl : lv_has ls 4 [(2, .int (nI (k + 1))), (3, .int (nI 128)), (0, .ref (a q)), (1, .int (nI x))] := lv_sub hl [0, 1, 2, 3] rfl
      exact ihr (k + 1) H locs ls (by omega) hP hS hl
  have hl : lv_has ls 4 [(2, .int (nI 0)), (3, .int (nI 128)), (0, .ref (a q)), (1, .int (nI x))] := lv_sub hl [1, 0, 2, 3] rfl
  exact loop5 (128) 0 s.heap [] ls (by omega) hP hS hl
end
section
/-! pure words: the dialogue's blocks, questions -/
def bsF (n : Nat → Nat → Nat) (p : Nat) : Nat := n 14 4 * 2 ^ p
def beF (n : Nat → Nat → Nat) (p f : Nat) : Nat := if n 14 5 < f + n 14 4 * 2 ^ p then n 14 5 else f + n 14 4 * 2 ^ p
def bcF (n : Nat → Nat → Nat) (p : Nat) : Nat := (n 14 5 - 1) / (n 14 4 * 2 ^ p) + 1
def odF (n : Nat → Nat → Nat) (p f t mk : Nat) : Nat := if n (25 + p) mk = parF (n 12) (n (20 + p)) f (t - f) then 0 else 1
theorem odF_lt (n : Nat → Nat → Nat) (p f t mk : Nat) : odF n p f t mk < 2 := by unfold odF; split <;> decide
theorem jI_or {p : Nat} (h : p < 4) : jI (20 + p) = 128 := by
  rcases (show p = 0 ∨ p = 1 ∨ p = 2 ∨ p = 3 by omega) with rfl | rfl | rfl | rfl <;> rfl
theorem jI_kn {p : Nat} (h : p < 4) : jI (25 + p) = 128 := by
  rcases (show p = 0 ∨ p = 1 ∨ p = 2 ∨ p = 3 by omega) with rfl | rfl | rfl | rfl <;> rfl
theorem kx1 {x y : Nat} (hx : x < 2) (hy : y < 2) : x ^^^ y < 2 := Nat.xor_lt_two_pow (n := 1) hx hy
theorem parF_lt {str ord : Nat → Nat} {f : Nat} (h : ∀ i, str i < 2) : ∀ k, parF str ord f k < 2
  | 0 => by show 0 < 2; decide
  | k + 1 => kx1 (parF_lt h k) (h _)
theorem kn_shr {x q : Nat} (hq : q < 32) (hx : x < 2147483648) : nI x >>> (nI q &&& 31) = nI (x / 2 ^ q) := pk_shrN hx _ q (kn_s31 q hq)
theorem bs_pos {n : Nat → Nat → Nat} {p : Nat} (h : 4 ≤ n 14 4) : 4 ≤ n 14 4 * 2 ^ p := by
  have : 1 ≤ 2 ^ p := Nat.one_le_two_pow
  calc 4 ≤ n 14 4 := h
    _ = n 14 4 * 1 := (Nat.mul_one _).symm
    _ ≤ n 14 4 * 2 ^ p := Nat.mul_le_mul_left _ this
theorem bs_le {n : Nat → Nat → Nat} {p : Nat} (h : n 14 4 ≤ 128) (hp : p < 4) : n 14 4 * 2 ^ p ≤ 1024 := by
  rcases (show p = 0 ∨ p = 1 ∨ p = 2 ∨ p = 3 by omega) with rfl | rfl | rfl | rfl <;> omega
/-- a question's number for the row -/
def qwF (p f t : Nat) : Nat := p * 2 ^ 16 ||| f * 2 ^ 8 ||| t
theorem kn_shlA {x : Nat} (hx : x < 128) : nI x <<< (nI 16 &&& 31) = nI (x * 2 ^ 16) := pk_shlN _ 16 (by decide) (by omega)
theorem kn_shlB {x : Nat} (hx : x < 65536) : nI x <<< (nI 8 &&& 31) = nI (x * 2 ^ 8) := pk_shlN _ 8 (by decide) (by omega)
/-- a question is asked: the row, its number, its mark -/
def akG (n : Nat → Nat → Nat) (q f t mk : Nat) : Nat → Nat → Nat := ku (ku (ku n 29 (n 14 0) (q * 2 ^ 16 ||| f * 2 ^ 8 ||| t)) 14 0 (n 14 0 + 1)) 14 1 mk
/-- a letter is sent, if there is room -/
def sdG (n : Nat → Nat → Nat) (x y z : Nat) : Nat → Nat → Nat := ku (ku (ku (ku n 16 (n 15 0) x) 17 (n 15 0) y) 18 (n 15 0) z) 15 0 (n 15 0 + 1)
def sdF (n : Nat → Nat → Nat) (x y z : Nat) : Nat → Nat → Nat := if n 15 0 = 16 then n else sdG n x y z
def akF (n : Nat → Nat → Nat) (q f t mk : Nat) : Nat → Nat → Nat := sdG (akG n q f t mk) 0 (n 14 0 + 1) 0
end
section
set_option maxHeartbeats 4000000 in
theorem c_D_passOf (l : Launch) (d : Nat → Nat) (D : va_G) (a : Nat → Nat) (n : Nat → Nat → Nat) (g : Nat → Nat) (k : Nat) (hk1 : 1 ≤ k) (hk : k ≤ 512) (hw : n 29 (k - 1) < 2147483648) : jPure l d D a n g jy_D_passOf jb_D_passOf 2 (some .int) { frames := 0, cells := 0, slots := 0, locals := 0 } [.ref (a 14), .int (nI k)] (some (.int (nI (n 29 (k - 1) / 2 ^ 16)))) := by
  refine jq_I (by decide) (Nat.le_of_ble_eq_true rfl) ?_
  intro p e s m A below meth c ls Q X hP hl hQ
  have hl : lv_has ls 2 [(0, .ref (a 14)), (1, .int (nI k))] := hl
  refine lv_aload_n X.1 X.2.1 jd_D_passOf_0 rfl (lv_at hl 0 rfl) ?_
  refine jg_D_26_14 X hP jd_D_passOf_1 ?_
  refine lv_iload_n X.1 X.2.1 jd_D_passOf_4 rfl (lv_at hl 1 rfl) ?_
  refine lv_iconst (v := nI 1) X.1 X.2.1 jd_D_passOf_5 (by decide) ?_
  refine kn_isub X.1 X.2.1 jd_D_passOf_6 (by omega) ?_
  refine j_ald X hP 29 (k - 1) (by decide) (show (k - 1) < 512 from by omega) (by decide) jd_D_passOf_7 ?_
  refine lv_bipush (v := nI 16) X.1 X.2.1 jd_D_passOf_8 (by decide) ?_
  refine lv_ishr X.1 X.2.1 jd_D_passOf_10 ?_
  refine kn_is (y := (n 29 (k - 1)) / 2 ^ 16) (kn_shr (by decide) (by omega)) ?_
  exact kn_to (by first | rfl | omega | (split <;> omega)) (hQ _ _ jd_D_passOf_11)

set_option maxHeartbeats 4000000 in
theorem c_D_fromOf (l : Launch) (d : Nat → Nat) (D : va_G) (a : Nat → Nat) (n : Nat → Nat → Nat) (g : Nat → Nat) (k : Nat) (hk1 : 1 ≤ k) (hk : k ≤ 512) (hw : n 29 (k - 1) < 2147483648) : jPure l d D a n g jy_D_fromOf jb_D_fromOf 2 (some .int) { frames := 0, cells := 0, slots := 0, locals := 0 } [.ref (a 14), .int (nI k)] (some (.int (nI ((n 29 (k - 1) / 2 ^ 8) &&& 255)))) := by
  refine jq_I (by decide) (Nat.le_of_ble_eq_true rfl) ?_
  intro p e s m A below meth c ls Q X hP hl hQ
  have hl : lv_has ls 2 [(0, .ref (a 14)), (1, .int (nI k))] := hl
  refine lv_aload_n X.1 X.2.1 jd_D_fromOf_0 rfl (lv_at hl 0 rfl) ?_
  refine jg_D_26_14 X hP jd_D_fromOf_1 ?_
  refine lv_iload_n X.1 X.2.1 jd_D_fromOf_4 rfl (lv_at hl 1 rfl) ?_
  refine lv_iconst (v := nI 1) X.1 X.2.1 jd_D_fromOf_5 (by decide) ?_
  refine kn_isub X.1 X.2.1 jd_D_fromOf_6 (by omega) ?_
  refine j_ald X hP 29 (k - 1) (by decide) (show (k - 1) < 512 from by omega) (by decide) jd_D_fromOf_7 ?_
  refine lv_bipush (v := nI 8) X.1 X.2.1 jd_D_fromOf_8 (by decide) ?_
  refine lv_ishr X.1 X.2.1 jd_D_fromOf_10 ?_
  refine kn_is (y := (n 29 (k - 1)) / 2 ^ 8) (kn_shr (by decide) (by omega)) ?_
  refine lv_sipush (v := nI 255) X.1 X.2.1 jd_D_fromOf_11 (by decide) ?_
  refine kn_iand X.1 X.2.1 jd_D_fromOf_14 ?_
  exact kn_to (by first | rfl | omega | (split <;> omega)) (hQ _ _ jd_D_fromOf_15)

set_option maxHeartbeats 4000000 in
theorem c_D_toOf (l : Launch) (d : Nat → Nat) (D : va_G) (a : Nat → Nat) (n : Nat → Nat → Nat) (g : Nat → Nat) (k : Nat) (hk1 : 1 ≤ k) (hk : k ≤ 512) (hw : n 29 (k - 1) < 2147483648) : jPure l d D a n g jy_D_toOf jb_D_toOf 2 (some .int) { frames := 0, cells := 0, slots := 0, locals := 0 } [.ref (a 14), .int (nI k)] (some (.int (nI (n 29 (k - 1) &&& 255)))) := by
  refine jq_I (by decide) (Nat.le_of_ble_eq_true rfl) ?_
  intro p e s m A below meth c ls Q X hP hl hQ
  have hl : lv_has ls 2 [(0, .ref (a 14)), (1, .int (nI k))] := hl
  refine lv_aload_n X.1 X.2.1 jd_D_toOf_0 rfl (lv_at hl 0 rfl) ?_
  refine jg_D_26_14 X hP jd_D_toOf_1 ?_
  refine lv_iload_n X.1 X.2.1 jd_D_toOf_4 rfl (lv_at hl 1 rfl) ?_
  refine lv_iconst (v := nI 1) X.1 X.2.1 jd_D_toOf_5 (by decide) ?_
  refine kn_isub X.1 X.2.1 jd_D_toOf_6 (by omega) ?_
  refine j_ald X hP 29 (k - 1) (by decide) (show (k - 1) < 512 from by omega) (by decide) jd_D_toOf_7 ?_
  refine lv_sipush (v := nI 255) X.1 X.2.1 jd_D_toOf_8 (by decide) ?_
  refine kn_iand X.1 X.2.1 jd_D_toOf_11 ?_
  exact kn_to (by first | rfl | omega | (split <;> omega)) (hQ _ _ jd_D_toOf_12)

set_option maxHeartbeats 4000000 in
theorem c_D_blockCount (l : Launch) (d : Nat → Nat) (D : va_G) (a : Nat → Nat) (n : Nat → Nat → Nat) (g : Nat → Nat) (q : Nat) (hq : q < 4) (hz : 4 ≤ n 14 4) (hz2 : n 14 4 ≤ 128) (ht : n 14 4 ≤ n 14 5) (ht2 : n 14 5 ≤ 128)  : jPure l d D a n g jy_D_blockCount jb_D_blockCount 2 (some .int) { frames := 1, cells := 0, slots := 0, locals := 21 } [.ref (a 14), .int (nI q)] (some (.int (nI (bcF n q)))) := by
  refine jq_I (by decide) (Nat.le_of_ble_eq_true rfl) ?_
  intro p e s m A below meth c ls Q X hP hl hQ
  have hl : lv_has ls 2 [(0, .ref (a 14)), (1, .int (nI q))] := hl
  refine lv_aload_n X.1 X.2.1 jd_D_blockCount_0 rfl (lv_at hl 0 rfl) ?_
  refine jg_D_41_14 X hP jd_D_blockCount_1 ?_
  refine lv_iconst (v := nI 4) X.1 X.2.1 jd_D_blockCount_4 (by decide) ?_
  refine kn_cge X.1 X.2.1 jd_D_blockCount_5 (tgt := 12) (by decide) (by omega) (fun h5 => ?_) (fun h5 => absurd h5 (by omega))
  refine lv_aload_n X.1 X.2.1 jd_D_blockCount_12 rfl (lv_at hl 0 rfl) ?_
  refine jg_D_44_14 X hP jd_D_blockCount_13 ?_
  refine lv_iconst (v := nI 1) X.1 X.2.1 jd_D_blockCount_16 (by decide) ?_
  refine kn_isub X.1 X.2.1 jd_D_blockCount_17 (by omega) ?_
  refine lv_aload_n X.1 X.2.1 jd_D_blockCount_18 rfl (lv_at hl 0 rfl) ?_
  refine lv_iload_n X.1 X.2.1 jd_D_blockCount_19 rfl (lv_at hl 1 rfl) ?_
  refine j_run (j_mkV X hP (c_D_blockSize l d D a n g q (by omega) hz2) jU_b (j_pp X hP) jm_425 jm_424 js_22 jm_4 jm_422 (by decide) rfl rfl (show jOk jy_D_blockSize 1 by unfold jOk; decide +kernel) (by decide) ⟨rfl, rfl⟩ hl.1 rfl (Nat.le_of_ble_eq_true rfl) ⟨Nat.zero_le _, Nat.zero_le _⟩ jd_D_blockCount_20) ?_
  refine W.eq (g2 := F0 m 23 ls [.int (nI (n 14 4 * 2 ^ q)), .int (nI ((n 14 5) - 1))]) rfl ?_
  refine kn_idiv X.1 X.2.1 jd_D_blockCount_23 (by have h1 := bs_pos (n := n) (p := q) hz; have h2 := bs_le (n := n) (p := q) hz2 hq; omega) ?_
  refine lv_iconst (v := nI 1) X.1 X.2.1 jd_D_blockCount_24 (by decide) ?_
  refine kn_iadd X.1 X.2.1 jd_D_blockCount_25 ?_
  exact kn_to (by first | rfl | omega | (split <;> omega)) (hQ _ _ jd_D_blockCount_26)

set_option maxHeartbeats 4000000 in
theorem c_D_blockEnd (l : Launch) (d : Nat → Nat) (D : va_G) (a : Nat → Nat) (n : Nat → Nat → Nat) (g : Nat → Nat) (q f : Nat) (hq : q < 4) (hf : f < 1000) (hz : 4 ≤ n 14 4) (hz2 : n 14 4 ≤ 128) (ht : n 14 4 ≤ n 14 5) (ht2 : n 14 5 ≤ 128)  : jPure l d D a n g jy_D_blockEnd jb_D_blockEnd 3 (some .int) { frames := 1, cells := 0, slots := 0, locals := 21 } [.ref (a 14), .int (nI q), .int (nI f)] (some (.int (nI (beF n q f)))) := by
  refine jq_I (by decide) (Nat.le_of_ble_eq_true rfl) ?_
  intro p e s m A below meth c ls Q X hP hl hQ
  have hl : lv_has ls 3 [(0, .ref (a 14)), (1, .int (nI q)), (2, .int (nI f))] := hl
  refine lv_iload_n X.1 X.2.1 jd_D_blockEnd_0 rfl (lv_at hl 2 rfl) ?_
  refine lv_aload_n X.1 X.2.1 jd_D_blockEnd_1 rfl (lv_at hl 0 rfl) ?_
  refine lv_iload_n X.1 X.2.1 jd_D_blockEnd_2 rfl (lv_at hl 1 rfl) ?_
  refine j_run (j_mkV X hP (c_D_blockSize l d D a n g q (by omega) hz2) jU_b (j_pp X hP) jm_425 jm_424 js_22 jm_4 jm_422 (by decide) rfl rfl (show jOk jy_D_blockSize 1 by unfold jOk; decide +kernel) (by decide) ⟨rfl, rfl⟩ hl.1 rfl (Nat.le_of_ble_eq_true rfl) ⟨Nat.zero_le _, Nat.zero_le _⟩ jd_D_blockEnd_3) ?_
  refine W.eq (g2 := F0 m 6 ls [.int (nI (n 14 4 * 2 ^ q)), .int (nI f)]) rfl ?_
  refine kn_iadd X.1 X.2.1 jd_D_blockEnd_6 ?_
  refine lv_aload_n X.1 X.2.1 jd_D_blockEnd_7 rfl (lv_at hl 0 rfl) ?_
  refine jg_D_44_14 X hP jd_D_blockEnd_8 ?_
  refine j_min X jm_430 (by have h2 := bs_le (n := n) (p := q) hz2 hq; omega) hl.1 ⟨by decide, Nat.le_of_ble_eq_true rfl⟩ ⟨Nat.zero_le _, Nat.zero_le _⟩ jd_D_blockEnd_11 ?_
  exact kn_to (by first | rfl | omega | (split <;> omega)) (hQ _ _ jd_D_blockEnd_14)

set_option maxHeartbeats 4000000 in
theorem c_D_isOdd (l : Launch) (d : Nat → Nat) (D : va_G) (a : Nat → Nat) (n : Nat → Nat → Nat) (g : Nat → Nat) (q f t mk : Nat) (hq : q < 4) (hf : f ≤ t) (ht : t ≤ 128) (hm : mk < 128) (ho : ∀ k, k < t → n (20 + q) k < 128) (h01 : ∀ i, n 12 i < 2) (hkn : n (25 + q) mk < 4294967296)  : jPure l d D a n g jy_D_isOdd jb_D_isOdd 5 (some .boolean) { frames := 1, cells := 0, slots := 0, locals := 25 } [.ref (a 14), .int (nI q), .int (nI f), .int (nI t), .int (nI mk)] (some (.int (nI (odF n q f t mk)))) := by
  refine jq_Z (odF_lt _ _ _ _ _) (by decide) (Nat.le_of_ble_eq_true rfl) ?_
  intro p e s m A below meth c ls Q X hP hl hQ
  have hl : lv_has ls 5 [(0, .ref (a 14)), (1, .int (nI q)), (2, .int (nI f)), (3, .int (nI t)), (4, .int (nI mk))] := hl
  refine lv_aload_n X.1 X.2.1 jd_D_isOdd_0 rfl (lv_at hl 0 rfl) ?_
  refine jg_D_23_14 X hP jd_D_isOdd_1 ?_
  refine lv_iload_n X.1 X.2.1 jd_D_isOdd_4 rfl (lv_at hl 1 rfl) ?_
  refine j_aald X hP 24 q (by decide) (by omega) jd_D_isOdd_5 ?_
  refine lv_iload X.1 X.2.1 jd_D_isOdd_6 (lv_at hl 4 rfl) ?_
  refine j_ald X hP (25 + q) mk (by omega) (by rw [jI_kn hq]; omega) (by rw [jI_kn hq]; omega) jd_D_isOdd_8 ?_
  refine lv_aload_n X.1 X.2.1 jd_D_isOdd_9 rfl (lv_at hl 0 rfl) ?_
  refine jg_D_38_14 X hP jd_D_isOdd_10 ?_
  refine lv_aload_n X.1 X.2.1 jd_D_isOdd_13 rfl (lv_at hl 0 rfl) ?_
  refine jg_D_20_14 X hP jd_D_isOdd_14 ?_
  refine lv_iload_n X.1 X.2.1 jd_D_isOdd_17 rfl (lv_at hl 1 rfl) ?_
  refine j_aald X hP 19 q (by decide) (by omega) jd_D_isOdd_18 ?_
  refine lv_iload_n X.1 X.2.1 jd_D_isOdd_19 rfl (lv_at hl 2 rfl) ?_
  refine lv_iload_n X.1 X.2.1 jd_D_isOdd_20 rfl (lv_at hl 3 rfl) ?_
  refine j_run (j_mkN (host := "KeyDistiller") X hP (c_S_parity_7 l d D a n g (20 + q) f t (by omega) (jI_or hq) hf ht ho) jU_b (j_pp X hP) jm_456 jm_455 js_29 jm_2 (by decide +kernel) (by decide) rfl rfl (show jOk jy_S_parity 3 by unfold jOk; decide +kernel) (by decide) ⟨rfl, rfl⟩ hl.1 rfl (Nat.le_of_ble_eq_true rfl) ⟨Nat.zero_le _, Nat.zero_le _⟩ jd_D_isOdd_21) ?_
  refine W.eq (g2 := F0 m 24 ls [.int (nI (parF (n 12) (n (20 + q)) f (t - f))), .int (nI (n (25 + q) mk))]) rfl ?_
  refine kn_ceq X.1 X.2.1 jd_D_isOdd_24 (tgt := 31) (by decide) (⟨hkn, by have := parF_lt (ord := n (20 + q)) (f := f) h01 (t - f); omega⟩) (fun h24 => ?_) (fun h24 => ?_)
  · skip
    refine lv_iconst (v := nI 0) X.1 X.2.1 jd_D_isOdd_31 (by decide) ?_
    exact kn_to (by unfold odF; first | rw [if_pos h24] | rw [if_neg h24]) (hQ _ _ jd_D_isOdd_32)
  · skip
    refine lv_iconst (v := nI 1) X.1 X.2.1 jd_D_isOdd_27 (by decide) ?_
    refine lv_goto X.1 X.2.1 jd_D_isOdd_28 (tgt := 32) (by decide) ?_
    exact kn_to (by unfold odF; first | rw [if_pos h24] | rw [if_neg h24]) (hQ _ _ jd_D_isOdd_32)

set_option maxHeartbeats 4000000 in
theorem c_D_isNewestUnknown (l : Launch) (d : Nat → Nat) (D : va_G) (a : Nat → Nat) (n : Nat → Nat → Nat) (g : Nat → Nat) (q : Nat) (h1 : 1 ≤ n 14 0) (h2 : n 14 0 ≤ 512) (hw : n 29 (n 14 0 - 1) < 2147483648) (hq : n 29 (n 14 0 - 1) / 2 ^ 16 = q) (hq4 : q < 4) (hm : n 14 1 < 128) (hkn : n (25 + q) (n 14 1) < 4294967296) : jPure l d D a n g jy_D_isNewestUnknown jb_D_isNewestUnknown 1 (some .boolean) { frames := 1, cells := 0, slots := 0, locals := 21 } [.ref (a 14)] (some (.int (nI (if n (25 + q) (n 14 1) = 4294967295 then 1 else 0)))) := by
  refine jq_Z (by first | omega | (split <;> omega)) (by decide) (Nat.le_of_ble_eq_true rfl) ?_
  intro p e s m A below meth c ls Q X hP hl hQ
  have hl : lv_has ls 1 [(0, .ref (a 14))] := hl
  refine lv_aload_n X.1 X.2.1 jd_D_isNewestUnknown_0 rfl (lv_at hl 0 rfl) ?_
  refine jg_D_23_14 X hP jd_D_isNewestUnknown_1 ?_
  refine lv_aload_n X.1 X.2.1 jd_D_isNewestUnknown_4 rfl (lv_at hl 0 rfl) ?_
  refine lv_aload_n X.1 X.2.1 jd_D_isNewestUnknown_5 rfl (lv_at hl 0 rfl) ?_
  refine jg_D_82_14 X hP jd_D_isNewestUnknown_6 ?_
  refine j_run (j_mkV X hP (c_D_passOf l d D a n g (n 14 0) h1 h2 hw) jU_b (j_pp X hP) jm_201 jm_200 js_2 jm_4 jm_198 (by decide) rfl rfl (show jOk jy_D_passOf 1 by unfold jOk; decide +kernel) (by decide) ⟨rfl, rfl⟩ hl.1 rfl (Nat.le_of_ble_eq_true rfl) ⟨Nat.zero_le _, Nat.zero_le _⟩ jd_D_isNewestUnknown_9) ?_
  refine W.eq (g2 := F0 m 12 ls [.int (nI (n 29 (n 14 0 - 1) / 2 ^ 16)), .ref (a 24)]) rfl ?_
  refine kn_to (y := q) hq ?_
  refine j_aald X hP 24 q (by decide) (by omega) jd_D_isNewestUnknown_12 ?_
  refine lv_aload_n X.1 X.2.1 jd_D_isNewestUnknown_13 rfl (lv_at hl 0 rfl) ?_
  refine jg_D_89_14 X hP jd_D_isNewestUnknown_14 ?_
  refine j_ald X hP (25 + q) (n 14 1) (by omega) (by rw [jI_kn hq4]; omega) (by rw [jI_kn hq4]; omega) jd_D_isNewestUnknown_17 ?_
  refine lv_iconst (v := nI 4294967295) X.1 X.2.1 jd_D_isNewestUnknown_18 (by decide) ?_
  refine kn_cne X.1 X.2.1 jd_D_isNewestUnknown_19 (tgt := 26) (by decide) (by omega) (fun h19 => ?_) (fun h19 => ?_)
  · skip
    refine lv_iconst (v := nI 0) X.1 X.2.1 jd_D_isNewestUnknown_26 (by decide) ?_
    exact kn_to (by first | rfl | omega | (split <;> omega)) (hQ _ _ jd_D_isNewestUnknown_27)
  · skip
    refine lv_iconst (v := nI 1) X.1 X.2.1 jd_D_isNewestUnknown_22 (by decide) ?_
    refine lv_goto X.1 X.2.1 jd_D_isNewestUnknown_23 (tgt := 27) (by decide) ?_
    exact kn_to (by first | rfl | omega | (split <;> omega)) (hQ _ _ jd_D_isNewestUnknown_27)

set_option maxHeartbeats 4000000 in
theorem c_D_ask (l : Launch) (d : Nat → Nat) (D : va_G) (a : Nat → Nat) (n : Nat → Nat → Nat) (g : Nat → Nat) (hap : ∀ i j : Nat, i < 52 → j < 52 → a i = a j → i = j) (q f t mk : Nat) (hq : q < 4) (hf : f < 128) (ht : t ≤ 128) (h2 : n 14 0 < 512) (hc : n 15 0 < 16) : jEff l d D a n g jy_D_ask jb_D_ask 5 none { frames := 1, cells := 0, slots := 0, locals := 23 } [.ref (a 14), .int (nI q), .int (nI f), .int (nI t), .int (nI mk)] (fun v9 n2 g2 => none = v9 ∧ akF n q f t mk = n2 ∧ g = g2) := by
  refine je_V (by decide) (Nat.le_of_ble_eq_true rfl) ?_
  intro p e s m A below meth c ls Q X hP hS hl hQ
  have hl : lv_has ls 5 [(0, .ref (a 14)), (1, .int (nI q)), (2, .int (nI f)), (3, .int (nI t)), (4, .int (nI mk))] := hl
  refine lv_aload_n X.1 X.2.1 jd_D_ask_0 rfl (lv_at hl 0 rfl) ?_
  refine jg_D_82_14 X hP jd_D_ask_1 ?_
  refine lv_sipush (v := nI 512) X.1 X.2.1 jd_D_ask_4 (by decide) ?_
  refine kn_cne X.1 X.2.1 jd_D_ask_7 (tgt := 11) (by decide) (by omega) (fun h7 => ?_) (fun h7 => absurd h7 (by omega))
  refine lv_aload_n X.1 X.2.1 jd_D_ask_11 rfl (lv_at hl 0 rfl) ?_
  refine jg_D_26_14 X hP jd_D_ask_12 ?_
  refine lv_aload_n X.1 X.2.1 jd_D_ask_15 rfl (lv_at hl 0 rfl) ?_
  refine jg_D_82_14 X hP jd_D_ask_16 ?_
  refine kn_to (y := n 14 0) (rfl) ?_
  refine lv_iload_n X.1 X.2.1 jd_D_ask_19 rfl (lv_at hl 1 rfl) ?_
  refine lv_bipush (v := nI 16) X.1 X.2.1 jd_D_ask_20 (by decide) ?_
  refine lv_ishl X.1 X.2.1 jd_D_ask_22 ?_
  refine kn_is (y := q * 2 ^ 16) (kn_shlA (by omega)) ?_
  refine lv_iload_n X.1 X.2.1 jd_D_ask_23 rfl (lv_at hl 2 rfl) ?_
  refine lv_bipush (v := nI 8) X.1 X.2.1 jd_D_ask_24 (by decide) ?_
  refine lv_ishl X.1 X.2.1 jd_D_ask_26 ?_
  refine kn_is (y := f * 2 ^ 8) (kn_shlB (by omega)) ?_
  refine kn_ior X.1 X.2.1 jd_D_ask_27 ?_
  refine lv_iload_n X.1 X.2.1 jd_D_ask_28 rfl (lv_at hl 3 rfl) ?_
  refine kn_ior X.1 X.2.1 jd_D_ask_29 ?_
  refine j_ast X hap hP hS 29 (n 14 0) (((q * 2 ^ 16) ||| (f * 2 ^ 8)) ||| t) (by decide) (show (n 14 0) < 512 from by omega) (by decide) jd_D_ask_30 (fun H locs hP hS => ?_)
  refine lv_aload_n X.1 X.2.1 jd_D_ask_31 rfl (lv_at hl 0 rfl) ?_
  refine lv_dup X.1 X.2.1 jd_D_ask_32 rfl ?_
  refine jg_D_82_14 X hP jd_D_ask_33 ?_
  refine kn_to (y := n 14 0) (rfl) ?_
  refine lv_iconst (v := nI 1) X.1 X.2.1 jd_D_ask_36 (by decide) ?_
  refine kn_iadd X.1 X.2.1 jd_D_ask_37 ?_
  refine jp_D_82_14 X hap hP hS jd_D_ask_38 (fun H locs hP hS => ?_)
  refine lv_aload_n X.1 X.2.1 jd_D_ask_41 rfl (lv_at hl 0 rfl) ?_
  refine lv_iload X.1 X.2.1 jd_D_ask_42 (lv_at hl 4 rfl) ?_
  refine jp_D_89_14 X hap hP hS jd_D_ask_44 (fun H locs hP hS => ?_)
  refine lv_aload_n X.1 X.2.1 jd_D_ask_47 rfl (lv_at hl 0 rfl) ?_
  refine jg_D_12_14 X hP jd_D_ask_48 ?_
  refine lv_iconst (v := nI 0) X.1 X.2.1 jd_D_ask_51 (by decide) ?_
  refine lv_aload_n X.1 X.2.1 jd_D_ask_52 rfl (lv_at hl 0 rfl) ?_
  refine jg_D_82_14 X hP jd_D_ask_53 ?_
  refine kn_to (y := n 14 0 + 1) (rfl) ?_
  refine lv_iconst (v := nI 0) X.1 X.2.1 jd_D_ask_56 (by decide) ?_
  refine j_rune (j_mkN (host := "KeyDistiller") X hP (c_E_send l d D a (ku (ku (ku n 29 (n 14 0) (((q * 2 ^ 16) ||| (f * 2 ^ 8)) ||| t)) 14 0 ((n 14 0) + 1)) 14 1 mk) g hap 0 (n 14 0 + 1) 0 hc _) jU_bs (j_pe X hP) jm_440 jm_439 js_25 jm_5 (by decide +kernel) (by decide) rfl rfl (show jOk jy_E_send 3 by unfold jOk; decide +kernel) (by decide) ⟨rfl, rfl⟩ hl.1 rfl (Nat.le_of_ble_eq_true rfl) ⟨Nat.zero_le _, Nat.zero_le _⟩ jd_D_ask_57) hS (fun v57 n57 g57 H locs h57 hP hS => ?_)
  obtain ⟨rfl, rfl, rfl⟩ := h57
  refine W.eq (g2 := F0 m 60 ls []) rfl ?_
  exact hQ _ _ _ _ _ _ (⟨rfl, rfl, rfl⟩) hP hS jd_D_ask_60

set_option maxHeartbeats 4000000 in
theorem c_D_ask_f (l : Launch) (d : Nat → Nat) (D : va_G) (a : Nat → Nat) (n : Nat → Nat → Nat) (g : Nat → Nat) (hap : ∀ i j : Nat, i < 52 → j < 52 → a i = a j → i = j) (q f t mk : Nat) (hq : q < 4) (hf : f < 128) (ht : t ≤ 128) (h2 : n 14 0 < 512) (hc : n 15 0 = 16) : jEff l d D a n g jy_D_ask jb_D_ask 5 none { frames := 1, cells := 0, slots := 0, locals := 23 } [.ref (a 14), .int (nI q), .int (nI f), .int (nI t), .int (nI mk)] (fun v9 n2 g2 => none = v9 ∧ akG n q f t mk = n2 ∧ g = g2) := by
  refine je_V (by decide) (Nat.le_of_ble_eq_true rfl) ?_
  intro p e s m A below meth c ls Q X hP hS hl hQ
  have hl : lv_has ls 5 [(0, .ref (a 14)), (1, .int (nI q)), (2, .int (nI f)), (3, .int (nI t)), (4, .int (nI mk))] := hl
  refine lv_aload_n X.1 X.2.1 jd_D_ask_0 rfl (lv_at hl 0 rfl) ?_
  refine jg_D_82_14 X hP jd_D_ask_1 ?_
  refine lv_sipush (v := nI 512) X.1 X.2.1 jd_D_ask_4 (by decide) ?_
  refine kn_cne X.1 X.2.1 jd_D_ask_7 (tgt := 11) (by decide) (by omega) (fun h7 => ?_) (fun h7 => absurd h7 (by omega))
  refine lv_aload_n X.1 X.2.1 jd_D_ask_11 rfl (lv_at hl 0 rfl) ?_
  refine jg_D_26_14 X hP jd_D_ask_12 ?_
  refine lv_aload_n X.1 X.2.1 jd_D_ask_15 rfl (lv_at hl 0 rfl) ?_
  refine jg_D_82_14 X hP jd_D_ask_16 ?_
  refine kn_to (y := n 14 0) (rfl) ?_
  refine lv_iload_n X.1 X.2.1 jd_D_ask_19 rfl (lv_at hl 1 rfl) ?_
  refine lv_bipush (v := nI 16) X.1 X.2.1 jd_D_ask_20 (by decide) ?_
  refine lv_ishl X.1 X.2.1 jd_D_ask_22 ?_
  refine kn_is (y := q * 2 ^ 16) (kn_shlA (by omega)) ?_
  refine lv_iload_n X.1 X.2.1 jd_D_ask_23 rfl (lv_at hl 2 rfl) ?_
  refine lv_bipush (v := nI 8) X.1 X.2.1 jd_D_ask_24 (by decide) ?_
  refine lv_ishl X.1 X.2.1 jd_D_ask_26 ?_
  refine kn_is (y := f * 2 ^ 8) (kn_shlB (by omega)) ?_
  refine kn_ior X.1 X.2.1 jd_D_ask_27 ?_
  refine lv_iload_n X.1 X.2.1 jd_D_ask_28 rfl (lv_at hl 3 rfl) ?_
  refine kn_ior X.1 X.2.1 jd_D_ask_29 ?_
  refine j_ast X hap hP hS 29 (n 14 0) (((q * 2 ^ 16) ||| (f * 2 ^ 8)) ||| t) (by decide) (show (n 14 0) < 512 from by omega) (by decide) jd_D_ask_30 (fun H locs hP hS => ?_)
  refine lv_aload_n X.1 X.2.1 jd_D_ask_31 rfl (lv_at hl 0 rfl) ?_
  refine lv_dup X.1 X.2.1 jd_D_ask_32 rfl ?_
  refine jg_D_82_14 X hP jd_D_ask_33 ?_
  refine kn_to (y := n 14 0) (rfl) ?_
  refine lv_iconst (v := nI 1) X.1 X.2.1 jd_D_ask_36 (by decide) ?_
  refine kn_iadd X.1 X.2.1 jd_D_ask_37 ?_
  refine jp_D_82_14 X hap hP hS jd_D_ask_38 (fun H locs hP hS => ?_)
  refine lv_aload_n X.1 X.2.1 jd_D_ask_41 rfl (lv_at hl 0 rfl) ?_
  refine lv_iload X.1 X.2.1 jd_D_ask_42 (lv_at hl 4 rfl) ?_
  refine jp_D_89_14 X hap hP hS jd_D_ask_44 (fun H locs hP hS => ?_)
  refine lv_aload_n X.1 X.2.1 jd_D_ask_47 rfl (lv_at hl 0 rfl) ?_
  refine jg_D_12_14 X hP jd_D_ask_48 ?_
  refine lv_iconst (v := nI 0) X.1 X.2.1 jd_D_ask_51 (by decide) ?_
  refine lv_aload_n X.1 X.2.1 jd_D_ask_52 rfl (lv_at hl 0 rfl) ?_
  refine jg_D_82_14 X hP jd_D_ask_53 ?_
  refine kn_to (y := n 14 0 + 1) (rfl) ?_
  refine lv_iconst (v := nI 0) X.1 X.2.1 jd_D_ask_56 (by decide) ?_
  refine j_rune (j_mkN (host := "KeyDistiller") X hP (c_E_send_f l d D a (ku (ku (ku n 29 (n 14 0) (((q * 2 ^ 16) ||| (f * 2 ^ 8)) ||| t)) 14 0 ((n 14 0) + 1)) 14 1 mk) g hap 0 (n 14 0 + 1) 0 hc _) jU_bs (j_pe X hP) jm_440 jm_439 js_25 jm_5 (by decide +kernel) (by decide) rfl rfl (show jOk jy_E_send 3 by unfold jOk; decide +kernel) (by decide) ⟨rfl, rfl⟩ hl.1 rfl (Nat.le_of_ble_eq_true rfl) ⟨Nat.zero_le _, Nat.zero_le _⟩ jd_D_ask_57) hS (fun v57 n57 g57 H locs h57 hP hS => ?_)
  obtain ⟨rfl, rfl, rfl⟩ := h57
  refine W.eq (g2 := F0 m 60 ls []) rfl ?_
  exact hQ _ _ _ _ _ _ (⟨rfl, rfl, rfl⟩) hP hS jd_D_ask_60
end
section
/-! pure words: asking, searching, going on -/
def akH (n : Nat → Nat → Nat) (q f t mk : Nat) : Nat → Nat → Nat := sdF (akG n q f t mk) 0 (n 14 0 + 1) 0
/-- the first of the first k blocks whose mark is unknown -/
def fbF (r : Nat → Nat) (b : Nat) : Nat → Option Nat
  | 0 => none
  | k + 1 => match fbF r b k with
    | some j => some j
    | none => if r (k * b) = 4294967295 then some k else none
theorem fb_none {r : Nat → Nat} {b k : Nat} (h : fbF r b k = none) (h2 : ¬ r (k * b) = 4294967295) : fbF r b (k + 1) = none := by
  simp only [fbF, h]
  rw [if_neg h2]
theorem fb_hit {r : Nat → Nat} {b k : Nat} (h : fbF r b k = none) (h2 : r (k * b) = 4294967295) : fbF r b (k + 1) = some k := by
  simp only [fbF, h]
  rw [if_pos h2]
theorem fb_up {r : Nat → Nat} {b k j : Nat} (h : fbF r b k = some j) : ∀ i, fbF r b (k + i) = some j
  | 0 => h
  | i + 1 => by
    show fbF r b (k + i + 1) = some j
    simp only [fbF, fb_up h i]
theorem fb_at {r : Nat → Nat} {b k t : Nat} (hk : k < t) (h : fbF r b k = none) (h2 : r (k * b) = 4294967295) : fbF r b t = some k := by
  have := fb_up (fb_hit h h2) (t - (k + 1))
  rwa [show k + 1 + (t - (k + 1)) = t by omega] at this
def afF (n : Nat → Nat → Nat) (q : Nat) : (Nat → Nat → Nat) × Nat := match fbF (n (25 + q)) (n 14 4 * 2 ^ q) (bcF n q) with
  | some b => (akH n q (b * (n 14 4 * 2 ^ q)) (beF n q (b * (n 14 4 * 2 ^ q))) (b * (n 14 4 * 2 ^ q)), 1)
  | none => (n, 0)
theorem af_some {n : Nat → Nat → Nat} {q b : Nat} (h : fbF (n (25 + q)) (n 14 4 * 2 ^ q) (bcF n q) = some b) : afF n q = (akH n q (b * (n 14 4 * 2 ^ q)) (beF n q (b * (n 14 4 * 2 ^ q))) (b * (n 14 4 * 2 ^ q)), 1) := by
  unfold afF; rw [h]
theorem af_none {n : Nat → Nat → Nat} {q : Nat} (h : fbF (n (25 + q)) (n 14 4 * 2 ^ q) (bcF n q) = none) : afF n q = (n, 0) := by
  unfold afF; rw [h]
theorem blk_lt {n : Nat → Nat → Nat} {q b : Nat} (ht : 4 ≤ n 14 5) (h : b < bcF n q) : b * (n 14 4 * 2 ^ q) < n 14 5 := by
  unfold bcF at h
  have h1 : b ≤ (n 14 5 - 1) / (n 14 4 * 2 ^ q) := by omega
  have h2 := Nat.mul_le_mul_right (n 14 4 * 2 ^ q) h1
  have h3 := Nat.div_mul_le_self (n 14 5 - 1) (n 14 4 * 2 ^ q)
  omega
/-- the smallest odd block: found, and how many places -/
def sbF (n : Nat → Nat → Nat) (q : Nat) (z : Nat × Nat) : Nat → Nat × Nat
  | 0 => z
  | b + 1 => if beF n q (b * (n 14 4 * 2 ^ q)) - b * (n 14 4 * 2 ^ q) < (sbF n q z b).2 then (if odF n q (b * (n 14 4 * 2 ^ q)) (beF n q (b * (n 14 4 * 2 ^ q))) (b * (n 14 4 * 2 ^ q)) = 0 then sbF n q z b else (q * 128 + b * (n 14 4 * 2 ^ q), beF n q (b * (n 14 4 * 2 ^ q)) - b * (n 14 4 * 2 ^ q))) else sbF n q z b
def soF (n : Nat → Nat → Nat) : Nat → Nat × Nat
  | 0 => (4294967295, 129)
  | q + 1 => sbF n q (soF n q) (bcF n q)
theorem be_gt {n : Nat → Nat → Nat} {q f : Nat} (hz : 4 ≤ n 14 4) (h : f < n 14 5) : f < beF n q f := by
  unfold beF
  have := bs_pos (n := n) (p := q) hz
  split <;> omega
theorem be_le {n : Nat → Nat → Nat} {q f : Nat} : beF n q f ≤ n 14 5 := by
  unfold beF
  split <;> omega
theorem sb_ok {n : Nat → Nat → Nat} {q : Nat} {z : Nat × Nat} (hq : q < 4) (ht : 4 ≤ n 14 5) (ht2 : n 14 5 ≤ 128) (hz : z.1 = 4294967295 ∨ z.1 < 512) (hz2 : z.2 ≤ 129) : ∀ b, b ≤ bcF n q → ((sbF n q z b).1 = 4294967295 ∨ (sbF n q z b).1 < 512) ∧ (sbF n q z b).2 ≤ 129
  | 0, _ => ⟨hz, hz2⟩
  | b + 1, hb => by
    have ih := sb_ok hq ht ht2 hz hz2 b (by omega)
    have h1 := blk_lt (n := n) (q := q) (b := b) ht (by omega)
    have h2 := be_le (n := n) (q := q) (f := b * (n 14 4 * 2 ^ q))
    unfold sbF
    split
    · split
      · exact ih
      · refine ⟨Or.inr ?_, ?_⟩
        · show q * 128 + b * (n 14 4 * 2 ^ q) < 512
          omega
        · show beF n q (b * (n 14 4 * 2 ^ q)) - b * (n 14 4 * 2 ^ q) ≤ 129
          omega
    · exact ih
theorem so_ok {n : Nat → Nat → Nat} (ht : 4 ≤ n 14 5) (ht2 : n 14 5 ≤ 128) : ∀ q, q ≤ 4 → ((soF n q).1 = 4294967295 ∨ (soF n q).1 < 512) ∧ (soF n q).2 ≤ 129
  | 0, _ => ⟨Or.inl rfl, Nat.le_refl _⟩
  | q + 1, hq => sb_ok (by omega) ht ht2 (so_ok ht ht2 q (by omega)).1 (so_ok ht ht2 q (by omega)).2 _ (Nat.le_refl _)
/-- halving -/
def mdF (z : Nat × Nat) : Nat := z.1 + (z.2 - z.1 + 1) / 2
def hvF (n : Nat → Nat → Nat) (q : Nat) (z : Nat × Nat) : Nat → Nat × Nat
  | 0 => z
  | k + 1 => if (hvF n q z k).2 - (hvF n q z k).1 ≤ 1 then hvF n q z k else if n (25 + q) (mdF (hvF n q z k)) = 4294967295 then hvF n q z k else if odF n q (hvF n q z k).1 (mdF (hvF n q z k)) (mdF (hvF n q z k)) = 0 then (mdF (hvF n q z k), (hvF n q z k).2) else ((hvF n q z k).1, mdF (hvF n q z k))
def fpF (n : Nat → Nat → Nat) (q f : Nat) : Nat → Nat → Nat := ku n 12 (n (20 + q) f) (n 12 (n (20 + q) f) ^^^ 1)
def srF (n : Nat → Nat → Nat) (q f : Nat) : (Nat → Nat → Nat) × Nat :=
  if (hvF n q (f, beF n q f) 128).2 - (hvF n q (f, beF n q f) 128).1 ≤ 1 then (fpF n q (hvF n q (f, beF n q f) 128).1, 0)
  else (akH n q (hvF n q (f, beF n q f) 128).1 (mdF (hvF n q (f, beF n q f) 128)) (mdF (hvF n q (f, beF n q f) 128)), 1)
theorem hv_s1 {n : Nat → Nat → Nat} {q : Nat} {z : Nat × Nat} {k : Nat} (h : (hvF n q z k).2 - (hvF n q z k).1 ≤ 1 ∨ n (25 + q) (mdF (hvF n q z k)) = 4294967295) : ∀ j, hvF n q z (k + j) = hvF n q z k
  | 0 => rfl
  | j + 1 => by
    have ih := hv_s1 h j
    show hvF n q z (k + j + 1) = _
    simp only [hvF, ih]
    rcases h with h | h
    · rw [if_pos h]
    · rw [if_pos h]; split <;> rfl
theorem hv_128 {n : Nat → Nat → Nat} {q : Nat} {z : Nat × Nat} {k : Nat} (hk : k ≤ 128) (h : (hvF n q z k).2 - (hvF n q z k).1 ≤ 1 ∨ n (25 + q) (mdF (hvF n q z k)) = 4294967295) : hvF n q z 128 = hvF n q z k := by
  have := hv_s1 h (128 - k)
  rwa [show k + (128 - k) = 128 by omega] at this
/-- what holds of a search after k halvings -/
def hvI (z w : Nat × Nat) (k : Nat) : Prop := w.1 < w.2 ∧ w.2 - w.1 + k ≤ 128 ∧ z.1 ≤ w.1 ∧ w.2 ≤ z.2
theorem md_in {w : Nat × Nat} (h : ¬ w.2 - w.1 ≤ 1) : w.1 < mdF w ∧ mdF w < w.2 := by unfold mdF; omega
def mmF (n : Nat → Nat → Nat) : (Nat → Nat → Nat) × Nat :=
  if (soF n (n 14 3 + 1)).1 = 4294967295 then (ku n 14 3 (n 14 3 + 1), 0) else srF n ((soF n (n 14 3 + 1)).1 / 128) ((soF n (n 14 3 + 1)).1 % 128)
def stF (n : Nat → Nat → Nat) : (Nat → Nat → Nat) × Nat := if (afF n (n 14 3)).2 = 0 then mmF n else afF n (n 14 3)
def goF (n : Nat → Nat → Nat) : Nat → (Nat → Nat → Nat) × Nat
  | 0 => (n, 0)
  | k + 1 => if (goF n k).2 = 0 then (if (goF n k).1 14 3 = 4 then goF n k else stF (goF n k).1) else goF n k
theorem bc_le {n : Nat → Nat → Nat} {q : Nat} (hz : 4 ≤ n 14 4) (ht2 : n 14 5 ≤ 128) : bcF n q ≤ 200 := by
  unfold bcF
  have := Nat.div_le_self (n 14 5 - 1) (n 14 4 * 2 ^ q)
  omega
theorem hv_next {n : Nat → Nat → Nat} {q k : Nat} {z : Nat × Nat} (h : hvI z (hvF n q z k) k) (h1 : ¬ (hvF n q z k).2 - (hvF n q z k).1 ≤ 1) (h2 : ¬ n (25 + q) (mdF (hvF n q z k)) = 4294967295) {o : Prop} (_ : o) : hvI z (hvF n q z (k + 1)) (k + 1) := by
  have hm := md_in h1
  unfold hvI at h ⊢
  simp only [hvF]
  rw [if_neg h1, if_neg h2]
  split
  · show mdF (hvF n q z k) < (hvF n q z k).2 ∧ _
    refine ⟨hm.2, ?_, ?_, h.2.2.2⟩
    · show (hvF n q z k).2 - mdF (hvF n q z k) + (k + 1) ≤ 128; omega
    · show z.1 ≤ mdF (hvF n q z k); omega
  · show (hvF n q z k).1 < mdF (hvF n q z k) ∧ _
    refine ⟨hm.1, ?_, h.2.2.1, ?_⟩
    · show mdF (hvF n q z k) - (hvF n q z k).1 + (k + 1) ≤ 128; omega
    · show mdF (hvF n q z k) ≤ z.2; omega
end
section
theorem c_E_sendF (l : Launch) (d : Nat → Nat) (D : va_G) (a : Nat → Nat) (n : Nat → Nat → Nat) (g : Nat → Nat) (hap : ∀ i j : Nat, i < 52 → j < 52 → a i = a j → i = j) (x y z : Nat) (hc : n 15 0 ≤ 16) : jEff l d D a n g jy_E_send jb_E_send 4 none { frames := 0, cells := 0, slots := 0, locals := 0 } [.ref (a 15), .int (nI x), .int (nI y), .int (nI z)] (fun v9 n2 g2 => none = v9 ∧ sdF n x y z = n2 ∧ g = g2) := by
  unfold sdF
  by_cases h : n 15 0 = 16
  · simp only [if_pos h]
    exact c_E_send_f l d D a n g hap x y z h
  · simp only [if_neg h]
    exact c_E_send l d D a n g hap x y z (by omega)
theorem c_D_askF (l : Launch) (d : Nat → Nat) (D : va_G) (a : Nat → Nat) (n : Nat → Nat → Nat) (g : Nat → Nat) (hap : ∀ i j : Nat, i < 52 → j < 52 → a i = a j → i = j) (q f t mk : Nat) (hq : q < 4) (hf : f < 128) (ht : t ≤ 128) (h2 : n 14 0 < 512) (hc : n 15 0 ≤ 16) : jEff l d D a n g jy_D_ask jb_D_ask 5 none { frames := 1, cells := 0, slots := 0, locals := 23 } [.ref (a 14), .int (nI q), .int (nI f), .int (nI t), .int (nI mk)] (fun v9 n2 g2 => none = v9 ∧ akH n q f t mk = n2 ∧ g = g2) := by
  have e : akG n q f t mk 15 0 = n 15 0 := rfl
  unfold akH sdF
  by_cases h : n 15 0 = 16
  · simp only [e, if_pos h]
    exact c_D_ask_f l d D a n g hap q f t mk hq hf ht h2 h
  · simp only [e, if_neg h]
    exact c_D_ask l d D a n g hap q f t mk hq hf ht h2 (by omega)

set_option maxHeartbeats 4000000 in
theorem c_D_askForBlock (l : Launch) (d : Nat → Nat) (D : va_G) (a : Nat → Nat) (n : Nat → Nat → Nat) (g : Nat → Nat) (hap : ∀ i j : Nat, i < 52 → j < 52 → a i = a j → i = j) (q : Nat) (hq : n 14 3 = q) (hq4 : q < 4) (hz : 4 ≤ n 14 4) (hz2 : n 14 4 ≤ 128) (ht : n 14 4 ≤ n 14 5) (ht2 : n 14 5 ≤ 128) (hkn : ∀ p i, p < 4 → n (25 + p) i < 4294967296) (h2 : n 14 0 < 512) (hc : n 15 0 ≤ 16) : jEff l d D a n g jy_D_askForBlock jb_D_askForBlock 4 (some .boolean) { frames := 2, cells := 0, slots := 0, locals := 47 } [.ref (a 14)] (fun v9 n2 g2 => some (.int (nI (afF n q).2)) = v9 ∧ (afF n q).1 = n2 ∧ g = g2) := by
  refine je_Z (by decide) (Nat.le_of_ble_eq_true rfl) ?_
  intro p e s m A below meth c ls Q X hP hS hl hQ
  have hl : lv_has ls 4 [(0, .ref (a 14))] := hl
  refine lv_aload_n X.1 X.2.1 jd_D_askForBlock_0 rfl (lv_at hl 0 rfl) ?_
  refine lv_aload_n X.1 X.2.1 jd_D_askForBlock_1 rfl (lv_at hl 0 rfl) ?_
  refine jg_D_30_14 X hP jd_D_askForBlock_2 ?_
  refine kn_to (y := q) (hq) ?_
  refine j_run (j_mkV X hP (c_D_blockCount l d D a n g q (by omega) hz hz2 ht ht2) jU_b (j_pp X hP) jm_421 jm_420 js_21 jm_4 jm_418 (by decide) rfl rfl (show jOk jy_D_blockCount 1 by unfold jOk; decide +kernel) (by decide) ⟨rfl, rfl⟩ hl.1 rfl (Nat.le_of_ble_eq_true rfl) ⟨Nat.zero_le _, Nat.zero_le _⟩ jd_D_askForBlock_5) ?_
  refine W.eq (g2 := F0 m 8 ls [.int (nI (bcF n q))]) rfl ?_
  refine lv_istore_n X.1 X.2.1 jd_D_askForBlock_8 rfl hl (by decide) rfl (fun ls hl => ?_)
  have hl : lv_has ls 4 [(1, .int (nI (bcF n q))), (0, .ref (a 14))] := hl
  refine lv_iconst (v := nI 0) X.1 X.2.1 jd_D_askForBlock_9 (by decide) ?_
  refine lv_istore_n X.1 X.2.1 jd_D_askForBlock_10 rfl hl (by decide) rfl (fun ls hl => ?_)
  have hl : lv_has ls 4 [(2, .int (nI 0)), (1, .int (nI (bcF n q))), (0, .ref (a 14))] := hl
  have loop11 : ∀ (r k : Nat) (ls : Array Slot), k + r = bcF n q → fbF (n (25 + q)) (n 14 4 * 2 ^ q) k = none → lv_has ls 4 [(2, .int (nI k)), (1, .int (nI (bcF n q))), (0, .ref (a 14))] → W p l e { frames := 2, cells := 0, slots := 0, locals := 47 } s m A below meth c s.heap [] 0 0 Q (F0 m 11 ls []) := by
    intro r
    induction r with
    | zero => 
      intro k ls hk hn hl
      obtain rfl : bcF n q = k := by omega
      refine lv_iload_n X.1 X.2.1 jd_D_askForBlock_11 rfl (lv_at hl 0 rfl) ?_
      refine lv_iload_n X.1 X.2.1 jd_D_askForBlock_12 rfl (lv_at hl 1 rfl) ?_
      refine kn_cge X.1 X.2.1 jd_D_askForBlock_13 (tgt := 69) (by decide) (by have h9 : bcF n q ≤ 200 := bc_le hz ht2; omega) (fun h13 => ?_) (fun h13 => absurd h13 (by omega))
      refine lv_iconst (v := nI 0) X.1 X.2.1 jd_D_askForBlock_69 (by decide) ?_
      exact hQ _ _ _ _ _ _ _ (by decide) (by rw [af_none hn]; exact ⟨rfl, rfl, rfl⟩) hP hS jd_D_askForBlock_70
    | succ r ihr => 
      intro k ls hk hn hl
      refine lv_iload_n X.1 X.2.1 jd_D_askForBlock_11 rfl (lv_at hl 0 rfl) ?_
      refine lv_iload_n X.1 X.2.1 jd_D_askForBlock_12 rfl (lv_at hl 1 rfl) ?_
      refine kn_cge X.1 X.2.1 jd_D_askForBlock_13 (tgt := 69) (by decide) (by have h9 : bcF n q ≤ 200 := bc_le hz ht2; omega) (fun h13 => absurd h13 (by omega)) (fun h13 => ?_)
      refine lv_iload_n X.1 X.2.1 jd_D_askForBlock_16 rfl (lv_at hl 0 rfl) ?_
      refine lv_aload_n X.1 X.2.1 jd_D_askForBlock_17 rfl (lv_at hl 2 rfl) ?_
      refine lv_aload_n X.1 X.2.1 jd_D_askForBlock_18 rfl (lv_at hl 2 rfl) ?_
      refine jg_D_30_14 X hP jd_D_askForBlock_19 ?_
      refine kn_to (y := q) (hq) ?_
      refine j_run (j_mkV X hP (c_D_blockSize l d D a n g q (by omega) hz2) jU_b (j_pp X hP) jm_425 jm_424 js_22 jm_4 jm_422 (by decide) rfl rfl (show jOk jy_D_blockSize 1 by unfold jOk; decide +kernel) (by decide) ⟨rfl, rfl⟩ hl.1 rfl (Nat.le_of_ble_eq_true rfl) ⟨Nat.zero_le _, Nat.zero_le _⟩ jd_D_askForBlock_22) ?_
      refine W.eq (g2 := F0 m 25 ls [.int (nI (n 14 4 * 2 ^ q)), .int (nI k)]) rfl ?_
      refine kn_imul X.1 X.2.1 jd_D_askForBlock_25 ?_
      refine lv_istore_n X.1 X.2.1 jd_D_askForBlock_26 rfl hl (by decide) rfl (fun ls hl => ?_)
      have hl : lv_has ls 4 [(3, .int (nI (k * (n 14 4 * 2 ^ q)))), (2, .int (nI k)), (1, .int (nI (bcF n q))), (0, .ref (a 14))] := hl
      refine lv_aload_n X.1 X.2.1 jd_D_askForBlock_27 rfl (lv_at hl 3 rfl) ?_
      refine jg_D_23_14 X hP jd_D_askForBlock_28 ?_
      refine lv_aload_n X.1 X.2.1 jd_D_askForBlock_31 rfl (lv_at hl 3 rfl) ?_
      refine jg_D_30_14 X hP jd_D_askForBlock_32 ?_
      refine kn_to (y := q) (hq) ?_
      refine j_aald X hP 24 q (by decide) (by omega) jd_D_askForBlock_35 ?_
      refine lv_iload_n X.1 X.2.1 jd_D_askForBlock_36 rfl (lv_at hl 0 rfl) ?_
      refine j_ald X hP (25 + q) (k * (n 14 4 * 2 ^ q)) (by omega) (by rw [jI_kn hq4]; have h9 := blk_lt (n := n) (q := q) (b := k) (by omega) (by omega); omega) (by rw [jI_kn hq4]; decide) jd_D_askForBlock_37 ?_
      refine lv_iconst (v := nI 4294967295) X.1 X.2.1 jd_D_askForBlock_38 (by decide) ?_
      refine kn_cne X.1 X.2.1 jd_D_askForBlock_39 (tgt := 63) (by decide) (⟨hkn _ _ hq4, by decide⟩) (fun h39 => ?_) (fun h39 => ?_)
      · skip
        refine lv_iinc (k := 1) (v := nI (k + 1)) X.1 X.2.1 jd_D_askForBlock_63 hl rfl (kn_inc _) (by decide) rfl (fun ls hl => ?_)
        have hl : lv_has ls 4 [(2, .int (nI (k + 1))), (3, .int (nI (k * (n 14 4 * 2 ^ q)))), (1, .int (nI (bcF n q))), (0, .ref (a 14))] := hl
        refine lv_goto X.1 X.2.1 jd_D_askForBlock_66 (tgt := 11) (by decide) ?_
        have hl : lv_has ls 4 [(2, .int (nI (k + 1))), (1, .int (nI (bcF n q))), (0, .ref (a 14))] := lv_sub hl [0, 2, 3] rfl
        exact ihr (k + 1) ls (by omega) (fb_none hn h39) hl
      · skip
        refine lv_aload_n X.1 X.2.1 jd_D_askForBlock_42 rfl (lv_at hl 3 rfl) ?_
        refine lv_aload_n X.1 X.2.1 jd_D_askForBlock_43 rfl (lv_at hl 3 rfl) ?_
        refine jg_D_30_14 X hP jd_D_askForBlock_44 ?_
        refine kn_to (y := q) (hq) ?_
        refine lv_iload_n X.1 X.2.1 jd_D_askForBlock_47 rfl (lv_at hl 0 rfl) ?_
        refine lv_aload_n X.1 X.2.1 jd_D_askForBlock_48 rfl (lv_at hl 3 rfl) ?_
        refine lv_aload_n X.1 X.2.1 jd_D_askForBlock_49 rfl (lv_at hl 3 rfl) ?_
        refine jg_D_30_14 X hP jd_D_askForBlock_50 ?_
        refine kn_to (y := q) (hq) ?_
        refine lv_iload_n X.1 X.2.1 jd_D_askForBlock_53 rfl (lv_at hl 0 rfl) ?_
        refine j_run (j_mkV X hP (c_D_blockEnd l d D a n g q (k * (n 14 4 * 2 ^ q)) (by omega) (by have h9 := blk_lt (n := n) (q := q) (b := k) (by omega) (by omega); omega) hz hz2 ht ht2) jU_b (j_pp X hP) jm_429 jm_428 js_23 jm_4 jm_426 (by decide) rfl rfl (show jOk jy_D_blockEnd 2 by unfold jOk; decide +kernel) (by decide) ⟨rfl, rfl⟩ hl.1 rfl (Nat.le_of_ble_eq_true rfl) ⟨Nat.zero_le _, Nat.zero_le _⟩ jd_D_askForBlock_54) ?_
        refine W.eq (g2 := F0 m 57 ls [.int (nI (beF n q (k * (n 14 4 * 2 ^ q)))), .int (nI (k * (n 14 4 * 2 ^ q))), .int (nI q), .ref (a 14)]) rfl ?_
        refine lv_iload_n X.1 X.2.1 jd_D_askForBlock_57 rfl (lv_at hl 0 rfl) ?_
        refine j_rune (j_mkV X hP (c_D_askF l d D a n g hap q (k * (n 14 4 * 2 ^ q)) (beF n q (k * (n 14 4 * 2 ^ q))) (k * (n 14 4 * 2 ^ q)) hq4 (by have h9 := blk_lt (n := n) (q := q) (b := k) (by omega) (by omega); omega) (by have h9 := be_le (n := n) (q := q) (f := (k * (n 14 4 * 2 ^ q))); omega) h2 hc _) jU_bs (j_pe X hP) jm_436 jm_435 js_24 jm_4 jm_433 (by decide) rfl rfl (show jOk jy_D_ask 4 by unfold jOk; decide +kernel) (by decide) ⟨rfl, rfl⟩ hl.1 rfl (Nat.le_of_ble_eq_true rfl) ⟨Nat.zero_le _, Nat.zero_le _⟩ jd_D_askForBlock_58) hS (fun v58 n58 g58 H locs h58 hP hS => ?_)
        obtain ⟨rfl, rfl, rfl⟩ := h58
        refine W.eq (g2 := F0 m 61 ls []) rfl ?_
        refine lv_iconst (v := nI 1) X.1 X.2.1 jd_D_askForBlock_61 (by decide) ?_
        exact hQ _ _ _ _ _ _ _ (by decide) (by have e := af_some (fb_at (by omega) hn h39); rw [e]; exact ⟨rfl, rfl, rfl⟩) hP hS jd_D_askForBlock_62
  have hl : lv_has ls 4 [(2, .int (nI 0)), (1, .int (nI (bcF n q))), (0, .ref (a 14))] := lv_sub hl [0, 1, 2] rfl
  exact loop11 (bcF n q) 0 ls (by omega) (rfl) hl

set_option maxHeartbeats 4000000 in
theorem c_D_smallestOddBlock (l : Launch) (d : Nat → Nat) (D : va_G) (a : Nat → Nat) (n : Nat → Nat → Nat) (g : Nat → Nat) (q : Nat) (hq : n 14 3 = q) (hq4 : q < 4) (hz : 4 ≤ n 14 4) (hz2 : n 14 4 ≤ 128) (ht : n 14 4 ≤ n 14 5) (ht2 : n 14 5 ≤ 128) (hkn : ∀ p i, p < 4 → n (25 + p) i < 4294967296) (ho : ∀ p i, p < 4 → i < n 14 5 → n (20 + p) i < 128) (h01 : ∀ i, n 12 i < 2)  : jPure l d D a n g jy_D_smallestOddBlock jb_D_smallestOddBlock 8 (some .int) { frames := 2, cells := 0, slots := 0, locals := 49 } [.ref (a 14)] (some (.int (nI ((soF n (q + 1)).1)))) := by
  refine jq_I (by decide) (Nat.le_of_ble_eq_true rfl) ?_
  intro p e s m A below meth c ls Q X hP hl hQ
  have hl : lv_has ls 8 [(0, .ref (a 14))] := hl
  refine lv_iconst (v := nI 4294967295) X.1 X.2.1 jd_D_smallestOddBlock_0 (by decide) ?_
  refine lv_istore_n X.1 X.2.1 jd_D_smallestOddBlock_1 rfl hl (by decide) rfl (fun ls hl => ?_)
  have hl : lv_has ls 8 [(1, .int (nI 4294967295)), (0, .ref (a 14))] := hl
  refine lv_sipush (v := nI 129) X.1 X.2.1 jd_D_smallestOddBlock_2 (by decide) ?_
  refine lv_istore_n X.1 X.2.1 jd_D_smallestOddBlock_5 rfl hl (by decide) rfl (fun ls hl => ?_)
  have hl : lv_has ls 8 [(2, .int (nI 129)), (1, .int (nI 4294967295)), (0, .ref (a 14))] := hl
  refine lv_iconst (v := nI 0) X.1 X.2.1 jd_D_smallestOddBlock_6 (by decide) ?_
  refine lv_istore_n X.1 X.2.1 jd_D_smallestOddBlock_7 rfl hl (by decide) rfl (fun ls hl => ?_)
  have hl : lv_has ls 8 [(3, .int (nI 0)), (2, .int (nI 129)), (1, .int (nI 4294967295)), (0, .ref (a 14))] := hl
  have loop8 : ∀ (rA p9 : Nat) (ls : Array Slot), p9 + rA = q + 1 → lv_has ls 8 [(3, .int (nI p9)), (1, .int (nI ((soF n p9).1))), (2, .int (nI ((soF n p9).2))), (0, .ref (a 14))] → W p l e { frames := 2, cells := 0, slots := 0, locals := 49 } s m A below meth c s.heap [] 0 0 Q (F0 m 8 ls []) := by
    intro rA
    induction rA with
    | zero => 
      intro p9 ls hp9 hl
      obtain rfl : q + 1 = p9 := by omega
      refine lv_iload_n X.1 X.2.1 jd_D_smallestOddBlock_8 rfl (lv_at hl 0 rfl) ?_
      refine lv_aload_n X.1 X.2.1 jd_D_smallestOddBlock_9 rfl (lv_at hl 3 rfl) ?_
      refine jg_D_30_14 X hP jd_D_smallestOddBlock_10 ?_
      refine kn_to (y := q) (hq) ?_
      refine kn_cgt X.1 X.2.1 jd_D_smallestOddBlock_13 (tgt := 102) (by decide) (by omega) (fun h13 => ?_) (fun h13 => absurd h13 (by omega))
      refine lv_iload_n X.1 X.2.1 jd_D_smallestOddBlock_102 rfl (lv_at hl 1 rfl) ?_
      exact kn_to (by first | rfl | omega | (split <;> omega)) (hQ _ _ jd_D_smallestOddBlock_103)
    | succ rA ihrA => 
      intro p9 ls hp9 hl
      refine lv_iload_n X.1 X.2.1 jd_D_smallestOddBlock_8 rfl (lv_at hl 0 rfl) ?_
      refine lv_aload_n X.1 X.2.1 jd_D_smallestOddBlock_9 rfl (lv_at hl 3 rfl) ?_
      refine jg_D_30_14 X hP jd_D_smallestOddBlock_10 ?_
      refine kn_to (y := q) (hq) ?_
      refine kn_cgt X.1 X.2.1 jd_D_smallestOddBlock_13 (tgt := 102) (by decide) (by omega) (fun h13 => absurd h13 (by omega)) (fun h13 => ?_)
      refine lv_aload_n X.1 X.2.1 jd_D_smallestOddBlock_16 rfl (lv_at hl 3 rfl) ?_
      refine lv_iload_n X.1 X.2.1 jd_D_smallestOddBlock_17 rfl (lv_at hl 0 rfl) ?_
      refine j_run (j_mkV X hP (c_D_blockCount l d D a n g p9 (by omega) hz hz2 ht ht2) jU_b (j_pp X hP) jm_421 jm_420 js_21 jm_4 jm_418 (by decide) rfl rfl (show jOk jy_D_blockCount 1 by unfold jOk; decide +kernel) (by decide) ⟨rfl, rfl⟩ hl.1 rfl (Nat.le_of_ble_eq_true rfl) ⟨Nat.zero_le _, Nat.zero_le _⟩ jd_D_smallestOddBlock_18) ?_
      refine W.eq (g2 := F0 m 21 ls [.int (nI (bcF n p9))]) rfl ?_
      refine lv_istore X.1 X.2.1 jd_D_smallestOddBlock_21 hl (by decide) rfl (fun ls hl => ?_)
      have hl : lv_has ls 8 [(4, .int (nI (bcF n p9))), (3, .int (nI p9)), (1, .int (nI ((soF n p9).1))), (2, .int (nI ((soF n p9).2))), (0, .ref (a 14))] := hl
      refine lv_iconst (v := nI 0) X.1 X.2.1 jd_D_smallestOddBlock_23 (by decide) ?_
      refine lv_istore X.1 X.2.1 jd_D_smallestOddBlock_24 hl (by decide) rfl (fun ls hl => ?_)
      have hl : lv_has ls 8 [(5, .int (nI 0)), (4, .int (nI (bcF n p9))), (3, .int (nI p9)), (1, .int (nI ((soF n p9).1))), (2, .int (nI ((soF n p9).2))), (0, .ref (a 14))] := hl
      have loopB : ∀ (rB k : Nat) (ls : Array Slot), k + rB = bcF n p9 → lv_has ls 8 [(5, .int (nI k)), (4, .int (nI (bcF n p9))), (1, .int (nI ((sbF n p9 (soF n p9) k).1))), (2, .int (nI ((sbF n p9 (soF n p9) k).2))), (3, .int (nI p9)), (0, .ref (a 14))] → W p l e { frames := 2, cells := 0, slots := 0, locals := 49 } s m A below meth c s.heap [] 0 0 Q (F0 m 26 ls []) := by
        intro rB
        induction rB with
        | zero => 
          intro k ls hk hl
          obtain rfl : bcF n p9 = k := by omega
          refine lv_iload X.1 X.2.1 jd_D_smallestOddBlock_26 (lv_at hl 0 rfl) ?_
          refine lv_iload X.1 X.2.1 jd_D_smallestOddBlock_28 (lv_at hl 1 rfl) ?_
          refine kn_cge X.1 X.2.1 jd_D_smallestOddBlock_30 (tgt := 96) (by decide) (by have h9 : bcF n p9 ≤ 200 := bc_le hz ht2; omega) (fun h30 => ?_) (fun h30 => absurd h30 (by omega))
          refine lv_iinc (k := 4) (v := nI (p9 + 1)) X.1 X.2.1 jd_D_smallestOddBlock_96 hl rfl (kn_inc _) (by decide) rfl (fun ls hl => ?_)
          have hl : lv_has ls 8 [(3, .int (nI (p9 + 1))), (5, .int (nI (bcF n p9))), (4, .int (nI (bcF n p9))), (1, .int (nI ((sbF n p9 (soF n p9) (bcF n p9)).1))), (2, .int (nI ((sbF n p9 (soF n p9) (bcF n p9)).2))), (0, .ref (a 14))] := hl
          refine lv_goto X.1 X.2.1 jd_D_smallestOddBlock_99 (tgt := 8) (by decide) ?_
          have hl : lv_has ls 8 [(3, .int (nI (p9 + 1))), (1, .int (nI ((soF n (p9 + 1)).1))), (2, .int (nI ((soF n (p9 + 1)).2))), (0, .ref (a 14))] := lv_sub hl [0, 3, 4, 5] rfl
          exact ihrA (p9 + 1) ls (by omega) hl
        | succ rB ihrB => 
          intro k ls hk hl
          refine lv_iload X.1 X.2.1 jd_D_smallestOddBlock_26 (lv_at hl 0 rfl) ?_
          refine lv_iload X.1 X.2.1 jd_D_smallestOddBlock_28 (lv_at hl 1 rfl) ?_
          refine kn_cge X.1 X.2.1 jd_D_smallestOddBlock_30 (tgt := 96) (by decide) (by have h9 : bcF n p9 ≤ 200 := bc_le hz ht2; omega) (fun h30 => absurd h30 (by omega)) (fun h30 => ?_)
          refine lv_iload X.1 X.2.1 jd_D_smallestOddBlock_33 (lv_at hl 0 rfl) ?_
          refine lv_aload_n X.1 X.2.1 jd_D_smallestOddBlock_35 rfl (lv_at hl 5 rfl) ?_
          refine lv_iload_n X.1 X.2.1 jd_D_smallestOddBlock_36 rfl (lv_at hl 4 rfl) ?_
          refine j_run (j_mkV X hP (c_D_blockSize l d D a n g p9 (by omega) hz2) jU_b (j_pp X hP) jm_425 jm_424 js_22 jm_4 jm_422 (by decide) rfl rfl (show jOk jy_D_blockSize 1 by unfold jOk; decide +kernel) (by decide) ⟨rfl, rfl⟩ hl.1 rfl (Nat.le_of_ble_eq_true rfl) ⟨Nat.zero_le _, Nat.zero_le _⟩ jd_D_smallestOddBlock_37) ?_
          refine W.eq (g2 := F0 m 40 ls [.int (nI (n 14 4 * 2 ^ p9)), .int (nI k)]) rfl ?_
          refine kn_imul X.1 X.2.1 jd_D_smallestOddBlock_40 ?_
          refine lv_istore X.1 X.2.1 jd_D_smallestOddBlock_41 hl (by decide) rfl (fun ls hl => ?_)
          have hl : lv_has ls 8 [(6, .int (nI (k * (n 14 4 * 2 ^ p9)))), (5, .int (nI k)), (4, .int (nI (bcF n p9))), (1, .int (nI ((sbF n p9 (soF n p9) k).1))), (2, .int (nI ((sbF n p9 (soF n p9) k).2))), (3, .int (nI p9)), (0, .ref (a 14))] := hl
          refine lv_aload_n X.1 X.2.1 jd_D_smallestOddBlock_43 rfl (lv_at hl 6 rfl) ?_
          refine lv_iload_n X.1 X.2.1 jd_D_smallestOddBlock_44 rfl (lv_at hl 5 rfl) ?_
          refine lv_iload X.1 X.2.1 jd_D_smallestOddBlock_45 (lv_at hl 0 rfl) ?_
          refine j_run (j_mkV X hP (c_D_blockEnd l d D a n g p9 (k * (n 14 4 * 2 ^ p9)) (by omega) (by have h9 := blk_lt (n := n) (q := p9) (b := k) (by omega) (by omega); omega) hz hz2 ht ht2) jU_b (j_pp X hP) jm_429 jm_428 js_23 jm_4 jm_426 (by decide) rfl rfl (show jOk jy_D_blockEnd 2 by unfold jOk; decide +kernel) (by decide) ⟨rfl, rfl⟩ hl.1 rfl (Nat.le_of_ble_eq_true rfl) ⟨Nat.zero_le _, Nat.zero_le _⟩ jd_D_smallestOddBlock_47) ?_
          refine W.eq (g2 := F0 m 50 ls [.int (nI (beF n p9 (k * (n 14 4 * 2 ^ p9))))]) rfl ?_
          refine lv_istore X.1 X.2.1 jd_D_smallestOddBlock_50 hl (by decide) rfl (fun ls hl => ?_)
          have hl : lv_has ls 8 [(7, .int (nI (beF n p9 (k * (n 14 4 * 2 ^ p9))))), (6, .int (nI (k * (n 14 4 * 2 ^ p9)))), (5, .int (nI k)), (4, .int (nI (bcF n p9))), (1, .int (nI ((sbF n p9 (soF n p9) k).1))), (2, .int (nI ((sbF n p9 (soF n p9) k).2))), (3, .int (nI p9)), (0, .ref (a 14))] := hl
          refine lv_iload X.1 X.2.1 jd_D_smallestOddBlock_52 (lv_at hl 0 rfl) ?_
          refine lv_iload X.1 X.2.1 jd_D_smallestOddBlock_54 (lv_at hl 1 rfl) ?_
          refine kn_isub X.1 X.2.1 jd_D_smallestOddBlock_56 (by have h9 := blk_lt (n := n) (q := p9) (b := k) (by omega) (by omega); have h8 := be_gt (n := n) (q := p9) (f := (k * (n 14 4 * 2 ^ p9))) hz (by omega); omega) ?_
          refine lv_iload_n X.1 X.2.1 jd_D_smallestOddBlock_57 rfl (lv_at hl 5 rfl) ?_
          refine kn_cge X.1 X.2.1 jd_D_smallestOddBlock_58 (tgt := 90) (by decide) (by have h9 := be_le (n := n) (q := p9) (f := (k * (n 14 4 * 2 ^ p9))); have h8 := (sb_ok (n := n) (q := p9) (z := soF n p9) (by omega) (by omega) ht2 (so_ok (by omega) ht2 p9 (by omega)).1 (so_ok (by omega) ht2 p9 (by omega)).2 k (by omega)).2; omega) (fun h58 => ?_) (fun h58 => ?_)
          · skip
            refine lv_iinc (k := 2) (v := nI (k + 1)) X.1 X.2.1 jd_D_smallestOddBlock_90 hl rfl (kn_inc _) (by decide) rfl (fun ls hl => ?_)
            have hl : lv_has ls 8 [(5, .int (nI (k + 1))), (7, .int (nI (beF n p9 (k * (n 14 4 * 2 ^ p9))))), (6, .int (nI (k * (n 14 4 * 2 ^ p9)))), (4, .int (nI (bcF n p9))), (1, .int (nI ((sbF n p9 (soF n p9) k).1))), (2, .int (nI ((sbF n p9 (soF n p9) k).2))), (3, .int (nI p9)), (0, .ref (a 14))] := hl
            refine lv_goto X.1 X.2.1 jd_D_smallestOddBlock_93 (tgt := 26) (by decide) ?_
            have hl : lv_has ls 8 [(5, .int (nI (k + 1))), (4, .int (nI (bcF n p9))), (1, .int (nI ((sbF n p9 (soF n p9) (k + 1)).1))), (2, .int (nI ((sbF n p9 (soF n p9) (k + 1)).2))), (3, .int (nI p9)), (0, .ref (a 14))] := by first | exact lv_sub hl [0, 3, 4, 5, 6, 7] rfl | (simp only [sbF]; first | (rw [if_pos (by first | exact h58 | omega)]; rw [if_pos (by first | exact h72 | omega)]; exact lv_sub hl [0, 3, 4, 5, 6, 7] rfl) | (rw [if_pos (by first | exact h58 | omega)]; rw [if_neg (by first | exact h72 | omega)]; exact lv_sub hl [0, 3, 4, 5, 6, 7] rfl) | (rw [if_neg (by first | exact h58 | omega)]; rw [if_pos (by first | exact h72 | omega)]; exact lv_sub hl [0, 3, 4, 5, 6, 7] rfl) | (rw [if_neg (by first | exact h58 | omega)]; rw [if_neg (by first | exact h72 | omega)]; exact lv_sub hl [0, 3, 4, 5, 6, 7] rfl) | (rw [if_pos (by first | exact h58 | omega)]; exact lv_sub hl [0, 3, 4, 5, 6, 7] rfl) | (rw [if_neg (by first | exact h58 | omega)]; exact lv_sub hl [0, 3, 4, 5, 6, 7] rfl))
            exact ihrB (k + 1) ls (by omega) hl
          · skip
            refine lv_aload_n X.1 X.2.1 jd_D_smallestOddBlock_61 rfl (lv_at hl 7 rfl) ?_
            refine lv_iload_n X.1 X.2.1 jd_D_smallestOddBlock_62 rfl (lv_at hl 6 rfl) ?_
            refine lv_iload X.1 X.2.1 jd_D_smallestOddBlock_63 (lv_at hl 1 rfl) ?_
            refine lv_iload X.1 X.2.1 jd_D_smallestOddBlock_65 (lv_at hl 0 rfl) ?_
            refine lv_iload X.1 X.2.1 jd_D_smallestOddBlock_67 (lv_at hl 1 rfl) ?_
            refine j_run (j_mkV X hP (c_D_isOdd l d D a n g p9 (k * (n 14 4 * 2 ^ p9)) (beF n p9 (k * (n 14 4 * 2 ^ p9))) (k * (n 14 4 * 2 ^ p9)) (by omega) (by have h9 := blk_lt (n := n) (q := p9) (b := k) (by omega) (by omega); have h8 := be_gt (n := n) (q := p9) (f := (k * (n 14 4 * 2 ^ p9))) hz (by omega); omega) (by have h9 := be_le (n := n) (q := p9) (f := (k * (n 14 4 * 2 ^ p9))); omega) (by have h9 := blk_lt (n := n) (q := p9) (b := k) (by omega) (by omega); omega) (fun i hi => ho _ _ (by omega) (by have h9 := be_le (n := n) (q := p9) (f := (k * (n 14 4 * 2 ^ p9))); omega)) h01 (hkn _ _ (by omega))) jU_b (j_pp X hP) jm_452 jm_451 js_28 jm_4 jm_449 (by decide) rfl rfl (show jOk jy_D_isOdd 4 by unfold jOk; decide +kernel) (by decide) ⟨rfl, rfl⟩ hl.1 rfl (Nat.le_of_ble_eq_true rfl) ⟨Nat.zero_le _, Nat.zero_le _⟩ jd_D_smallestOddBlock_69) ?_
            refine W.eq (g2 := F0 m 72 ls [.int (nI (odF n p9 (k * (n 14 4 * 2 ^ p9)) (beF n p9 (k * (n 14 4 * 2 ^ p9))) (k * (n 14 4 * 2 ^ p9))))]) rfl ?_
            refine kn_eq0 X.1 X.2.1 jd_D_smallestOddBlock_72 (tgt := 90) (by decide) (by have h9 := odF_lt n p9 (k * (n 14 4 * 2 ^ p9)) (beF n p9 (k * (n 14 4 * 2 ^ p9))) (k * (n 14 4 * 2 ^ p9)); omega) (fun h72 => ?_) (fun h72 => ?_)
            · skip
              refine lv_iinc (k := 2) (v := nI (k + 1)) X.1 X.2.1 jd_D_smallestOddBlock_90 hl rfl (kn_inc _) (by decide) rfl (fun ls hl => ?_)
              have hl : lv_has ls 8 [(5, .int (nI (k + 1))), (7, .int (nI (beF n p9 (k * (n 14 4 * 2 ^ p9))))), (6, .int (nI (k * (n 14 4 * 2 ^ p9)))), (4, .int (nI (bcF n p9))), (1, .int (nI ((sbF n p9 (soF n p9) k).1))), (2, .int (nI ((sbF n p9 (soF n p9) k).2))), (3, .int (nI p9)), (0, .ref (a 14))] := hl
              refine lv_goto X.1 X.2.1 jd_D_smallestOddBlock_93 (tgt := 26) (by decide) ?_
              have hl : lv_has ls 8 [(5, .int (nI (k + 1))), (4, .int (nI (bcF n p9))), (1, .int (nI ((sbF n p9 (soF n p9) (k + 1)).1))), (2, .int (nI ((sbF n p9 (soF n p9) (k + 1)).2))), (3, .int (nI p9)), (0, .ref (a 14))] := by first | exact lv_sub hl [0, 3, 4, 5, 6, 7] rfl | (simp only [sbF]; first | (rw [if_pos (by first | exact h58 | omega)]; rw [if_pos (by first | exact h72 | omega)]; exact lv_sub hl [0, 3, 4, 5, 6, 7] rfl) | (rw [if_pos (by first | exact h58 | omega)]; rw [if_neg (by first | exact h72 | omega)]; exact lv_sub hl [0, 3, 4, 5, 6, 7] rfl) | (rw [if_neg (by first | exact h58 | omega)]; rw [if_pos (by first | exact h72 | omega)]; exact lv_sub hl [0, 3, 4, 5, 6, 7] rfl) | (rw [if_neg (by first | exact h58 | omega)]; rw [if_neg (by first | exact h72 | omega)]; exact lv_sub hl [0, 3, 4, 5, 6, 7] rfl) | (rw [if_pos (by first | exact h58 | omega)]; exact lv_sub hl [0, 3, 4, 5, 6, 7] rfl) | (rw [if_neg (by first | exact h58 | omega)]; exact lv_sub hl [0, 3, 4, 5, 6, 7] rfl))
              exact ihrB (k + 1) ls (by omega) hl
            · skip
              refine lv_iload_n X.1 X.2.1 jd_D_smallestOddBlock_75 rfl (lv_at hl 6 rfl) ?_
              refine lv_sipush (v := nI 128) X.1 X.2.1 jd_D_smallestOddBlock_76 (by decide) ?_
              refine kn_imul X.1 X.2.1 jd_D_smallestOddBlock_79 ?_
              refine lv_iload X.1 X.2.1 jd_D_smallestOddBlock_80 (lv_at hl 1 rfl) ?_
              refine kn_iadd X.1 X.2.1 jd_D_smallestOddBlock_82 ?_
              refine lv_istore_n X.1 X.2.1 jd_D_smallestOddBlock_83 rfl hl (by decide) rfl (fun ls hl => ?_)
              have hl : lv_has ls 8 [(1, .int (nI ((p9 * 128) + (k * (n 14 4 * 2 ^ p9))))), (7, .int (nI (beF n p9 (k * (n 14 4 * 2 ^ p9))))), (6, .int (nI (k * (n 14 4 * 2 ^ p9)))), (5, .int (nI k)), (4, .int (nI (bcF n p9))), (2, .int (nI ((sbF n p9 (soF n p9) k).2))), (3, .int (nI p9)), (0, .ref (a 14))] := hl
              refine lv_iload X.1 X.2.1 jd_D_smallestOddBlock_84 (lv_at hl 1 rfl) ?_
              refine lv_iload X.1 X.2.1 jd_D_smallestOddBlock_86 (lv_at hl 2 rfl) ?_
              refine kn_isub X.1 X.2.1 jd_D_smallestOddBlock_88 (by have h9 := blk_lt (n := n) (q := p9) (b := k) (by omega) (by omega); have h8 := be_gt (n := n) (q := p9) (f := (k * (n 14 4 * 2 ^ p9))) hz (by omega); omega) ?_
              refine lv_istore_n X.1 X.2.1 jd_D_smallestOddBlock_89 rfl hl (by decide) rfl (fun ls hl => ?_)
              have hl : lv_has ls 8 [(2, .int (nI ((beF n p9 (k * (n 14 4 * 2 ^ p9))) - (k * (n 14 4 * 2 ^ p9))))), (1, .int (nI ((p9 * 128) + (k * (n 14 4 * 2 ^ p9))))), (7, .int (nI (beF n p9 (k * (n 14 4 * 2 ^ p9))))), (6, .int (nI (k * (n 14 4 * 2 ^ p9)))), (5, .int (nI k)), (4, .int (nI (bcF n p9))), (3, .int (nI p9)), (0, .ref (a 14))] := hl
              refine lv_iinc (k := 4) (v := nI (k + 1)) X.1 X.2.1 jd_D_smallestOddBlock_90 hl rfl (kn_inc _) (by decide) rfl (fun ls hl => ?_)
              have hl : lv_has ls 8 [(5, .int (nI (k + 1))), (2, .int (nI ((beF n p9 (k * (n 14 4 * 2 ^ p9))) - (k * (n 14 4 * 2 ^ p9))))), (1, .int (nI ((p9 * 128) + (k * (n 14 4 * 2 ^ p9))))), (7, .int (nI (beF n p9 (k * (n 14 4 * 2 ^ p9))))), (6, .int (nI (k * (n 14 4 * 2 ^ p9)))), (4, .int (nI (bcF n p9))), (3, .int (nI p9)), (0, .ref (a 14))] := hl
              refine lv_goto X.1 X.2.1 jd_D_smallestOddBlock_93 (tgt := 26) (by decide) ?_
              have hl : lv_has ls 8 [(5, .int (nI (k + 1))), (4, .int (nI (bcF n p9))), (1, .int (nI ((sbF n p9 (soF n p9) (k + 1)).1))), (2, .int (nI ((sbF n p9 (soF n p9) (k + 1)).2))), (3, .int (nI p9)), (0, .ref (a 14))] := by first | exact lv_sub hl [0, 5, 2, 1, 6, 7] rfl | (simp only [sbF]; first | (rw [if_pos (by first | exact h58 | omega)]; rw [if_pos (by first | exact h72 | omega)]; exact lv_sub hl [0, 5, 2, 1, 6, 7] rfl) | (rw [if_pos (by first | exact h58 | omega)]; rw [if_neg (by first | exact h72 | omega)]; exact lv_sub hl [0, 5, 2, 1, 6, 7] rfl) | (rw [if_neg (by first | exact h58 | omega)]; rw [if_pos (by first | exact h72 | omega)]; exact lv_sub hl [0, 5, 2, 1, 6, 7] rfl) | (rw [if_neg (by first | exact h58 | omega)]; rw [if_neg (by first | exact h72 | omega)]; exact lv_sub hl [0, 5, 2, 1, 6, 7] rfl) | (rw [if_pos (by first | exact h58 | omega)]; exact lv_sub hl [0, 5, 2, 1, 6, 7] rfl) | (rw [if_neg (by first | exact h58 | omega)]; exact lv_sub hl [0, 5, 2, 1, 6, 7] rfl))
              exact ihrB (k + 1) ls (by omega) hl
      have hl : lv_has ls 8 [(5, .int (nI 0)), (4, .int (nI (bcF n p9))), (1, .int (nI ((sbF n p9 (soF n p9) 0).1))), (2, .int (nI ((sbF n p9 (soF n p9) 0).2))), (3, .int (nI p9)), (0, .ref (a 14))] := lv_sub hl [0, 1, 3, 4, 2, 5] rfl
      exact loopB (bcF n p9) 0 ls (by omega) hl
  have hl : lv_has ls 8 [(3, .int (nI 0)), (1, .int (nI ((soF n 0).1))), (2, .int (nI ((soF n 0).2))), (0, .ref (a 14))] := lv_sub hl [0, 2, 1, 3] rfl
  exact loop8 (q + 1) 0 ls (by omega) hl

set_option maxHeartbeats 4000000 in
theorem c_D_search (l : Launch) (d : Nat → Nat) (D : va_G) (a : Nat → Nat) (n : Nat → Nat → Nat) (g : Nat → Nat) (hap : ∀ i j : Nat, i < 52 → j < 52 → a i = a j → i = j) (q f : Nat) (hq4 : q < 4) (hf : f < n 14 5) (hz : 4 ≤ n 14 4) (hz2 : n 14 4 ≤ 128) (ht : n 14 4 ≤ n 14 5) (ht2 : n 14 5 ≤ 128) (hkn : ∀ p i, p < 4 → n (25 + p) i < 4294967296) (ho : ∀ p i, p < 4 → i < n 14 5 → n (20 + p) i < 128) (h01 : ∀ i, n 12 i < 2) (h2 : n 14 0 < 512) (hc : n 15 0 ≤ 16) : jEff l d D a n g jy_D_search jb_D_search 7 (some .boolean) { frames := 2, cells := 0, slots := 0, locals := 49 } [.ref (a 14), .int (nI q), .int (nI f)] (fun v9 n2 g2 => some (.int (nI (srF n q f).2)) = v9 ∧ (srF n q f).1 = n2 ∧ g = g2) := by
  refine je_Z (by decide) (Nat.le_of_ble_eq_true rfl) ?_
  intro p e s m A below meth c ls Q X hP hS hl hQ
  have hl : lv_has ls 7 [(0, .ref (a 14)), (1, .int (nI q)), (2, .int (nI f))] := hl
  refine lv_iload_n X.1 X.2.1 jd_D_search_0 rfl (lv_at hl 2 rfl) ?_
  refine lv_istore_n X.1 X.2.1 jd_D_search_1 rfl hl (by decide) rfl (fun ls hl => ?_)
  have hl : lv_has ls 7 [(3, .int (nI f)), (0, .ref (a 14)), (1, .int (nI q)), (2, .int (nI f))] := hl
  refine lv_aload_n X.1 X.2.1 jd_D_search_2 rfl (lv_at hl 1 rfl) ?_
  refine lv_iload_n X.1 X.2.1 jd_D_search_3 rfl (lv_at hl 2 rfl) ?_
  refine lv_iload_n X.1 X.2.1 jd_D_search_4 rfl (lv_at hl 3 rfl) ?_
  refine j_run (j_mkV X hP (c_D_blockEnd l d D a n g q f (by omega) (by omega) hz hz2 ht ht2) jU_b (j_pp X hP) jm_429 jm_428 js_23 jm_4 jm_426 (by decide) rfl rfl (show jOk jy_D_blockEnd 2 by unfold jOk; decide +kernel) (by decide) ⟨rfl, rfl⟩ hl.1 rfl (Nat.le_of_ble_eq_true rfl) ⟨Nat.zero_le _, Nat.zero_le _⟩ jd_D_search_5) ?_
  refine W.eq (g2 := F0 m 8 ls [.int (nI (beF n q f))]) rfl ?_
  refine lv_istore X.1 X.2.1 jd_D_search_8 hl (by decide) rfl (fun ls hl => ?_)
  have hl : lv_has ls 7 [(4, .int (nI (beF n q f))), (3, .int (nI f)), (0, .ref (a 14)), (1, .int (nI q)), (2, .int (nI f))] := hl
  refine lv_iconst (v := nI 0) X.1 X.2.1 jd_D_search_10 (by decide) ?_
  refine lv_istore X.1 X.2.1 jd_D_search_11 hl (by decide) rfl (fun ls hl => ?_)
  have hl : lv_has ls 7 [(5, .int (nI 0)), (4, .int (nI (beF n q f))), (3, .int (nI f)), (0, .ref (a 14)), (1, .int (nI q)), (2, .int (nI f))] := hl
  have loop13 : ∀ (r k : Nat) (ls : Array Slot), k + r = 128 → hvI (f, beF n q f) (hvF n q (f, beF n q f) k) k → lv_has ls 7 [(5, .int (nI k)), (3, .int (nI ((hvF n q (f, beF n q f) k).1))), (4, .int (nI ((hvF n q (f, beF n q f) k).2))), (0, .ref (a 14)), (1, .int (nI q)), (2, .int (nI f))] → W p l e { frames := 2, cells := 0, slots := 0, locals := 49 } s m A below meth c s.heap [] 0 0 Q (F0 m 13 ls []) := by
    intro r
    induction r with
    | zero => 
      intro k ls hk hI hl
      obtain rfl : 128 = k := by omega
      refine lv_iload X.1 X.2.1 jd_D_search_13 (lv_at hl 0 rfl) ?_
      refine lv_sipush (v := nI 128) X.1 X.2.1 jd_D_search_15 (by decide) ?_
      refine kn_cge X.1 X.2.1 jd_D_search_18 (tgt := 95) (by decide) (by omega) (fun h18 => ?_) (fun h18 => absurd h18 (by omega))
      refine lv_aload_n X.1 X.2.1 jd_D_search_95 rfl (lv_at hl 3 rfl) ?_
      refine jg_D_38_14 X hP jd_D_search_96 ?_
      refine jg_D_145_7 X hP jd_D_search_99 ?_
      refine lv_aload_n X.1 X.2.1 jd_D_search_102 rfl (lv_at hl 3 rfl) ?_
      refine jg_D_20_14 X hP jd_D_search_103 ?_
      refine lv_iload_n X.1 X.2.1 jd_D_search_106 rfl (lv_at hl 4 rfl) ?_
      refine j_aald X hP 19 q (by decide) (by omega) jd_D_search_107 ?_
      refine lv_iload_n X.1 X.2.1 jd_D_search_108 rfl (lv_at hl 1 rfl) ?_
      refine j_ald X hP (20 + q) ((hvF n q (f, beF n q f) 128).1) (by omega) (by rw [jI_or hq4]; have h9 := be_le (n := n) (q := q) (f := f); have hv := hI; simp only [hvI] at hv; omega) (by rw [jI_or hq4]; decide) jd_D_search_109 ?_
      refine lv_dup2_11 X.1 X.2.1 jd_D_search_110 rfl rfl ?_
      refine j_ald X hP 12 (n (20 + q) ((hvF n q (f, beF n q f) 128).1)) (by decide) (show (n (20 + q) ((hvF n q (f, beF n q f) 128).1)) < 128 from ho _ _ hq4 (by have h9 := be_le (n := n) (q := q) (f := f); have hv := hI; simp only [hvI] at hv; omega)) (by decide) jd_D_search_111 ?_
      refine lv_iconst (v := nI 1) X.1 X.2.1 jd_D_search_112 (by decide) ?_
      refine kn_ixor X.1 X.2.1 jd_D_search_113 ?_
      refine j_ast X hap hP hS 12 (n (20 + q) ((hvF n q (f, beF n q f) 128).1)) ((n 12 (n (20 + q) ((hvF n q (f, beF n q f) 128).1))) ^^^ 1) (by decide) (show (n (20 + q) ((hvF n q (f, beF n q f) 128).1)) < 128 from ho _ _ hq4 (by have h9 := be_le (n := n) (q := q) (f := f); have hv := hI; simp only [hvI] at hv; omega)) (by decide) jd_D_search_114 (fun H locs hP hS => ?_)
      refine lv_iconst (v := nI 0) X.1 X.2.1 jd_D_search_115 (by decide) ?_
      exact hQ _ _ _ _ _ _ _ (by decide) (by first | (unfold srF; rw [hv_128 (k := k) (by omega) (Or.inl h26), if_pos h26]; exact ⟨rfl, rfl, rfl⟩) | (exfalso; simp only [hvI] at hI; omega)) hP hS jd_D_search_116
    | succ r ihr => 
      intro k ls hk hI hl
      refine lv_iload X.1 X.2.1 jd_D_search_13 (lv_at hl 0 rfl) ?_
      refine lv_sipush (v := nI 128) X.1 X.2.1 jd_D_search_15 (by decide) ?_
      refine kn_cge X.1 X.2.1 jd_D_search_18 (tgt := 95) (by decide) (by omega) (fun h18 => absurd h18 (by omega)) (fun h18 => ?_)
      refine lv_iload X.1 X.2.1 jd_D_search_21 (lv_at hl 2 rfl) ?_
      refine lv_iload_n X.1 X.2.1 jd_D_search_23 rfl (lv_at hl 1 rfl) ?_
      refine kn_isub X.1 X.2.1 jd_D_search_24 (by have h9 := be_le (n := n) (q := q) (f := f); have hv := hI; simp only [hvI] at hv; omega) ?_
      refine lv_iconst (v := nI 1) X.1 X.2.1 jd_D_search_25 (by decide) ?_
      refine kn_cle X.1 X.2.1 jd_D_search_26 (tgt := 95) (by decide) (by have h9 := be_le (n := n) (q := q) (f := f); have hv := hI; simp only [hvI] at hv; omega) (fun h26 => ?_) (fun h26 => ?_)
      · skip
        refine lv_aload_n X.1 X.2.1 jd_D_search_95 rfl (lv_at hl 3 rfl) ?_
        refine jg_D_38_14 X hP jd_D_search_96 ?_
        refine jg_D_145_7 X hP jd_D_search_99 ?_
        refine lv_aload_n X.1 X.2.1 jd_D_search_102 rfl (lv_at hl 3 rfl) ?_
        refine jg_D_20_14 X hP jd_D_search_103 ?_
        refine lv_iload_n X.1 X.2.1 jd_D_search_106 rfl (lv_at hl 4 rfl) ?_
        refine j_aald X hP 19 q (by decide) (by omega) jd_D_search_107 ?_
        refine lv_iload_n X.1 X.2.1 jd_D_search_108 rfl (lv_at hl 1 rfl) ?_
        refine j_ald X hP (20 + q) ((hvF n q (f, beF n q f) k).1) (by omega) (by rw [jI_or hq4]; have h9 := be_le (n := n) (q := q) (f := f); have hv := hI; simp only [hvI] at hv; omega) (by rw [jI_or hq4]; decide) jd_D_search_109 ?_
        refine lv_dup2_11 X.1 X.2.1 jd_D_search_110 rfl rfl ?_
        refine j_ald X hP 12 (n (20 + q) ((hvF n q (f, beF n q f) k).1)) (by decide) (show (n (20 + q) ((hvF n q (f, beF n q f) k).1)) < 128 from ho _ _ hq4 (by have h9 := be_le (n := n) (q := q) (f := f); have hv := hI; simp only [hvI] at hv; omega)) (by decide) jd_D_search_111 ?_
        refine lv_iconst (v := nI 1) X.1 X.2.1 jd_D_search_112 (by decide) ?_
        refine kn_ixor X.1 X.2.1 jd_D_search_113 ?_
        refine j_ast X hap hP hS 12 (n (20 + q) ((hvF n q (f, beF n q f) k).1)) ((n 12 (n (20 + q) ((hvF n q (f, beF n q f) k).1))) ^^^ 1) (by decide) (show (n (20 + q) ((hvF n q (f, beF n q f) k).1)) < 128 from ho _ _ hq4 (by have h9 := be_le (n := n) (q := q) (f := f); have hv := hI; simp only [hvI] at hv; omega)) (by decide) jd_D_search_114 (fun H locs hP hS => ?_)
        refine lv_iconst (v := nI 0) X.1 X.2.1 jd_D_search_115 (by decide) ?_
        exact hQ _ _ _ _ _ _ _ (by decide) (by first | (unfold srF; rw [hv_128 (k := k) (by omega) (Or.inl h26), if_pos h26]; exact ⟨rfl, rfl, rfl⟩) | (exfalso; simp only [hvI] at hI; omega)) hP hS jd_D_search_116
      · skip
        refine lv_iload_n X.1 X.2.1 jd_D_search_29 rfl (lv_at hl 1 rfl) ?_
        refine lv_iload X.1 X.2.1 jd_D_search_30 (lv_at hl 2 rfl) ?_
        refine lv_iload_n X.1 X.2.1 jd_D_search_32 rfl (lv_at hl 1 rfl) ?_
        refine kn_isub X.1 X.2.1 jd_D_search_33 (by have h9 := be_le (n := n) (q := q) (f := f); have hv := hI; simp only [hvI] at hv; omega) ?_
        refine lv_iconst (v := nI 1) X.1 X.2.1 jd_D_search_34 (by decide) ?_
        refine kn_iadd X.1 X.2.1 jd_D_search_35 ?_
        refine lv_iconst (v := nI 2) X.1 X.2.1 jd_D_search_36 (by decide) ?_
        refine kn_idiv X.1 X.2.1 jd_D_search_37 (by have h9 := be_le (n := n) (q := q) (f := f); have hv := hI; simp only [hvI] at hv; omega) ?_
        refine kn_iadd X.1 X.2.1 jd_D_search_38 ?_
        refine kn_to (y := mdF (hvF n q (f, beF n q f) k)) (rfl) ?_
        refine lv_istore X.1 X.2.1 jd_D_search_39 hl (by decide) rfl (fun ls hl => ?_)
        have hl : lv_has ls 7 [(6, .int (nI (mdF (hvF n q (f, beF n q f) k)))), (5, .int (nI k)), (3, .int (nI ((hvF n q (f, beF n q f) k).1))), (4, .int (nI ((hvF n q (f, beF n q f) k).2))), (0, .ref (a 14)), (1, .int (nI q)), (2, .int (nI f))] := hl
        refine lv_aload_n X.1 X.2.1 jd_D_search_41 rfl (lv_at hl 4 rfl) ?_
        refine jg_D_23_14 X hP jd_D_search_42 ?_
        refine lv_iload_n X.1 X.2.1 jd_D_search_45 rfl (lv_at hl 5 rfl) ?_
        refine j_aald X hP 24 q (by decide) (by omega) jd_D_search_46 ?_
        refine lv_iload X.1 X.2.1 jd_D_search_47 (lv_at hl 0 rfl) ?_
        refine j_ald X hP (25 + q) (mdF (hvF n q (f, beF n q f) k)) (by omega) (by rw [jI_kn hq4]; have h9 := be_le (n := n) (q := q) (f := f); have hv := hI; simp only [hvI] at hv; have h8 := md_in (w := (hvF n q (f, beF n q f) k)) (by omega); omega) (by rw [jI_kn hq4]; decide) jd_D_search_49 ?_
        refine lv_iconst (v := nI 4294967295) X.1 X.2.1 jd_D_search_50 (by decide) ?_
        refine kn_cne X.1 X.2.1 jd_D_search_51 (tgt := 66) (by decide) (⟨hkn _ _ hq4, by decide⟩) (fun h51 => ?_) (fun h51 => ?_)
        · skip
          refine lv_aload_n X.1 X.2.1 jd_D_search_66 rfl (lv_at hl 4 rfl) ?_
          refine lv_iload_n X.1 X.2.1 jd_D_search_67 rfl (lv_at hl 5 rfl) ?_
          refine lv_iload_n X.1 X.2.1 jd_D_search_68 rfl (lv_at hl 2 rfl) ?_
          refine lv_iload X.1 X.2.1 jd_D_search_69 (lv_at hl 0 rfl) ?_
          refine lv_iload X.1 X.2.1 jd_D_search_71 (lv_at hl 0 rfl) ?_
          refine j_run (j_mkV X hP (c_D_isOdd l d D a n g q (hvF n q (f, beF n q f) k).1 (mdF (hvF n q (f, beF n q f) k)) (mdF (hvF n q (f, beF n q f) k)) hq4 (by have h9 := be_le (n := n) (q := q) (f := f); have hv := hI; simp only [hvI] at hv; have h8 := md_in (w := (hvF n q (f, beF n q f) k)) (by omega); omega) (by have h9 := be_le (n := n) (q := q) (f := f); have hv := hI; simp only [hvI] at hv; have h8 := md_in (w := (hvF n q (f, beF n q f) k)) (by omega); omega) (by have h9 := be_le (n := n) (q := q) (f := f); have hv := hI; simp only [hvI] at hv; have h8 := md_in (w := (hvF n q (f, beF n q f) k)) (by omega); omega) (fun i hi => ho _ _ hq4 (by have h9 := be_le (n := n) (q := q) (f := f); have hv := hI; simp only [hvI] at hv; have h8 := md_in (w := (hvF n q (f, beF n q f) k)) (by omega); omega)) h01 (hkn _ _ hq4)) jU_b (j_pp X hP) jm_452 jm_451 js_28 jm_4 jm_449 (by decide) rfl rfl (show jOk jy_D_isOdd 4 by unfold jOk; decide +kernel) (by decide) ⟨rfl, rfl⟩ hl.1 rfl (Nat.le_of_ble_eq_true rfl) ⟨Nat.zero_le _, Nat.zero_le _⟩ jd_D_search_73) ?_
          refine W.eq (g2 := F0 m 76 ls [.int (nI (odF n q (hvF n q (f, beF n q f) k).1 (mdF (hvF n q (f, beF n q f) k)) (mdF (hvF n q (f, beF n q f) k))))]) rfl ?_
          refine kn_eq0 X.1 X.2.1 jd_D_search_76 (tgt := 86) (by decide) (by have h9 := odF_lt n q (hvF n q (f, beF n q f) k).1 (mdF (hvF n q (f, beF n q f) k)) (mdF (hvF n q (f, beF n q f) k)); omega) (fun h76 => ?_) (fun h76 => ?_)
          · skip
            refine lv_iload X.1 X.2.1 jd_D_search_86 (lv_at hl 0 rfl) ?_
            refine lv_istore_n X.1 X.2.1 jd_D_search_88 rfl hl (by decide) rfl (fun ls hl => ?_)
            have hl : lv_has ls 7 [(3, .int (nI (mdF (hvF n q (f, beF n q f) k)))), (6, .int (nI (mdF (hvF n q (f, beF n q f) k)))), (5, .int (nI k)), (4, .int (nI ((hvF n q (f, beF n q f) k).2))), (0, .ref (a 14)), (1, .int (nI q)), (2, .int (nI f))] := hl
            refine lv_iinc (k := 2) (v := nI (k + 1)) X.1 X.2.1 jd_D_search_89 hl rfl (kn_inc _) (by decide) rfl (fun ls hl => ?_)
            have hl : lv_has ls 7 [(5, .int (nI (k + 1))), (3, .int (nI (mdF (hvF n q (f, beF n q f) k)))), (6, .int (nI (mdF (hvF n q (f, beF n q f) k)))), (4, .int (nI ((hvF n q (f, beF n q f) k).2))), (0, .ref (a 14)), (1, .int (nI q)), (2, .int (nI f))] := hl
            refine lv_goto X.1 X.2.1 jd_D_search_92 (tgt := 13) (by decide) ?_
            have hl : lv_has ls 7 [(5, .int (nI (k + 1))), (3, .int (nI ((hvF n q (f, beF n q f) (k + 1)).1))), (4, .int (nI ((hvF n q (f, beF n q f) (k + 1)).2))), (0, .ref (a 14)), (1, .int (nI q)), (2, .int (nI f))] := by first | exact lv_sub hl [0, 1, 3, 4, 5, 6] rfl | (simp only [hvF]; first | (rw [if_pos (by first | exact h26 | omega)]; rw [if_pos (by first | exact h51 | omega)]; rw [if_pos (by first | exact h76 | omega)]; exact lv_sub hl [0, 1, 3, 4, 5, 6] rfl) | (rw [if_pos (by first | exact h26 | omega)]; rw [if_pos (by first | exact h51 | omega)]; rw [if_neg (by first | exact h76 | omega)]; exact lv_sub hl [0, 1, 3, 4, 5, 6] rfl) | (rw [if_pos (by first | exact h26 | omega)]; rw [if_neg (by first | exact h51 | omega)]; rw [if_pos (by first | exact h76 | omega)]; exact lv_sub hl [0, 1, 3, 4, 5, 6] rfl) | (rw [if_pos (by first | exact h26 | omega)]; rw [if_neg (by first | exact h51 | omega)]; rw [if_neg (by first | exact h76 | omega)]; exact lv_sub hl [0, 1, 3, 4, 5, 6] rfl) | (rw [if_neg (by first | exact h26 | omega)]; rw [if_pos (by first | exact h51 | omega)]; rw [if_pos (by first | exact h76 | omega)]; exact lv_sub hl [0, 1, 3, 4, 5, 6] rfl) | (rw [if_neg (by first | exact h26 | omega)]; rw [if_pos (by first | exact h51 | omega)]; rw [if_neg (by first | exact h76 | omega)]; exact lv_sub hl [0, 1, 3, 4, 5, 6] rfl) | (rw [if_neg (by first | exact h26 | omega)]; rw [if_neg (by first | exact h51 | omega)]; rw [if_pos (by first | exact h76 | omega)]; exact lv_sub hl [0, 1, 3, 4, 5, 6] rfl) | (rw [if_neg (by first | exact h26 | omega)]; rw [if_neg (by first | exact h51 | omega)]; rw [if_neg (by first | exact h76 | omega)]; exact lv_sub hl [0, 1, 3, 4, 5, 6] rfl) | (rw [if_pos (by first | exact h26 | omega)]; rw [if_pos (by first | exact h51 | omega)]; exact lv_sub hl [0, 1, 3, 4, 5, 6] rfl) | (rw [if_pos (by first | exact h26 | omega)]; rw [if_neg (by first | exact h51 | omega)]; exact lv_sub hl [0, 1, 3, 4, 5, 6] rfl) | (rw [if_neg (by first | exact h26 | omega)]; rw [if_pos (by first | exact h51 | omega)]; exact lv_sub hl [0, 1, 3, 4, 5, 6] rfl) | (rw [if_neg (by first | exact h26 | omega)]; rw [if_neg (by first | exact h51 | omega)]; exact lv_sub hl [0, 1, 3, 4, 5, 6] rfl) | (rw [if_pos (by first | exact h26 | omega)]; exact lv_sub hl [0, 1, 3, 4, 5, 6] rfl) | (rw [if_neg (by first | exact h26 | omega)]; exact lv_sub hl [0, 1, 3, 4, 5, 6] rfl))
            exact ihr (k + 1) ls (by omega) (hv_next hI (by omega) h51 h76) hl
          · skip
            refine lv_iload X.1 X.2.1 jd_D_search_79 (lv_at hl 0 rfl) ?_
            refine lv_istore X.1 X.2.1 jd_D_search_81 hl (by decide) rfl (fun ls hl => ?_)
            have hl : lv_has ls 7 [(4, .int (nI (mdF (hvF n q (f, beF n q f) k)))), (6, .int (nI (mdF (hvF n q (f, beF n q f) k)))), (5, .int (nI k)), (3, .int (nI ((hvF n q (f, beF n q f) k).1))), (0, .ref (a 14)), (1, .int (nI q)), (2, .int (nI f))] := hl
            refine lv_goto X.1 X.2.1 jd_D_search_83 (tgt := 89) (by decide) ?_
            refine lv_iinc (k := 2) (v := nI (k + 1)) X.1 X.2.1 jd_D_search_89 hl rfl (kn_inc _) (by decide) rfl (fun ls hl => ?_)
            have hl : lv_has ls 7 [(5, .int (nI (k + 1))), (4, .int (nI (mdF (hvF n q (f, beF n q f) k)))), (6, .int (nI (mdF (hvF n q (f, beF n q f) k)))), (3, .int (nI ((hvF n q (f, beF n q f) k).1))), (0, .ref (a 14)), (1, .int (nI q)), (2, .int (nI f))] := hl
            refine lv_goto X.1 X.2.1 jd_D_search_92 (tgt := 13) (by decide) ?_
            have hl : lv_has ls 7 [(5, .int (nI (k + 1))), (3, .int (nI ((hvF n q (f, beF n q f) (k + 1)).1))), (4, .int (nI ((hvF n q (f, beF n q f) (k + 1)).2))), (0, .ref (a 14)), (1, .int (nI q)), (2, .int (nI f))] := by first | exact lv_sub hl [0, 3, 1, 4, 5, 6] rfl | (simp only [hvF]; first | (rw [if_pos (by first | exact h26 | omega)]; rw [if_pos (by first | exact h51 | omega)]; rw [if_pos (by first | exact h76 | omega)]; exact lv_sub hl [0, 3, 1, 4, 5, 6] rfl) | (rw [if_pos (by first | exact h26 | omega)]; rw [if_pos (by first | exact h51 | omega)]; rw [if_neg (by first | exact h76 | omega)]; exact lv_sub hl [0, 3, 1, 4, 5, 6] rfl) | (rw [if_pos (by first | exact h26 | omega)]; rw [if_neg (by first | exact h51 | omega)]; rw [if_pos (by first | exact h76 | omega)]; exact lv_sub hl [0, 3, 1, 4, 5, 6] rfl) | (rw [if_pos (by first | exact h26 | omega)]; rw [if_neg (by first | exact h51 | omega)]; rw [if_neg (by first | exact h76 | omega)]; exact lv_sub hl [0, 3, 1, 4, 5, 6] rfl) | (rw [if_neg (by first | exact h26 | omega)]; rw [if_pos (by first | exact h51 | omega)]; rw [if_pos (by first | exact h76 | omega)]; exact lv_sub hl [0, 3, 1, 4, 5, 6] rfl) | (rw [if_neg (by first | exact h26 | omega)]; rw [if_pos (by first | exact h51 | omega)]; rw [if_neg (by first | exact h76 | omega)]; exact lv_sub hl [0, 3, 1, 4, 5, 6] rfl) | (rw [if_neg (by first | exact h26 | omega)]; rw [if_neg (by first | exact h51 | omega)]; rw [if_pos (by first | exact h76 | omega)]; exact lv_sub hl [0, 3, 1, 4, 5, 6] rfl) | (rw [if_neg (by first | exact h26 | omega)]; rw [if_neg (by first | exact h51 | omega)]; rw [if_neg (by first | exact h76 | omega)]; exact lv_sub hl [0, 3, 1, 4, 5, 6] rfl) | (rw [if_pos (by first | exact h26 | omega)]; rw [if_pos (by first | exact h51 | omega)]; exact lv_sub hl [0, 3, 1, 4, 5, 6] rfl) | (rw [if_pos (by first | exact h26 | omega)]; rw [if_neg (by first | exact h51 | omega)]; exact lv_sub hl [0, 3, 1, 4, 5, 6] rfl) | (rw [if_neg (by first | exact h26 | omega)]; rw [if_pos (by first | exact h51 | omega)]; exact lv_sub hl [0, 3, 1, 4, 5, 6] rfl) | (rw [if_neg (by first | exact h26 | omega)]; rw [if_neg (by first | exact h51 | omega)]; exact lv_sub hl [0, 3, 1, 4, 5, 6] rfl) | (rw [if_pos (by first | exact h26 | omega)]; exact lv_sub hl [0, 3, 1, 4, 5, 6] rfl) | (rw [if_neg (by first | exact h26 | omega)]; exact lv_sub hl [0, 3, 1, 4, 5, 6] rfl))
            exact ihr (k + 1) ls (by omega) (hv_next hI (by omega) h51 h76) hl
        · skip
          refine lv_aload_n X.1 X.2.1 jd_D_search_54 rfl (lv_at hl 4 rfl) ?_
          refine lv_iload_n X.1 X.2.1 jd_D_search_55 rfl (lv_at hl 5 rfl) ?_
          refine lv_iload_n X.1 X.2.1 jd_D_search_56 rfl (lv_at hl 2 rfl) ?_
          refine lv_iload X.1 X.2.1 jd_D_search_57 (lv_at hl 0 rfl) ?_
          refine lv_iload X.1 X.2.1 jd_D_search_59 (lv_at hl 0 rfl) ?_
          refine j_rune (j_mkV X hP (c_D_askF l d D a n g hap q (hvF n q (f, beF n q f) k).1 (mdF (hvF n q (f, beF n q f) k)) (mdF (hvF n q (f, beF n q f) k)) hq4 (by have h9 := be_le (n := n) (q := q) (f := f); have hv := hI; simp only [hvI] at hv; omega) (by have h9 := be_le (n := n) (q := q) (f := f); have hv := hI; simp only [hvI] at hv; have h8 := md_in (w := (hvF n q (f, beF n q f) k)) (by omega); omega) h2 hc _) jU_bs (j_pe X hP) jm_436 jm_435 js_24 jm_4 jm_433 (by decide) rfl rfl (show jOk jy_D_ask 4 by unfold jOk; decide +kernel) (by decide) ⟨rfl, rfl⟩ hl.1 rfl (Nat.le_of_ble_eq_true rfl) ⟨Nat.zero_le _, Nat.zero_le _⟩ jd_D_search_61) hS (fun v61 n61 g61 H locs h61 hP hS => ?_)
          obtain ⟨rfl, rfl, rfl⟩ := h61
          refine W.eq (g2 := F0 m 64 ls []) rfl ?_
          refine lv_iconst (v := nI 1) X.1 X.2.1 jd_D_search_64 (by decide) ?_
          exact hQ _ _ _ _ _ _ _ (by decide) (by unfold srF; rw [hv_128 (k := k) (by omega) (Or.inr h51), if_neg (by omega)]; exact ⟨rfl, rfl, rfl⟩) hP hS jd_D_search_65
  have hl : lv_has ls 7 [(5, .int (nI 0)), (3, .int (nI ((hvF n q (f, beF n q f) 0).1))), (4, .int (nI ((hvF n q (f, beF n q f) 0).2))), (0, .ref (a 14)), (1, .int (nI q)), (2, .int (nI f))] := lv_sub hl [0, 2, 1, 3, 4, 5] rfl
  exact loop13 (128) 0 ls (by omega) (by have h9 := be_gt (n := n) (q := q) (f := f) hz hf; have h8 := be_le (n := n) (q := q) (f := f); exact ⟨h9, by show beF n q f - f + 0 ≤ 128; omega, Nat.le_refl _, Nat.le_refl _⟩) hl
end
section
/-! pure words: going on keeps what it needs -/
def DI (n : Nat → Nat → Nat) : Prop := (4 ≤ n 14 4 ∧ n 14 4 ≤ 128 ∧ n 14 4 ≤ n 14 5 ∧ n 14 5 ≤ 128) ∧ (∀ p i, p < 4 → n (25 + p) i < 4294967296) ∧ (∀ p i, p < 4 → i < n 14 5 → n (20 + p) i < 128) ∧ (∀ i, n 12 i < 2) ∧ n 14 0 < 512 ∧ n 15 0 ≤ 16 ∧ n 14 3 ≤ 4
theorem sb_in {n : Nat → Nat → Nat} {q : Nat} {z : Nat × Nat} (hq : q < 4) (ht : 4 ≤ n 14 5) (ht2 : n 14 5 ≤ 128) (hz : z.1 = 4294967295 ∨ (z.1 < 512 ∧ z.1 % 128 < n 14 5)) : ∀ b, b ≤ bcF n q → ((sbF n q z b).1 = 4294967295 ∨ ((sbF n q z b).1 < 512 ∧ (sbF n q z b).1 % 128 < n 14 5))
  | 0, _ => hz
  | b + 1, hb => by
    have ih := sb_in hq ht ht2 hz b (by omega)
    have h1 := blk_lt (n := n) (q := q) (b := b) ht (by omega)
    unfold sbF
    split
    · split
      · exact ih
      · refine Or.inr ⟨?_, ?_⟩
        · show q * 128 + b * (n 14 4 * 2 ^ q) < 512
          omega
        · show (q * 128 + b * (n 14 4 * 2 ^ q)) % 128 < n 14 5
          omega
    · exact ih
theorem so_in {n : Nat → Nat → Nat} (ht : 4 ≤ n 14 5) (ht2 : n 14 5 ≤ 128) : ∀ q, q ≤ 4 → ((soF n q).1 = 4294967295 ∨ ((soF n q).1 < 512 ∧ (soF n q).1 % 128 < n 14 5))
  | 0, _ => Or.inl rfl
  | q + 1, hq => sb_in (by omega) ht ht2 (so_in ht ht2 q (by omega)) _ (Nat.le_refl _)
theorem af_two (n : Nat → Nat → Nat) (q : Nat) : (afF n q).2 < 2 := by
  unfold afF
  split
  · show 1 < 2; decide
  · show 0 < 2; decide
theorem af_zero {n : Nat → Nat → Nat} {q : Nat} (h : (afF n q).2 = 0) : (afF n q).1 = n := by
  unfold afF at h ⊢
  split
  · rename_i b hb; simp only [hb] at h; omega
  · rfl
theorem sr_two (n : Nat → Nat → Nat) (q f : Nat) : (srF n q f).2 < 2 := by
  unfold srF
  split
  · show 0 < 2; decide
  · show 1 < 2; decide
theorem mm_two (n : Nat → Nat → Nat) : (mmF n).2 < 2 := by
  unfold mmF
  split
  · show 0 < 2; decide
  · exact sr_two _ _ _
theorem DI_fp {n : Nat → Nat → Nat} (h : DI n) (q f : Nat) : DI (fpF n q f) := by
  obtain ⟨h1, h2, h3, h4, h5, h6, h7⟩ := h
  unfold fpF
  refine ⟨h1, fun p i hp => ?_, fun p i hp hi => ?_, fun i => ?_, h5, h6, h7⟩
  · rw [ku_n (by omega)]; exact h2 p i hp
  · rw [ku_n (by omega)]; exact h3 p i hp hi
  · unfold ku
    rw [if_pos rfl]
    split
    · exact kx1 (h4 _) (by decide)
    · exact h4 i
theorem DI_up {n : Nat → Nat → Nat} (h : DI n) (hc : n 14 3 < 4) : DI (ku n 14 3 (n 14 3 + 1)) := by
  obtain ⟨h1, h2, h3, h4, h5, h6, h7⟩ := h
  refine ⟨h1, fun p i hp => ?_, fun p i hp hi => ?_, fun i => ?_, h5, h6, ?_⟩
  · rw [ku_n (by omega)]; exact h2 p i hp
  · rw [ku_n (by omega)]; exact h3 p i hp hi
  · rw [ku_n (by decide)]; exact h4 i
  · rw [ku_s]; omega
theorem DI_mm {n : Nat → Nat → Nat} (h : DI n) (hc : n 14 3 < 4) (hz : (mmF n).2 = 0) : DI (mmF n).1 := by
  unfold mmF at hz ⊢
  split
  · exact DI_up h hc
  · rename_i hb
    rw [if_neg hb] at hz
    unfold srF at hz ⊢
    split
    · exact DI_fp h _ _
    · rename_i hb2
      rw [if_neg hb2] at hz
      exact absurd hz (show ¬ 1 = 0 by decide)
theorem go_stop {n : Nat → Nat → Nat} {k : Nat} (h : ¬ (goF n k).2 = 0 ∨ (goF n k).1 14 3 = 4) : ∀ j, goF n (k + j) = goF n k
  | 0 => rfl
  | j + 1 => by
    have ih := go_stop h j
    show goF n (k + j + 1) = _
    simp only [goF, ih]
    rcases h with h | h
    · rw [if_neg h]
    · rw [if_pos h]
      split <;> rfl
theorem go_256 {n : Nat → Nat → Nat} {k : Nat} (hk : k ≤ 256) (h : ¬ (goF n k).2 = 0 ∨ (goF n k).1 14 3 = 4) : goF n 256 = goF n k := by
  have := go_stop h (256 - k)
  rwa [show k + (256 - k) = 256 by omega] at this
theorem go_a {n : Nat → Nat → Nat} {k : Nat} (h : (goF n k).2 = 0) (h4 : ¬ (goF n k).1 14 3 = 4) (ha : ¬ (afF (goF n k).1 ((goF n k).1 14 3)).2 = 0) : goF n (k + 1) = afF (goF n k).1 ((goF n k).1 14 3) := by
  simp only [goF]
  rw [if_pos h, if_neg h4]
  unfold stF
  rw [if_neg ha]
theorem go_m {n : Nat → Nat → Nat} {k : Nat} (h : (goF n k).2 = 0) (h4 : ¬ (goF n k).1 14 3 = 4) (ha : (afF (goF n k).1 ((goF n k).1 14 3)).2 = 0) : goF n (k + 1) = mmF (goF n k).1 := by
  simp only [goF]
  rw [if_pos h, if_neg h4]
  unfold stF
  rw [if_pos ha]
/-- beginning -/
def kfF (n : Nat → Nat → Nat) : Nat → Nat → Nat → Nat
  | 0 => n
  | p + 1 => fiF (kfF n p) (25 + p) 4294967295 128
def bgF (n : Nat → Nat → Nat) (z t : Nat) : Nat → Nat → Nat := ku (kfF (ku (ku n 14 4 z) 14 5 t) 4) 14 3 0
/-- a question's number is well formed -/
def QI (n : Nat → Nat → Nat) (x : Nat) : Prop := 1 ≤ x ∧ x ≤ 512 ∧ n 29 (x - 1) < 2147483648 ∧ n 29 (x - 1) / 2 ^ 16 < 4 ∧ (n 29 (x - 1) / 2 ^ 8 &&& 255) ≤ (n 29 (x - 1) &&& 255) ∧ (n 29 (x - 1) &&& 255) ≤ n 14 5 ∧ n 14 5 ≤ 128
def pnF (n : Nat → Nat → Nat) (x : Nat) : Nat := parF (n 6) (n (20 + n 29 (x - 1) / 2 ^ 16)) (n 29 (x - 1) / 2 ^ 8 &&& 255) ((n 29 (x - 1) &&& 255) - (n 29 (x - 1) / 2 ^ 8 &&& 255))
def anF (n : Nat → Nat → Nat) (x : Nat) : Nat → Nat → Nat := sdF (ku n 14 2 (if n 14 2 < x then x else n 14 2)) 1 x (pnF n x)
def tkF (n : Nat → Nat → Nat) (k : Nat) : Nat → Nat → Nat := ku (shN n k (n 15 0 - 1 - k)) 15 0 (n 15 0 - 1)
theorem shN_o {n : Nat → Nat → Nat} {k x : Nat} (h : x ≠ 16 ∧ x ≠ 17 ∧ x ≠ 18) : ∀ i, shN n k i x = n x
  | 0 => rfl
  | i + 1 => by
    simp only [shN]
    rw [ku_row h.2.2, ku_row h.2.1, ku_row h.1]
    exact shN_o h i
theorem tk_o {n : Nat → Nat → Nat} {k x : Nat} (h : x ≠ 15 ∧ x ≠ 16 ∧ x ≠ 17 ∧ x ≠ 18) : tkF n k x = n x := by
  unfold tkF
  rw [ku_row h.1]
  exact shN_o h.2 _
/-- is the newest question unknown? -/
def unF (n : Nat → Nat → Nat) : Nat := if n (25 + n 29 (n 14 0 - 1) / 2 ^ 16) (n 14 1) = 4294967295 then 1 else 0
def lnF (n : Nat → Nat → Nat) (x : Nat) : Nat → Nat → Nat := ku n (25 + n 29 (n 14 0 - 1) / 2 ^ 16) (n 14 1) x
def dvF (n : Nat → Nat → Nat) (k : Nat) : Nat → Nat → Nat :=
  if n 16 k = 0 then anF (tkF n k) (n 17 k) else if n 17 k = n 14 0 then (if unF (tkF n k) = 0 then tkF n k else (goF (lnF (tkF n k) (n 18 k)) 256).1) else tkF n k
end
section
set_option maxHeartbeats 4000000 in
theorem c_D_mendOrMoveOn (l : Launch) (d : Nat → Nat) (D : va_G) (a : Nat → Nat) (n : Nat → Nat → Nat) (g : Nat → Nat) (hap : ∀ i j : Nat, i < 52 → j < 52 → a i = a j → i = j) (hD : DI n) (h4 : n 14 3 < 4) : jEff l d D a n g jy_D_mendOrMoveOn jb_D_mendOrMoveOn 2 (some .boolean) { frames := 3, cells := 0, slots := 0, locals := 76 } [.ref (a 14)] (fun v9 n2 g2 => some (.int (nI (mmF n).2)) = v9 ∧ (mmF n).1 = n2 ∧ g = g2) := by
  obtain ⟨⟨hz, hz2, ht, ht2⟩, hkn, ho, h01, h512, hc, h44⟩ := hD
  have hs := so_in (n := n) (by omega) ht2 (n 14 3 + 1) (by omega)
  refine je_Z (by decide) (Nat.le_of_ble_eq_true rfl) ?_
  intro p e s m A below meth c ls Q X hP hS hl hQ
  have hl : lv_has ls 2 [(0, .ref (a 14))] := hl
  refine lv_aload_n X.1 X.2.1 jd_D_mendOrMoveOn_0 rfl (lv_at hl 0 rfl) ?_
  refine j_run (j_mkV X hP (c_D_smallestOddBlock l d D a n g (n 14 3) rfl h4 hz hz2 ht ht2 hkn ho h01) jU_b (j_pp X hP) jm_448 jm_447 js_27 jm_4 jm_445 (by decide) rfl rfl (show jOk jy_D_smallestOddBlock 0 by unfold jOk; decide +kernel) (by decide) ⟨rfl, rfl⟩ hl.1 rfl (Nat.le_of_ble_eq_true rfl) ⟨Nat.zero_le _, Nat.zero_le _⟩ jd_D_mendOrMoveOn_1) ?_
  refine W.eq (g2 := F0 m 4 ls [.int (nI ((soF n (n 14 3 + 1)).1))]) rfl ?_
  refine lv_istore_n X.1 X.2.1 jd_D_mendOrMoveOn_4 rfl hl (by decide) rfl (fun ls hl => ?_)
  have hl : lv_has ls 2 [(1, .int (nI ((soF n (n 14 3 + 1)).1))), (0, .ref (a 14))] := hl
  refine lv_iload_n X.1 X.2.1 jd_D_mendOrMoveOn_5 rfl (lv_at hl 0 rfl) ?_
  refine lv_iconst (v := nI 4294967295) X.1 X.2.1 jd_D_mendOrMoveOn_6 (by decide) ?_
  refine kn_cne X.1 X.2.1 jd_D_mendOrMoveOn_7 (tgt := 22) (by decide) (by omega) (fun h7 => ?_) (fun h7 => ?_)
  · skip
    refine lv_aload_n X.1 X.2.1 jd_D_mendOrMoveOn_22 rfl (lv_at hl 1 rfl) ?_
    refine lv_iload_n X.1 X.2.1 jd_D_mendOrMoveOn_23 rfl (lv_at hl 0 rfl) ?_
    refine lv_sipush (v := nI 128) X.1 X.2.1 jd_D_mendOrMoveOn_24 (by decide) ?_
    refine kn_idiv X.1 X.2.1 jd_D_mendOrMoveOn_27 (by omega) ?_
    refine lv_iload_n X.1 X.2.1 jd_D_mendOrMoveOn_28 rfl (lv_at hl 0 rfl) ?_
    refine lv_sipush (v := nI 128) X.1 X.2.1 jd_D_mendOrMoveOn_29 (by decide) ?_
    refine kn_irem X.1 X.2.1 jd_D_mendOrMoveOn_32 (by omega) ?_
    refine j_rune (j_mkV X hP (c_D_search l d D a n g hap ((soF n (n 14 3 + 1)).1 / 128) ((soF n (n 14 3 + 1)).1 % 128) (by omega) (by omega) hz hz2 ht ht2 hkn ho h01 h512 hc _) jU_bs (j_pe X hP) jm_460 jm_459 js_30 jm_4 jm_457 (by decide) rfl rfl (show jOk jy_D_search 2 by unfold jOk; decide +kernel) (by decide) ⟨rfl, rfl⟩ hl.1 rfl (Nat.le_of_ble_eq_true rfl) ⟨Nat.zero_le _, Nat.zero_le _⟩ jd_D_mendOrMoveOn_33) hS (fun v33 n33 g33 H locs h33 hP hS => ?_)
    obtain ⟨rfl, rfl, rfl⟩ := h33
    refine W.eq (g2 := F0 m 36 ls [.int (nI ((srF n ((soF n (n 14 3 + 1)).1 / 128) ((soF n (n 14 3 + 1)).1 % 128)).2))]) rfl ?_
    exact hQ _ _ _ _ _ _ _ (sr_two _ _ _) (by unfold mmF; rw [if_neg h7]; exact ⟨rfl, rfl, rfl⟩) hP hS jd_D_mendOrMoveOn_36
  · skip
    refine lv_aload_n X.1 X.2.1 jd_D_mendOrMoveOn_10 rfl (lv_at hl 1 rfl) ?_
    refine lv_dup X.1 X.2.1 jd_D_mendOrMoveOn_11 rfl ?_
    refine jg_D_30_14 X hP jd_D_mendOrMoveOn_12 ?_
    refine lv_iconst (v := nI 1) X.1 X.2.1 jd_D_mendOrMoveOn_15 (by decide) ?_
    refine kn_iadd X.1 X.2.1 jd_D_mendOrMoveOn_16 ?_
    refine jp_D_30_14 X hap hP hS jd_D_mendOrMoveOn_17 (fun H locs hP hS => ?_)
    refine lv_iconst (v := nI 0) X.1 X.2.1 jd_D_mendOrMoveOn_20 (by decide) ?_
    exact hQ _ _ _ _ _ _ _ (by decide) (by unfold mmF; rw [if_pos h7]; exact ⟨rfl, rfl, rfl⟩) hP hS jd_D_mendOrMoveOn_21

set_option maxHeartbeats 4000000 in
theorem c_D_goOn (l : Launch) (d : Nat → Nat) (D : va_G) (a : Nat → Nat) (n : Nat → Nat → Nat) (g : Nat → Nat) (hap : ∀ i j : Nat, i < 52 → j < 52 → a i = a j → i = j) (hD : DI n) : jEff l d D a n g jy_D_goOn jb_D_goOn 3 none { frames := 4, cells := 0, slots := 0, locals := 97 } [.ref (a 14)] (fun v9 n2 g2 => none = v9 ∧ (goF n 256).1 = n2 ∧ g = g2) := by
  refine je_V (by decide) (Nat.le_of_ble_eq_true rfl) ?_
  intro p e s m A below meth c ls Q X hP hS hl hQ
  have hl : lv_has ls 3 [(0, .ref (a 14))] := hl
  refine lv_iconst (v := nI 0) X.1 X.2.1 jd_D_goOn_0 (by decide) ?_
  refine lv_istore_n X.1 X.2.1 jd_D_goOn_1 rfl hl (by decide) rfl (fun ls hl => ?_)
  have hl : lv_has ls 3 [(1, .int (nI 0)), (0, .ref (a 14))] := hl
  refine lv_iconst (v := nI 0) X.1 X.2.1 jd_D_goOn_2 (by decide) ?_
  refine lv_istore_n X.1 X.2.1 jd_D_goOn_3 rfl hl (by decide) rfl (fun ls hl => ?_)
  have hl : lv_has ls 3 [(2, .int (nI 0)), (1, .int (nI 0)), (0, .ref (a 14))] := hl
  have loop4 : ∀ (r k : Nat) (H : Heap) (locs : List Loc) (ls : Array Slot), k + r = 256 → (goF n k).2 < 2 ∧ ((goF n k).2 = 0 → DI (goF n k).1) → va_P D jCl (jW d a ((goF n k).1) g) H → va_S (jAa a s.heap.size) s.heap H locs → lv_has ls 3 [(2, .int (nI k)), (1, .int (nI ((goF n k).2))), (0, .ref (a 14))] → W p l e { frames := 4, cells := 0, slots := 0, locals := 97 } s m A below meth c H locs 0 0 Q (F0 m 4 ls []) := by
    intro r
    induction r with
    | zero => 
      intro k H locs ls hk hJ9 hP hS hl
      obtain rfl : 256 = k := by omega
      refine lv_iload_n X.1 X.2.1 jd_D_goOn_4 rfl (lv_at hl 0 rfl) ?_
      refine lv_sipush (v := nI 256) X.1 X.2.1 jd_D_goOn_5 (by decide) ?_
      refine kn_cge X.1 X.2.1 jd_D_goOn_8 (tgt := 48) (by decide) (by omega) (fun h8 => ?_) (fun h8 => absurd h8 (by omega))
      exact hQ _ _ _ _ _ _ (by first | (rw [go_256 (k := k) (by omega) (Or.inl h12)]; exact ⟨rfl, rfl, rfl⟩) | (rw [go_256 (k := k) (by omega) (Or.inr (by rcases hov with q | q; exact q; rw [if_neg q] at h19; omega))]; exact ⟨rfl, rfl, rfl⟩) | exact ⟨rfl, rfl, rfl⟩) hP hS jd_D_goOn_48
    | succ r ihr => 
      intro k H locs ls hk hJ9 hP hS hl
      refine lv_iload_n X.1 X.2.1 jd_D_goOn_4 rfl (lv_at hl 0 rfl) ?_
      refine lv_sipush (v := nI 256) X.1 X.2.1 jd_D_goOn_5 (by decide) ?_
      refine kn_cge X.1 X.2.1 jd_D_goOn_8 (tgt := 48) (by decide) (by omega) (fun h8 => absurd h8 (by omega)) (fun h8 => ?_)
      have hJ := hJ9.2
      have hJ0 := hJ9.1
      refine lv_iload_n X.1 X.2.1 jd_D_goOn_11 rfl (lv_at hl 1 rfl) ?_
      refine kn_ne0 X.1 X.2.1 jd_D_goOn_12 (tgt := 48) (by decide) (by omega) (fun h12 => ?_) (fun h12 => ?_)
      · skip
        exact hQ _ _ _ _ _ _ (by first | (rw [go_256 (k := k) (by omega) (Or.inl h12)]; exact ⟨rfl, rfl, rfl⟩) | (rw [go_256 (k := k) (by omega) (Or.inr (by rcases hov with q | q; exact q; rw [if_neg q] at h19; omega))]; exact ⟨rfl, rfl, rfl⟩) | exact ⟨rfl, rfl, rfl⟩) hP hS jd_D_goOn_48
      · skip
        have hov : ((goF n k).1 14 3) = 4 ∨ ¬ ((goF n k).1 14 3) = 4 := Decidable.em _
        have h34 := (hJ (by omega)).2.2.2.2.2.2
        refine lv_aload_n X.1 X.2.1 jd_D_goOn_15 rfl (lv_at hl 2 rfl) ?_
        refine j_run (j_mkV X hP (c_D_isOver l d D a (goF n k).1 g (by have := (hJ (by omega)).2.2.2.2.2.2; omega)) jU_b (j_pp X hP) jm_217 jm_216 js_5 jm_4 jm_413 (by decide) rfl rfl (show jOk jy_D_isOver 0 by unfold jOk; decide +kernel) (by decide) ⟨rfl, rfl⟩ hl.1 rfl (Nat.le_of_ble_eq_true rfl) ⟨Nat.zero_le _, Nat.zero_le _⟩ jd_D_goOn_16) ?_
        refine W.eq (g2 := F0 m 19 ls [.int (nI (if ((goF n k).1 14 3) = 4 then 1 else 0))]) rfl ?_
        refine kn_ne0 X.1 X.2.1 jd_D_goOn_19 (tgt := 48) (by decide) (by split <;> omega) (fun h19 => ?_) (fun h19 => ?_)
        · skip
          exact hQ _ _ _ _ _ _ (by first | (rw [go_256 (k := k) (by omega) (Or.inl h12)]; exact ⟨rfl, rfl, rfl⟩) | (rw [go_256 (k := k) (by omega) (Or.inr (by rcases hov with q | q; exact q; rw [if_neg q] at h19; omega))]; exact ⟨rfl, rfl, rfl⟩) | exact ⟨rfl, rfl, rfl⟩) hP hS jd_D_goOn_48
        · skip
          have h4 : ¬ ((goF n k).1 14 3) = 4 := fun q => by rw [if_pos q] at h19; omega
          have h43 : ((goF n k).1 14 3) < 4 := by omega
          refine lv_aload_n X.1 X.2.1 jd_D_goOn_22 rfl (lv_at hl 2 rfl) ?_
          refine j_rune (j_mkV X hP (c_D_askForBlock l d D a (goF n k).1 g hap ((goF n k).1 14 3) rfl (by omega) (hJ (by omega)).1.1 (hJ (by omega)).1.2.1 (hJ (by omega)).1.2.2.1 (hJ (by omega)).1.2.2.2 (hJ (by omega)).2.1 (hJ (by omega)).2.2.2.2.1 (hJ (by omega)).2.2.2.2.2.1 _) jU_bs (j_pe X hP) jm_417 jm_416 js_20 jm_4 jm_414 (by decide) rfl rfl (show jOk jy_D_askForBlock 0 by unfold jOk; decide +kernel) (by decide) ⟨rfl, rfl⟩ hl.1 rfl (Nat.le_of_ble_eq_true rfl) ⟨Nat.zero_le _, Nat.zero_le _⟩ jd_D_goOn_23) hS (fun v23 n23 g23 H locs h23 hP hS => ?_)
          obtain ⟨rfl, rfl, rfl⟩ := h23
          refine W.eq (g2 := F0 m 26 ls [.int (nI ((afF (goF n k).1 ((goF n k).1 14 3)).2))]) rfl ?_
          refine kn_ne0 X.1 X.2.1 jd_D_goOn_26 (tgt := 36) (by decide) (by have := af_two (goF n k).1 ((goF n k).1 14 3); omega) (fun h26 => ?_) (fun h26 => ?_)
          · skip
            refine lv_iconst (v := nI 1) X.1 X.2.1 jd_D_goOn_36 (by decide) ?_
            refine lv_goto X.1 X.2.1 jd_D_goOn_37 (tgt := 41) (by decide) ?_
            refine lv_istore_n X.1 X.2.1 jd_D_goOn_41 rfl hl (by decide) rfl (fun ls hl => ?_)
            have hl : lv_has ls 3 [(1, .int (nI 1)), (2, .int (nI k)), (0, .ref (a 14))] := hl
            refine lv_iinc (k := 1) (v := nI (k + 1)) X.1 X.2.1 jd_D_goOn_42 hl rfl (kn_inc _) (by decide) rfl (fun ls hl => ?_)
            have hl : lv_has ls 3 [(2, .int (nI (k + 1))), (1, .int (nI 1)), (0, .ref (a 14))] := hl
            refine lv_goto X.1 X.2.1 jd_D_goOn_45 (tgt := 4) (by decide) ?_
            have eG : goF n (k + 1) = afF (goF n k).1 ((goF n k).1 14 3) := go_a (by omega) h4 h26
            have e2 : (goF n (k + 1)).2 = 1 := by rw [eG]; have h9 := af_two (goF n k).1 ((goF n k).1 14 3); omega
            have hP : va_P D jCl (jW d a (goF n (k + 1)).1 g) H := by rw [eG]; exact hP
            have hl : lv_has ls 3 [(2, .int (nI (k + 1))), (1, .int (nI ((goF n (k + 1)).2))), (0, .ref (a 14))] := by rw [e2]; exact lv_sub hl [0, 1, 2] rfl
            have hJ2 : (goF n (k + 1)).2 < 2 ∧ ((goF n (k + 1)).2 = 0 → DI (goF n (k + 1)).1) := ⟨by omega, fun h0 => by omega⟩
            exact ihr (k + 1) H locs ls (by omega) (hJ2) hP hS hl
          · skip
            rw [af_zero h26] at hP
            refine lv_aload_n X.1 X.2.1 jd_D_goOn_29 rfl (lv_at hl 2 rfl) ?_
            refine j_rune (j_mkV X hP (c_D_mendOrMoveOn l d D a (goF n k).1 g hap (hJ (by omega)) (by omega) _) jU_bs (j_pe X hP) jm_444 jm_443 js_26 jm_4 jm_441 (by decide) rfl rfl (show jOk jy_D_mendOrMoveOn 0 by unfold jOk; decide +kernel) (by decide) ⟨rfl, rfl⟩ hl.1 rfl (Nat.le_of_ble_eq_true rfl) ⟨Nat.zero_le _, Nat.zero_le _⟩ jd_D_goOn_30) hS (fun v30 n30 g30 H locs h30 hP hS => ?_)
            obtain ⟨rfl, rfl, rfl⟩ := h30
            refine W.eq (g2 := F0 m 33 ls [.int (nI ((mmF (goF n k).1).2))]) rfl ?_
            refine kn_eq0 X.1 X.2.1 jd_D_goOn_33 (tgt := 40) (by decide) (by have := mm_two (goF n k).1; omega) (fun h33 => ?_) (fun h33 => ?_)
            · skip
              refine lv_iconst (v := nI 0) X.1 X.2.1 jd_D_goOn_40 (by decide) ?_
              refine lv_istore_n X.1 X.2.1 jd_D_goOn_41 rfl hl (by decide) rfl (fun ls hl => ?_)
              have hl : lv_has ls 3 [(1, .int (nI 0)), (2, .int (nI k)), (0, .ref (a 14))] := hl
              refine lv_iinc (k := 1) (v := nI (k + 1)) X.1 X.2.1 jd_D_goOn_42 hl rfl (kn_inc _) (by decide) rfl (fun ls hl => ?_)
              have hl : lv_has ls 3 [(2, .int (nI (k + 1))), (1, .int (nI 0)), (0, .ref (a 14))] := hl
              refine lv_goto X.1 X.2.1 jd_D_goOn_45 (tgt := 4) (by decide) ?_
              have eG : goF n (k + 1) = mmF (goF n k).1 := go_m (by omega) h4 h26
              have e2 : (goF n (k + 1)).2 = 0 := by rw [eG]; have h9 := mm_two (goF n k).1; omega
              have hP : va_P D jCl (jW d a (goF n (k + 1)).1 g) H := by rw [eG]; exact hP
              have hl : lv_has ls 3 [(2, .int (nI (k + 1))), (1, .int (nI ((goF n (k + 1)).2))), (0, .ref (a 14))] := by rw [e2]; exact lv_sub hl [0, 1, 2] rfl
              have hJ2 : (goF n (k + 1)).2 < 2 ∧ ((goF n (k + 1)).2 = 0 → DI (goF n (k + 1)).1) := ⟨by omega, fun h0 => by rw [eG] at h0 ⊢; exact DI_mm (hJ (by omega)) h43 h0⟩
              exact ihr (k + 1) H locs ls (by omega) (hJ2) hP hS hl
            · skip
              refine lv_iconst (v := nI 1) X.1 X.2.1 jd_D_goOn_36 (by decide) ?_
              refine lv_goto X.1 X.2.1 jd_D_goOn_37 (tgt := 41) (by decide) ?_
              refine lv_istore_n X.1 X.2.1 jd_D_goOn_41 rfl hl (by decide) rfl (fun ls hl => ?_)
              have hl : lv_has ls 3 [(1, .int (nI 1)), (2, .int (nI k)), (0, .ref (a 14))] := hl
              refine lv_iinc (k := 1) (v := nI (k + 1)) X.1 X.2.1 jd_D_goOn_42 hl rfl (kn_inc _) (by decide) rfl (fun ls hl => ?_)
              have hl : lv_has ls 3 [(2, .int (nI (k + 1))), (1, .int (nI 1)), (0, .ref (a 14))] := hl
              refine lv_goto X.1 X.2.1 jd_D_goOn_45 (tgt := 4) (by decide) ?_
              have eG : goF n (k + 1) = mmF (goF n k).1 := go_m (by omega) h4 h26
              have e2 : (goF n (k + 1)).2 = 1 := by rw [eG]; have h9 := mm_two (goF n k).1; omega
              have hP : va_P D jCl (jW d a (goF n (k + 1)).1 g) H := by rw [eG]; exact hP
              have hl : lv_has ls 3 [(2, .int (nI (k + 1))), (1, .int (nI ((goF n (k + 1)).2))), (0, .ref (a 14))] := by rw [e2]; exact lv_sub hl [0, 1, 2] rfl
              have hJ2 : (goF n (k + 1)).2 < 2 ∧ ((goF n (k + 1)).2 = 0 → DI (goF n (k + 1)).1) := ⟨by omega, fun h0 => by omega⟩
              exact ihr (k + 1) H locs ls (by omega) (hJ2) hP hS hl
  have hl : lv_has ls 3 [(2, .int (nI 0)), (1, .int (nI ((goF n 0).2))), (0, .ref (a 14))] := lv_sub hl [0, 1, 2] rfl
  exact loop4 (256) 0 s.heap [] ls (by omega) (⟨by show 0 < 2; decide, fun _ => hD⟩) hP hS hl

set_option maxHeartbeats 4000000 in
theorem c_D_begin (l : Launch) (d : Nat → Nat) (D : va_G) (a : Nat → Nat) (n : Nat → Nat → Nat) (g : Nat → Nat) (hap : ∀ i j : Nat, i < 52 → j < 52 → a i = a j → i = j) (z t : Nat) (hD : DI (bgF n z t)) : jEff l d D a n g jy_D_begin jb_D_begin 4 none { frames := 5, cells := 0, slots := 0, locals := 119 } [.ref (a 14), .int (nI z), .int (nI t)] (fun v9 n2 g2 => none = v9 ∧ (goF (bgF n z t) 256).1 = n2 ∧ g = g2) := by
  refine je_V (by decide) (Nat.le_of_ble_eq_true rfl) ?_
  intro p e s m A below meth c ls Q X hP hS hl hQ
  have hl : lv_has ls 4 [(0, .ref (a 14)), (1, .int (nI z)), (2, .int (nI t))] := hl
  refine lv_aload_n X.1 X.2.1 jd_D_begin_0 rfl (lv_at hl 0 rfl) ?_
  refine lv_iload_n X.1 X.2.1 jd_D_begin_1 rfl (lv_at hl 1 rfl) ?_
  refine jp_D_41_14 X hap hP hS jd_D_begin_2 (fun H locs hP hS => ?_)
  refine lv_aload_n X.1 X.2.1 jd_D_begin_5 rfl (lv_at hl 0 rfl) ?_
  refine lv_iload_n X.1 X.2.1 jd_D_begin_6 rfl (lv_at hl 2 rfl) ?_
  refine jp_D_44_14 X hap hP hS jd_D_begin_7 (fun H locs hP hS => ?_)
  refine lv_iconst (v := nI 0) X.1 X.2.1 jd_D_begin_10 (by decide) ?_
  refine lv_istore_n X.1 X.2.1 jd_D_begin_11 rfl hl (by decide) rfl (fun ls hl => ?_)
  have hl : lv_has ls 4 [(3, .int (nI 0)), (0, .ref (a 14)), (1, .int (nI z)), (2, .int (nI t))] := hl
  have loop12 : ∀ (r k : Nat) (H : Heap) (locs : List Loc) (ls : Array Slot), k + r = 4 → va_P D jCl (jW d a (kfF (ku (ku n 14 4 z) 14 5 t) k) g) H → va_S (jAa a s.heap.size) s.heap H locs → lv_has ls 4 [(3, .int (nI k)), (0, .ref (a 14)), (1, .int (nI z)), (2, .int (nI t))] → W p l e { frames := 5, cells := 0, slots := 0, locals := 119 } s m A below meth c H locs 0 0 Q (F0 m 12 ls []) := by
    intro r
    induction r with
    | zero => 
      intro k H locs ls hk hP hS hl
      obtain rfl : 4 = k := by omega
      refine lv_iload_n X.1 X.2.1 jd_D_begin_12 rfl (lv_at hl 0 rfl) ?_
      refine lv_iconst (v := nI 4) X.1 X.2.1 jd_D_begin_13 (by decide) ?_
      refine kn_cge X.1 X.2.1 jd_D_begin_14 (tgt := 33) (by decide) (by omega) (fun h14 => ?_) (fun h14 => absurd h14 (by omega))
      refine lv_aload_n X.1 X.2.1 jd_D_begin_33 rfl (lv_at hl 1 rfl) ?_
      refine lv_iconst (v := nI 0) X.1 X.2.1 jd_D_begin_34 (by decide) ?_
      refine jp_D_30_14 X hap hP hS jd_D_begin_35 (fun H locs hP hS => ?_)
      have hP : va_P D jCl (jW d a (bgF n z t) g) H := hP
      refine lv_aload_n X.1 X.2.1 jd_D_begin_38 rfl (lv_at hl 1 rfl) ?_
      refine j_rune (j_mkV X hP (c_D_goOn l d D a (bgF n z t) g hap hD _) jU_bs (j_pe X hP) jm_412 jm_411 js_19 jm_4 jm_409 (by decide) rfl rfl (show jOk jy_D_goOn 0 by unfold jOk; decide +kernel) (by decide) ⟨rfl, rfl⟩ hl.1 rfl (Nat.le_of_ble_eq_true rfl) ⟨Nat.zero_le _, Nat.zero_le _⟩ jd_D_begin_39) hS (fun v39 n39 g39 H locs h39 hP hS => ?_)
      obtain ⟨rfl, rfl, rfl⟩ := h39
      refine W.eq (g2 := F0 m 42 ls []) rfl ?_
      exact hQ _ _ _ _ _ _ (⟨rfl, rfl, rfl⟩) hP hS jd_D_begin_42
    | succ r ihr => 
      intro k H locs ls hk hP hS hl
      refine lv_iload_n X.1 X.2.1 jd_D_begin_12 rfl (lv_at hl 0 rfl) ?_
      refine lv_iconst (v := nI 4) X.1 X.2.1 jd_D_begin_13 (by decide) ?_
      refine kn_cge X.1 X.2.1 jd_D_begin_14 (tgt := 33) (by decide) (by omega) (fun h14 => absurd h14 (by omega)) (fun h14 => ?_)
      refine lv_aload_n X.1 X.2.1 jd_D_begin_17 rfl (lv_at hl 1 rfl) ?_
      refine jg_D_23_14 X hP jd_D_begin_18 ?_
      refine lv_iload_n X.1 X.2.1 jd_D_begin_21 rfl (lv_at hl 0 rfl) ?_
      refine j_aald X hP 24 k (by decide) (by omega) jd_D_begin_22 ?_
      refine lv_iconst (v := nI 4294967295) X.1 X.2.1 jd_D_begin_23 (by decide) ?_
      refine j_rune (j_mkS X (c_Arrays_fill l d D a (kfF (ku (ku n 14 4 z) 14 5 t) k) g hap (25 + k) 4294967295 (by omega) (jI_kn (by omega)) _) jU_bs (j_pe X hP) jm_390 jm_389 jm_12 jm_408 (show jOk jy_Arrays_fill 2 by unfold jOk; decide +kernel) (by decide) ⟨rfl, rfl⟩ hl.1 rfl (Nat.le_of_ble_eq_true rfl) ⟨Nat.zero_le _, Nat.zero_le _⟩ jd_D_begin_24) hS (fun v24 n24 g24 H locs h24 hP hS => ?_)
      obtain ⟨rfl, rfl, rfl⟩ := h24
      refine W.eq (g2 := F0 m 27 ls []) rfl ?_
      refine lv_iinc (k := 0) (v := nI (k + 1)) X.1 X.2.1 jd_D_begin_27 hl rfl (kn_inc _) (by decide) rfl (fun ls hl => ?_)
      have hl : lv_has ls 4 [(3, .int (nI (k + 1))), (0, .ref (a 14)), (1, .int (nI z)), (2, .int (nI t))] := hl
      refine lv_goto X.1 X.2.1 jd_D_begin_30 (tgt := 12) (by decide) ?_
      have hl : lv_has ls 4 [(3, .int (nI (k + 1))), (0, .ref (a 14)), (1, .int (nI z)), (2, .int (nI t))] := lv_sub hl [0, 1, 2, 3] rfl
      exact ihr (k + 1) H locs ls (by omega) hP hS hl
  have hl : lv_has ls 4 [(3, .int (nI 0)), (0, .ref (a 14)), (1, .int (nI z)), (2, .int (nI t))] := lv_sub hl [0, 1, 2, 3] rfl
  exact loop12 (4) 0 H locs ls (by omega) hP hS hl
end
section
set_option maxHeartbeats 4000000 in
theorem c_D_askAgain (l : Launch) (d : Nat → Nat) (D : va_G) (a : Nat → Nat) (n : Nat → Nat → Nat) (g : Nat → Nat) (hap : ∀ i j : Nat, i < 52 → j < 52 → a i = a j → i = j) (h1 : 1 ≤ n 14 0) (h2 : n 14 0 ≤ 512) (hw : n 29 (n 14 0 - 1) < 2147483648) (hq4 : n 29 (n 14 0 - 1) / 2 ^ 16 < 4) (hm : n 14 1 < 128) (hkn : n (25 + n 29 (n 14 0 - 1) / 2 ^ 16) (n 14 1) < 4294967296) (hc : n 15 0 ≤ 16) : jEff l d D a n g jy_D_askAgain jb_D_askAgain 1 none { frames := 2, cells := 0, slots := 0, locals := 41 } [.ref (a 14)] (fun v9 n2 g2 => none = v9 ∧ (if unF n = 0 then n else sdF n 0 (n 14 0) 0) = n2 ∧ g = g2) := by
  refine je_V (by decide) (Nat.le_of_ble_eq_true rfl) ?_
  intro p e s m A below meth c ls Q X hP hS hl hQ
  have hl : lv_has ls 1 [(0, .ref (a 14))] := hl
  refine lv_aload_n X.1 X.2.1 jd_D_askAgain_0 rfl (lv_at hl 0 rfl) ?_
  refine j_run (j_mkV X hP (c_D_isNewestUnknown l d D a n g (n 29 (n 14 0 - 1) / 2 ^ 16) h1 h2 hw rfl hq4 hm hkn) jU_b (j_pp X hP) jm_505 jm_504 js_34 jm_4 jm_502 (by decide) rfl rfl (show jOk jy_D_isNewestUnknown 0 by unfold jOk; decide +kernel) (by decide) ⟨rfl, rfl⟩ hl.1 rfl (Nat.le_of_ble_eq_true rfl) ⟨Nat.zero_le _, Nat.zero_le _⟩ jd_D_askAgain_1) ?_
  refine W.eq (g2 := F0 m 4 ls [.int (nI (unF n))]) rfl ?_
  refine kn_eq0 X.1 X.2.1 jd_D_askAgain_4 (tgt := 20) (by decide) (by unfold unF; split <;> omega) (fun h4 => ?_) (fun h4 => ?_)
  · skip
    exact hQ _ _ _ _ _ _ (by first | (rw [if_pos h4]; exact ⟨rfl, rfl, rfl⟩) | (rw [if_neg h4]; exact ⟨rfl, rfl, rfl⟩)) hP hS jd_D_askAgain_20
  · skip
    refine lv_aload_n X.1 X.2.1 jd_D_askAgain_7 rfl (lv_at hl 0 rfl) ?_
    refine jg_D_12_14 X hP jd_D_askAgain_8 ?_
    refine lv_iconst (v := nI 0) X.1 X.2.1 jd_D_askAgain_11 (by decide) ?_
    refine lv_aload_n X.1 X.2.1 jd_D_askAgain_12 rfl (lv_at hl 0 rfl) ?_
    refine jg_D_82_14 X hP jd_D_askAgain_13 ?_
    refine lv_iconst (v := nI 0) X.1 X.2.1 jd_D_askAgain_16 (by decide) ?_
    refine j_rune (j_mkN (host := "KeyDistiller") X hP (c_E_sendF l d D a n g hap 0 (n 14 0) 0 hc _) jU_bs (j_pe X hP) jm_440 jm_439 js_25 jm_5 (by decide +kernel) (by decide) rfl rfl (show jOk jy_E_send 3 by unfold jOk; decide +kernel) (by decide) ⟨rfl, rfl⟩ hl.1 rfl (Nat.le_of_ble_eq_true rfl) ⟨Nat.zero_le _, Nat.zero_le _⟩ jd_D_askAgain_17) hS (fun v17 n17 g17 H locs h17 hP hS => ?_)
    obtain ⟨rfl, rfl, rfl⟩ := h17
    refine W.eq (g2 := F0 m 20 ls []) rfl ?_
    exact hQ _ _ _ _ _ _ (by first | (rw [if_pos h4]; exact ⟨rfl, rfl, rfl⟩) | (rw [if_neg h4]; exact ⟨rfl, rfl, rfl⟩)) hP hS jd_D_askAgain_20

set_option maxHeartbeats 4000000 in
theorem c_D_answer (l : Launch) (d : Nat → Nat) (D : va_G) (a : Nat → Nat) (n : Nat → Nat → Nat) (g : Nat → Nat) (hap : ∀ i j : Nat, i < 52 → j < 52 → a i = a j → i = j) (x : Nat) (hQI : QI n x) (hd2 : n 14 2 < 2147483648) (ho : ∀ p i, p < 4 → i < n 14 5 → n (20 + p) i < 128) (hc : n 15 0 ≤ 16) : jEff l d D a n g jy_D_answer jb_D_answer 3 none { frames := 1, cells := 0, slots := 0, locals := 25 } [.ref (a 14), .int (nI x)] (fun v9 n2 g2 => none = v9 ∧ anF n x = n2 ∧ g = g2) := by
  obtain ⟨q1, q2, q3, q4, q5, q6, q7⟩ := hQI
  refine je_V (by decide) (Nat.le_of_ble_eq_true rfl) ?_
  intro p e s m A below meth c ls Q X hP hS hl hQ
  have hl : lv_has ls 3 [(0, .ref (a 14)), (1, .int (nI x))] := hl
  refine lv_aload_n X.1 X.2.1 jd_D_answer_0 rfl (lv_at hl 0 rfl) ?_
  refine lv_aload_n X.1 X.2.1 jd_D_answer_1 rfl (lv_at hl 0 rfl) ?_
  refine jg_D_92_14 X hP jd_D_answer_2 ?_
  refine lv_iload_n X.1 X.2.1 jd_D_answer_5 rfl (lv_at hl 1 rfl) ?_
  refine j_max X jm_499 (by omega) hl.1 ⟨by decide, Nat.le_of_ble_eq_true rfl⟩ ⟨Nat.zero_le _, Nat.zero_le _⟩ jd_D_answer_6 ?_
  refine jp_D_92_14 X hap hP hS jd_D_answer_9 (fun H locs hP hS => ?_)
  refine lv_aload_n X.1 X.2.1 jd_D_answer_12 rfl (lv_at hl 0 rfl) ?_
  refine jg_D_34_14 X hP jd_D_answer_13 ?_
  refine lv_aload_n X.1 X.2.1 jd_D_answer_16 rfl (lv_at hl 0 rfl) ?_
  refine jg_D_20_14 X hP jd_D_answer_17 ?_
  refine lv_aload_n X.1 X.2.1 jd_D_answer_20 rfl (lv_at hl 0 rfl) ?_
  refine lv_iload_n X.1 X.2.1 jd_D_answer_21 rfl (lv_at hl 1 rfl) ?_
  refine j_run (j_mkV X hP (c_D_passOf l d D a (ku n 14 2 (if n 14 2 < x then x else n 14 2)) g x q1 q2 q3) jU_b (j_pp X hP) jm_201 jm_200 js_2 jm_4 jm_198 (by decide) rfl rfl (show jOk jy_D_passOf 1 by unfold jOk; decide +kernel) (by decide) ⟨rfl, rfl⟩ hl.1 rfl (Nat.le_of_ble_eq_true rfl) ⟨Nat.zero_le _, Nat.zero_le _⟩ jd_D_answer_22) ?_
  refine W.eq (g2 := F0 m 25 ls [.int (nI (n 29 (x - 1) / 2 ^ 16)), .ref (a 19), .ref (a 1)]) rfl ?_
  refine j_aald X hP 19 (n 29 (x - 1) / 2 ^ 16) (by decide) (by omega) jd_D_answer_25 ?_
  refine lv_aload_n X.1 X.2.1 jd_D_answer_26 rfl (lv_at hl 0 rfl) ?_
  refine lv_iload_n X.1 X.2.1 jd_D_answer_27 rfl (lv_at hl 1 rfl) ?_
  refine j_run (j_mkV X hP (c_D_fromOf l d D a (ku n 14 2 (if n 14 2 < x then x else n 14 2)) g x q1 q2 q3) jU_b (j_pp X hP) jm_205 jm_204 js_3 jm_4 jm_202 (by decide) rfl rfl (show jOk jy_D_fromOf 1 by unfold jOk; decide +kernel) (by decide) ⟨rfl, rfl⟩ hl.1 rfl (Nat.le_of_ble_eq_true rfl) ⟨Nat.zero_le _, Nat.zero_le _⟩ jd_D_answer_28) ?_
  refine W.eq (g2 := F0 m 31 ls [.int (nI (n 29 (x - 1) / 2 ^ 8 &&& 255)), .ref (a (20 + (n 29 (x - 1) / 2 ^ 16))), .ref (a 1)]) rfl ?_
  refine lv_aload_n X.1 X.2.1 jd_D_answer_31 rfl (lv_at hl 0 rfl) ?_
  refine lv_iload_n X.1 X.2.1 jd_D_answer_32 rfl (lv_at hl 1 rfl) ?_
  refine j_run (j_mkV X hP (c_D_toOf l d D a (ku n 14 2 (if n 14 2 < x then x else n 14 2)) g x q1 q2 q3) jU_b (j_pp X hP) jm_209 jm_208 js_4 jm_4 jm_206 (by decide) rfl rfl (show jOk jy_D_toOf 1 by unfold jOk; decide +kernel) (by decide) ⟨rfl, rfl⟩ hl.1 rfl (Nat.le_of_ble_eq_true rfl) ⟨Nat.zero_le _, Nat.zero_le _⟩ jd_D_answer_33) ?_
  refine W.eq (g2 := F0 m 36 ls [.int (nI (n 29 (x - 1) &&& 255)), .int (nI (n 29 (x - 1) / 2 ^ 8 &&& 255)), .ref (a (20 + (n 29 (x - 1) / 2 ^ 16))), .ref (a 1)]) rfl ?_
  refine j_run (j_mkN (host := "KeyDistiller") X hP (c_S_parity_1 l d D a (ku n 14 2 (if n 14 2 < x then x else n 14 2)) g (20 + n 29 (x - 1) / 2 ^ 16) (n 29 (x - 1) / 2 ^ 8 &&& 255) (n 29 (x - 1) &&& 255) (by omega) (jI_or q4) q5 (by omega) (fun i hi => by rw [ku_n (by omega)]; exact ho _ _ q4 (by omega))) jU_b (j_pp X hP) jm_456 jm_455 js_29 jm_2 (by decide +kernel) (by decide) rfl rfl (show jOk jy_S_parity 3 by unfold jOk; decide +kernel) (by decide) ⟨rfl, rfl⟩ hl.1 rfl (Nat.le_of_ble_eq_true rfl) ⟨Nat.zero_le _, Nat.zero_le _⟩ jd_D_answer_36) ?_
  refine W.eq (g2 := F0 m 39 ls [.int (nI (parF ((ku n 14 2 (if n 14 2 < x then x else n 14 2)) 6) ((ku n 14 2 (if n 14 2 < x then x else n 14 2)) (20 + n 29 (x - 1) / 2 ^ 16)) (n 29 (x - 1) / 2 ^ 8 &&& 255) ((n 29 (x - 1) &&& 255) - (n 29 (x - 1) / 2 ^ 8 &&& 255))))]) rfl ?_
  have e9 : parF ((ku n 14 2 (if n 14 2 < x then x else n 14 2)) 6) ((ku n 14 2 (if n 14 2 < x then x else n 14 2)) (20 + n 29 (x - 1) / 2 ^ 16)) (n 29 (x - 1) / 2 ^ 8 &&& 255) ((n 29 (x - 1) &&& 255) - (n 29 (x - 1) / 2 ^ 8 &&& 255)) = pnF n x := by unfold pnF; rw [show (ku n 14 2 (if n 14 2 < x then x else n 14 2)) (20 + n 29 (x - 1) / 2 ^ 16) = n (20 + n 29 (x - 1) / 2 ^ 16) from ku_row (by omega)]; rfl
  refine kn_to (y := pnF n x) e9 ?_
  refine lv_istore_n X.1 X.2.1 jd_D_answer_39 rfl hl (by decide) rfl (fun ls hl => ?_)
  have hl : lv_has ls 3 [(2, .int (nI (pnF n x))), (0, .ref (a 14)), (1, .int (nI x))] := hl
  refine lv_aload_n X.1 X.2.1 jd_D_answer_40 rfl (lv_at hl 1 rfl) ?_
  refine jg_D_12_14 X hP jd_D_answer_41 ?_
  refine lv_iconst (v := nI 1) X.1 X.2.1 jd_D_answer_44 (by decide) ?_
  refine lv_iload_n X.1 X.2.1 jd_D_answer_45 rfl (lv_at hl 2 rfl) ?_
  refine lv_iload_n X.1 X.2.1 jd_D_answer_46 rfl (lv_at hl 0 rfl) ?_
  refine j_rune (j_mkN (host := "KeyDistiller") X hP (c_E_sendF l d D a (ku n 14 2 (if n 14 2 < x then x else n 14 2)) g hap 1 x (pnF n x) hc _) jU_bs (j_pe X hP) jm_440 jm_439 js_25 jm_5 (by decide +kernel) (by decide) rfl rfl (show jOk jy_E_send 3 by unfold jOk; decide +kernel) (by decide) ⟨rfl, rfl⟩ hl.1 rfl (Nat.le_of_ble_eq_true rfl) ⟨Nat.zero_le _, Nat.zero_le _⟩ jd_D_answer_47) hS (fun v47 n47 g47 H locs h47 hP hS => ?_)
  obtain ⟨rfl, rfl, rfl⟩ := h47
  refine W.eq (g2 := F0 m 50 ls []) rfl ?_
  exact hQ _ _ _ _ _ _ (⟨rfl, rfl, rfl⟩) hP hS jd_D_answer_50

set_option maxHeartbeats 4000000 in
theorem c_D_deliver (l : Launch) (d : Nat → Nat) (D : va_G) (a : Nat → Nat) (n : Nat → Nat → Nat) (g : Nat → Nat) (hap : ∀ i j : Nat, i < 52 → j < 52 → a i = a j → i = j) (k : Nat) (hk : k < n 15 0) (hc : n 15 0 ≤ 16) (hb : n 16 k < 4294967296 ∧ n 17 k < 4294967296 ∧ n 14 0 < 4294967296) (hA : n 16 k = 0 → QI (tkF n k) (n 17 k)) (hd2 : n 14 2 < 2147483648) (ho : ∀ p i, p < 4 → i < n 14 5 → n (20 + p) i < 128) (h1 : 1 ≤ n 14 0) (h2 : n 14 0 ≤ 512) (hw : n 29 (n 14 0 - 1) < 2147483648) (hq4 : n 29 (n 14 0 - 1) / 2 ^ 16 < 4) (hm : n 14 1 < 128) (hkn : n (25 + n 29 (n 14 0 - 1) / 2 ^ 16) (n 14 1) < 4294967296) (hL : ¬ n 16 k = 0 → n 17 k = n 14 0 → ¬ unF (tkF n k) = 0 → DI (lnF (tkF n k) (n 18 k))) : jEff l d D a n g jy_D_deliver jb_D_deliver 5 none { frames := 5, cells := 0, slots := 0, locals := 119 } [.ref (a 14), .int (nI k)] (fun v9 n2 g2 => none = v9 ∧ dvF n k = n2 ∧ g = g2) := by
  have t14 : (tkF n k) 14 = n 14 := tk_o (by decide)
  have t29 : (tkF n k) 29 = n 29 := tk_o (by decide)
  have tq : ∀ p, p < 4 → (tkF n k) (20 + p) = n (20 + p) := fun p hp => tk_o (by omega)
  have tk : (tkF n k) (25 + n 29 (n 14 0 - 1) / 2 ^ 16) = n (25 + n 29 (n 14 0 - 1) / 2 ^ 16) := tk_o (by omega)
  have t15 : (tkF n k) 15 0 = n 15 0 - 1 := by unfold tkF; rw [ku_s]
  refine je_V (by decide) (Nat.le_of_ble_eq_true rfl) ?_
  intro p e s m A below meth c ls Q X hP hS hl hQ
  have hl : lv_has ls 5 [(0, .ref (a 14)), (1, .int (nI k))] := hl
  refine lv_aload_n X.1 X.2.1 jd_D_deliver_0 rfl (lv_at hl 0 rfl) ?_
  refine jg_D_12_14 X hP jd_D_deliver_1 ?_
  refine jg_D_59_15 X hP jd_D_deliver_4 ?_
  refine lv_iload_n X.1 X.2.1 jd_D_deliver_7 rfl (lv_at hl 1 rfl) ?_
  refine j_ald X hP 16 k (by decide) (show k < 16 from by omega) (by decide) jd_D_deliver_8 ?_
  refine lv_istore_n X.1 X.2.1 jd_D_deliver_9 rfl hl (by decide) rfl (fun ls hl => ?_)
  have hl : lv_has ls 5 [(2, .int (nI (n 16 k))), (0, .ref (a 14)), (1, .int (nI k))] := hl
  refine lv_aload_n X.1 X.2.1 jd_D_deliver_10 rfl (lv_at hl 1 rfl) ?_
  refine jg_D_12_14 X hP jd_D_deliver_11 ?_
  refine jg_D_56_15 X hP jd_D_deliver_14 ?_
  refine lv_iload_n X.1 X.2.1 jd_D_deliver_17 rfl (lv_at hl 2 rfl) ?_
  refine j_ald X hP 17 k (by decide) (show k < 16 from by omega) (by decide) jd_D_deliver_18 ?_
  refine lv_istore_n X.1 X.2.1 jd_D_deliver_19 rfl hl (by decide) rfl (fun ls hl => ?_)
  have hl : lv_has ls 5 [(3, .int (nI (n 17 k))), (2, .int (nI (n 16 k))), (0, .ref (a 14)), (1, .int (nI k))] := hl
  refine lv_aload_n X.1 X.2.1 jd_D_deliver_20 rfl (lv_at hl 2 rfl) ?_
  refine jg_D_12_14 X hP jd_D_deliver_21 ?_
  refine jg_D_66_15 X hP jd_D_deliver_24 ?_
  refine lv_iload_n X.1 X.2.1 jd_D_deliver_27 rfl (lv_at hl 3 rfl) ?_
  refine j_ald X hP 18 k (by decide) (show k < 16 from by omega) (by decide) jd_D_deliver_28 ?_
  refine lv_istore X.1 X.2.1 jd_D_deliver_29 hl (by decide) rfl (fun ls hl => ?_)
  have hl : lv_has ls 5 [(4, .int (nI (n 18 k))), (3, .int (nI (n 17 k))), (2, .int (nI (n 16 k))), (0, .ref (a 14)), (1, .int (nI k))] := hl
  refine lv_aload_n X.1 X.2.1 jd_D_deliver_31 rfl (lv_at hl 3 rfl) ?_
  refine jg_D_12_14 X hP jd_D_deliver_32 ?_
  refine lv_iload_n X.1 X.2.1 jd_D_deliver_35 rfl (lv_at hl 4 rfl) ?_
  refine j_rune (j_mkN (host := "KeyDistiller") X hP (c_E_takeOut l d D a n g hap k hk hc _) jU_bs (j_pe X hP) jm_494 jm_493 js_32 jm_5 (by decide +kernel) (by decide) rfl rfl (show jOk jy_E_takeOut 1 by unfold jOk; decide +kernel) (by decide) ⟨rfl, rfl⟩ hl.1 rfl (Nat.le_of_ble_eq_true rfl) ⟨Nat.zero_le _, Nat.zero_le _⟩ jd_D_deliver_36) hS (fun v36 n36 g36 H locs h36 hP hS => ?_)
  obtain ⟨rfl, rfl, rfl⟩ := h36
  have hP : va_P D jCl (jW d a (tkF n k) g) H := hP
  refine W.eq (g2 := F0 m 39 ls []) rfl ?_
  refine lv_iload_n X.1 X.2.1 jd_D_deliver_39 rfl (lv_at hl 2 rfl) ?_
  refine kn_ne0 X.1 X.2.1 jd_D_deliver_40 (tgt := 51) (by decide) (hb.1) (fun h40 => ?_) (fun h40 => ?_)
  · skip
    refine lv_iload_n X.1 X.2.1 jd_D_deliver_51 rfl (lv_at hl 1 rfl) ?_
    refine lv_aload_n X.1 X.2.1 jd_D_deliver_52 rfl (lv_at hl 3 rfl) ?_
    refine jg_D_82_14 X hP jd_D_deliver_53 ?_
    refine kn_to (y := n 14 0) (by rw [t14]) ?_
    refine kn_cne X.1 X.2.1 jd_D_deliver_56 (tgt := 90) (by decide) (⟨hb.2.1, hb.2.2⟩) (fun h56 => ?_) (fun h56 => ?_)
    · skip
      exact hQ _ _ _ _ _ _ (by unfold dvF; first | (rw [if_pos h40]; exact ⟨rfl, rfl, rfl⟩) | (rw [if_neg h40, if_neg h56]; exact ⟨rfl, rfl, rfl⟩) | (rw [if_neg h40, if_pos h56, if_pos h63]; exact ⟨rfl, rfl, rfl⟩) | (rw [if_neg h40, if_pos h56, if_neg h63]; exact ⟨rfl, rfl, rfl⟩)) hP hS jd_D_deliver_90
    · skip
      refine lv_aload_n X.1 X.2.1 jd_D_deliver_59 rfl (lv_at hl 3 rfl) ?_
      refine j_run (j_mkV X hP (c_D_isNewestUnknown l d D a (tkF n k) g (n 29 (n 14 0 - 1) / 2 ^ 16) (by rw [t14]; exact h1) (by rw [t14]; exact h2) (by rw [t14, t29]; exact hw) (by rw [t14, t29]) hq4 (by rw [t14]; exact hm) (by rw [t14, tk]; exact hkn)) jU_b (j_pp X hP) jm_505 jm_504 js_34 jm_4 jm_502 (by decide) rfl rfl (show jOk jy_D_isNewestUnknown 0 by unfold jOk; decide +kernel) (by decide) ⟨rfl, rfl⟩ hl.1 rfl (Nat.le_of_ble_eq_true rfl) ⟨Nat.zero_le _, Nat.zero_le _⟩ jd_D_deliver_60) ?_
      refine W.eq (g2 := F0 m 63 ls [.int (nI (if (tkF n k) (25 + n 29 (n 14 0 - 1) / 2 ^ 16) ((tkF n k) 14 1) = 4294967295 then 1 else 0))]) rfl ?_
      refine kn_to (y := unF (tkF n k)) (by unfold unF; rw [t14, t29]) ?_
      refine kn_eq0 X.1 X.2.1 jd_D_deliver_63 (tgt := 90) (by decide) (by unfold unF; split <;> omega) (fun h63 => ?_) (fun h63 => ?_)
      · skip
        exact hQ _ _ _ _ _ _ (by unfold dvF; first | (rw [if_pos h40]; exact ⟨rfl, rfl, rfl⟩) | (rw [if_neg h40, if_neg h56]; exact ⟨rfl, rfl, rfl⟩) | (rw [if_neg h40, if_pos h56, if_pos h63]; exact ⟨rfl, rfl, rfl⟩) | (rw [if_neg h40, if_pos h56, if_neg h63]; exact ⟨rfl, rfl, rfl⟩)) hP hS jd_D_deliver_90
      · skip
        refine lv_aload_n X.1 X.2.1 jd_D_deliver_66 rfl (lv_at hl 3 rfl) ?_
        refine jg_D_23_14 X hP jd_D_deliver_67 ?_
        refine lv_aload_n X.1 X.2.1 jd_D_deliver_70 rfl (lv_at hl 3 rfl) ?_
        refine lv_aload_n X.1 X.2.1 jd_D_deliver_71 rfl (lv_at hl 3 rfl) ?_
        refine jg_D_82_14 X hP jd_D_deliver_72 ?_
        refine kn_to (y := n 14 0) (by rw [t14]) ?_
        refine j_run (j_mkV X hP (c_D_passOf l d D a (tkF n k) g (n 14 0) h1 h2 (by rw [t29]; exact hw)) jU_b (j_pp X hP) jm_201 jm_200 js_2 jm_4 jm_198 (by decide) rfl rfl (show jOk jy_D_passOf 1 by unfold jOk; decide +kernel) (by decide) ⟨rfl, rfl⟩ hl.1 rfl (Nat.le_of_ble_eq_true rfl) ⟨Nat.zero_le _, Nat.zero_le _⟩ jd_D_deliver_75) ?_
        refine W.eq (g2 := F0 m 78 ls [.int (nI ((tkF n k) 29 (n 14 0 - 1) / 2 ^ 16)), .ref (a 24)]) rfl ?_
        refine kn_to (y := n 29 (n 14 0 - 1) / 2 ^ 16) (by rw [t29]) ?_
        refine j_aald X hP 24 (n 29 (n 14 0 - 1) / 2 ^ 16) (by decide) (by omega) jd_D_deliver_78 ?_
        refine lv_aload_n X.1 X.2.1 jd_D_deliver_79 rfl (lv_at hl 3 rfl) ?_
        refine jg_D_89_14 X hP jd_D_deliver_80 ?_
        refine kn_to (y := n 14 1) (by rw [t14]) ?_
        refine lv_iload X.1 X.2.1 jd_D_deliver_83 (lv_at hl 0 rfl) ?_
        refine j_ast X hap hP hS (25 + (n 29 (n 14 0 - 1) / 2 ^ 16)) (n 14 1) (n 18 k) (by omega) (by rw [jI_kn hq4]; exact hm) (by rw [jI_kn hq4]; decide) jd_D_deliver_85 (fun H locs hP hS => ?_)
        have hP : va_P D jCl (jW d a (lnF (tkF n k) (n 18 k)) g) H := by unfold lnF; rw [t14, t29]; exact hP
        refine lv_aload_n X.1 X.2.1 jd_D_deliver_86 rfl (lv_at hl 3 rfl) ?_
        refine j_rune (j_mkV X hP (c_D_goOn l d D a (lnF (tkF n k) (n 18 k)) g hap (hL h40 h56 h63) _) jU_bs (j_pe X hP) jm_412 jm_411 js_19 jm_4 jm_409 (by decide) rfl rfl (show jOk jy_D_goOn 0 by unfold jOk; decide +kernel) (by decide) ⟨rfl, rfl⟩ hl.1 rfl (Nat.le_of_ble_eq_true rfl) ⟨Nat.zero_le _, Nat.zero_le _⟩ jd_D_deliver_87) hS (fun v87 n87 g87 H locs h87 hP hS => ?_)
        obtain ⟨rfl, rfl, rfl⟩ := h87
        refine W.eq (g2 := F0 m 90 ls []) rfl ?_
        exact hQ _ _ _ _ _ _ (by unfold dvF; first | (rw [if_pos h40]; exact ⟨rfl, rfl, rfl⟩) | (rw [if_neg h40, if_neg h56]; exact ⟨rfl, rfl, rfl⟩) | (rw [if_neg h40, if_pos h56, if_pos h63]; exact ⟨rfl, rfl, rfl⟩) | (rw [if_neg h40, if_pos h56, if_neg h63]; exact ⟨rfl, rfl, rfl⟩)) hP hS jd_D_deliver_90
  · skip
    refine lv_aload_n X.1 X.2.1 jd_D_deliver_43 rfl (lv_at hl 3 rfl) ?_
    refine lv_iload_n X.1 X.2.1 jd_D_deliver_44 rfl (lv_at hl 1 rfl) ?_
    refine j_rune (j_mkV X hP (c_D_answer l d D a (tkF n k) g hap (n 17 k) (hA h40) (by rw [t14]; exact hd2) (fun p i hp hi => by rw [tq p hp]; rw [t14] at hi; exact ho p i hp hi) (by omega) _) jU_bs (j_pe X hP) jm_498 jm_497 js_33 jm_4 jm_495 (by decide) rfl rfl (show jOk jy_D_answer 1 by unfold jOk; decide +kernel) (by decide) ⟨rfl, rfl⟩ hl.1 rfl (Nat.le_of_ble_eq_true rfl) ⟨Nat.zero_le _, Nat.zero_le _⟩ jd_D_deliver_45) hS (fun v45 n45 g45 H locs h45 hP hS => ?_)
    obtain ⟨rfl, rfl, rfl⟩ := h45
    refine W.eq (g2 := F0 m 48 ls []) rfl ?_
    refine lv_goto X.1 X.2.1 jd_D_deliver_48 (tgt := 90) (by decide) ?_
    exact hQ _ _ _ _ _ _ (by unfold dvF; first | (rw [if_pos h40]; exact ⟨rfl, rfl, rfl⟩) | (rw [if_neg h40, if_neg h56]; exact ⟨rfl, rfl, rfl⟩) | (rw [if_neg h40, if_pos h56, if_pos h63]; exact ⟨rfl, rfl, rfl⟩) | (rw [if_neg h40, if_pos h56, if_neg h63]; exact ⟨rfl, rfl, rfl⟩)) hP hS jd_D_deliver_90
end
section
/-! the throwing roads of KeyDistiller's methods. Over the vx_ rows of part 02 -/
def jB : List Cond := [Cond.declares ⟨"java/lang/RuntimeException", "<init>", "(Ljava/lang/String;)V"⟩, Cond.declares ⟨"java/lang/Exception", "<init>", "(Ljava/lang/String;)V"⟩, Cond.declares ⟨"java/lang/Throwable", "<init>", "(Ljava/lang/String;)V"⟩, Cond.castable "java/lang/IllegalArgumentException" "java/lang/IllegalArgumentException", Cond.castable "java/lang/IllegalStateException" "java/lang/IllegalStateException", Cond.castable "java/lang/IndexOutOfBoundsException" "java/lang/IndexOutOfBoundsException", Cond.castable "java/lang/UnsupportedOperationException" "java/lang/UnsupportedOperationException"]
def jStr : List (Nat × String) := [(55, "no such station or pulses"), (74, "recorded or sifted already"), (84, "sifted already"), (98, "not between sifting and the start"), (100, "no such sample"), (121, "not sifted, or begun already"), (123, "no such size"), (142, "no such action"), (149, "no such letter"), (152, "too many letters"), (178, "not begun"), (195, "not sifted"), (197, "no such station or bit"), (199, "no such pass or item"), (204, "no such station or number"), (209, "the dialogue is not done"), (211, "no such number or margin"), (215, "the tags differ, or no bits are left")]
theorem jB_on : ∀ w ∈ jB, w.onTables = true := by decide +kernel
theorem va_Nw.warmC9 {x y : String} {s U : State} (hW : s.WarmedH U.vm) (hZ : va_Nw (.castable x y) s) : va_Nw (.castable x y) U := va_tabs rfl (rfl : (s.setVm U.vm).vm = U.vm) (by rw [Cond.castable_setVm hW.alike]; exact hZ)
theorem jB_warm {s U : State} (hW : s.WarmedH U.vm) (h : ∀ w ∈ jB, va_Nw w s) : ∀ w ∈ jB, va_Nw w U := by
  intro w hw
  have h2 := h w hw
  simp only [jB, List.mem_cons, List.mem_nil_iff, or_false] at hw
  rcases hw with rfl | rfl | rfl | rfl | rfl | rfl | rfl
  · exact va_Nw.warmD hW h2
  · exact va_Nw.warmD hW h2
  · exact va_Nw.warmD hW h2
  · exact va_Nw.warmC9 hW h2
  · exact va_Nw.warmC9 hW h2
  · exact va_Nw.warmC9 hW h2
  · exact va_Nw.warmC9 hW h2
/-- what a throwing road is told beside -/
def jS (A : Nat → Prop) (U : State) (H : Heap) : Prop := (∀ w ∈ jB, va_Nw w U) ∧ (∀ q ∈ jStr, ∃ sa : Nat, vk_R "KeyDistiller" q.1 q.2 sa U) ∧ vx_Zq Bundle.tN "UNASSIGNED_STACK" Bundle.steD A U H ∧ vx_Zq Bundle.tN "SUPPRESSED_SENTINEL" Bundle.listD A U H
theorem jS.same {A : Nat → Prop} {u U : State} {H : Heap} (hv : u.vm = U.vm) (h : jS A u H) : jS A U H :=
  ⟨fun w hw => va_Nw.same (jB_on w hw) hv (h.1 w hw), fun q hq => by
    obtain ⟨sa, hsa⟩ := h.2.1 q hq
    exact ⟨sa, vk_R.same hv.symm hsa⟩, vx_Zq.moved (by rw [hv]; exact Vm.Alike.refl _) h.2.2.1, vx_Zq.moved (by rw [hv]; exact Vm.Alike.refl _) h.2.2.2⟩
theorem jS.warm {A : Nat → Prop} {s U : State} {H : Heap} (hW : s.WarmedH U.vm) (h : jS A s H) : jS A U H :=
  ⟨jB_warm hW h.1, fun q hq => by
    obtain ⟨sa, hsa⟩ := h.2.1 q hq
    exact ⟨sa, vk_R.warm hW hsa⟩, vx_Zq.moved hW.alike h.2.2.1, vx_Zq.moved hW.alike h.2.2.2⟩
theorem jS.kept {A : Nat → Prop} {U : State} {H H1 : Heap} (hq : ∀ a : Nat, a < H.size → ¬ A a → H1[a]? = H[a]?) (h : jS A U H) : jS A U H1 := ⟨h.1, h.2.1, h.2.2.1.kept hq, h.2.2.2.kept hq⟩
theorem jS.narrow {A B : Nat → Prop} {U : State} {H : Heap} (hAB : ∀ q, B q → A q) (h : jS A U H) : jS B U H := ⟨h.1, h.2.1, h.2.2.1.narrow hAB, h.2.2.2.narrow hAB⟩
/-- the throwing road: an X comes out, nothing that was there has changed -/
abbrev jThr (l : Launch) (d : Nat → Nat) (D : va_G) (a : Nat → Nat) (n : Nat → Nat → Nat) (g : Nat → Nat) (y : MethodName) (b : ByteArray) (mx : Nat) (ret : Option FieldType) (rm : Room) (av : List Value) (X : String) : Prop :=
  vx_Met l y (.code y b mx ret :: jT) rm (va_Pc av (fun U => jU d D a n g U ∧ jS (fun _ => False) U U.heap)) (fun _ _ _ _ => False) (vx_X (fun _ : Unit => True) (fun E _ _ => E = X) (fun _ => False)) 1 6 (fun _ => False)
theorem jt_b {d : Nat → Nat} {D : va_G} {a : Nat → Nat} {n : Nat → Nat → Nat} {g : Nat → Nat} {av : List Value} : FrameBlind (va_Pc av (fun U => jU d D a n g U ∧ jS (fun _ => False) U U.heap)) := by
  intro A U f mk h
  exact ⟨h.1, ⟨jC.same (u := U) (U := U.calling f mk A) rfl h.2.1.1, h.2.1.2⟩, jS.same (u := U) (U := U.calling f mk A) rfl h.2.2⟩
abbrev jUp : List String := ["java/lang/RuntimeException", "java/lang/Exception"]
theorem jt_T {l : Launch} (hlt : l.stackTraces = false) {d : Nat → Nat} {D : va_G} {a : Nat → Nat} {n : Nat → Nat → Nat} {g : Nat → Nat} {y : MethodName} {b : ByteArray} {mx : Nat} {ret : Option FieldType} {rm : Room} {av : List Value} {X : String} (ik ic : Nat) (hyc : y.cls = "KeyDistiller") (hy : plainName y.cls = true) (hle : (lg_sl av).length ≤ mx) (hX : Bundle.fit X = true) (wk : Cond.classLink "KeyDistiller" ik X ∈ jT) (wi : Cond.initialized X ∈ jT)
    (hg : ∀ w ∈ (vx_atS "KeyDistiller" ic X jUp).filter goodWord, w ∈ jT) (hb : ∀ w ∈ (vx_atS "KeyDistiller" ic X jUp).filter (fun w => !goodWord w), w ∈ jB) (ho : ∀ w ∈ Cond.classLink "KeyDistiller" ik X :: Cond.initialized X :: vx_atS "KeyDistiller" ic X jUp, vx_ot w = true) (hR : 5 < rm.frames ∧ 82 ≤ rm.locals ∧ 1 ≤ rm.cells ∧ 6 ≤ rm.slots)
    (body : ∀ (p : Program) (e : Env) (s : State) (m : MethodId) (A : Array Value) (below : List Frame) (meth : Method) (c : Code) (ls : Array Slot) (Q : State → Prop), jX p s m A meth c b mx ret y.cls d D → va_P D jCl (jW d a n g) s.heap → lv_has ls mx (lv_args 0 av) →
      (∀ (pc is : Nat) (text : String) (ls : Array Slot), (is, text) ∈ jStr → ls.size = mx → decode b pc = .ok (.new ik, 3) → decode b (pc + 3) = .ok (.dup, 1) → decode b (pc + 4) = .ok (.ldc is, 2) → decode b (pc + 6) = .ok (.invokespecial ic, 3) → decode b (pc + 9) = .ok (.athrow, 1) → W p l e rm s m A below meth c s.heap [] 0 0 Q (F0 m pc ls [])) → W p l e rm s m A below meth c s.heap [] 0 0 Q (F0 m 0 ls [])) : jThr l d D a n g y b mx ret rm av X := by
  refine vx_ofW (cc := b) (maxL := mx) (ret := ret) hy rfl ?_
  intro p e s m args below meth c s₁ B hml hno hv
  obtain ⟨rfl, ⟨hC, hP⟩, hS⟩ := hv
  have hts := atoms_spec (ws := (Cond.code y b mx ret :: jT)) B.pre
  have hown := findClass_of_methodNamed B.named
  rw [lg_entry_eq]
  refine body p e s m _ below meth c _ _ ⟨B.exec, B.bytes, hml, B.returns, B.notSynchronized, hown, fun w h => hts w (List.mem_cons_of_mem _ h), hC⟩ hP (lv_entry av hle) ?_
  intro pc is text ls hs hsz d0 d3 d4 d6 d9
  obtain ⟨sa, hsa⟩ := hS.2.1 (is, text) hs
  have hown' : s.vm.findClass "KeyDistiller" = some m.cls := by rw [← hyc]; exact hown
  exact vx_throwS (own := "KeyDistiller") (cls := X) (text := text) (names := jUp) (ik := ik) (is := is) (ic := ic) (sa := sa) (A := fun _ => False) B.exec B.bytes hlt hown' hX (by decide +kernel) (hts _ (List.mem_cons_of_mem _ wk)) (hts _ (List.mem_cons_of_mem _ wi)) hsa
    (vx_hat (B := jB) (fun w h => hts _ (List.mem_cons_of_mem _ (hg w h))) hb (fun w h => va_Nw.use (jB_on w h) (hS.1 w h))) ho hS.2.2.1 hS.2.2.2 va_S.rf (hsz.trans hml.symm) d0 d3 d4 d6 d9 (fun x hx => absurd (hno x hx) id) hR.1 (by show 0 + (13 * (2 + 1) + 43) ≤ _; exact hR.2.1) (by show 0 + 1 ≤ _; exact hR.2.2.1) (by show 0 + 6 ≤ _; exact hR.2.2.2) B.notSynchronized
    (fun t hal hz hq => ⟨(), trivial, rfl, hz, fun q h1 _ => hq q h1⟩) (fun _ h => by cases h) (Nat.le_refl _) (Nat.le_refl _)
theorem jx_gIA : ∀ w ∈ (vx_atS "KeyDistiller" 57 "java/lang/IllegalArgumentException" jUp).filter goodWord, w ∈ jT := by decide +kernel
theorem jx_bIA : ∀ w ∈ (vx_atS "KeyDistiller" 57 "java/lang/IllegalArgumentException" jUp).filter (fun w => !goodWord w), w ∈ jB := by decide +kernel
theorem jx_oIA : ∀ w ∈ Cond.classLink "KeyDistiller" 53 "java/lang/IllegalArgumentException" :: Cond.initialized "java/lang/IllegalArgumentException" :: vx_atS "KeyDistiller" 57 "java/lang/IllegalArgumentException" jUp, vx_ot w = true := by decide +kernel
theorem jx_fIA : Bundle.fit "java/lang/IllegalArgumentException" = true := by decide +kernel
theorem jx_gIS : ∀ w ∈ (vx_atS "KeyDistiller" 76 "java/lang/IllegalStateException" jUp).filter goodWord, w ∈ jT := by decide +kernel
theorem jx_bIS : ∀ w ∈ (vx_atS "KeyDistiller" 76 "java/lang/IllegalStateException" jUp).filter (fun w => !goodWord w), w ∈ jB := by decide +kernel
theorem jx_oIS : ∀ w ∈ Cond.classLink "KeyDistiller" 72 "java/lang/IllegalStateException" :: Cond.initialized "java/lang/IllegalStateException" :: vx_atS "KeyDistiller" 76 "java/lang/IllegalStateException" jUp, vx_ot w = true := by decide +kernel
theorem jx_fIS : Bundle.fit "java/lang/IllegalStateException" = true := by decide +kernel
theorem jx_gIO : ∀ w ∈ (vx_atS "KeyDistiller" 151 "java/lang/IndexOutOfBoundsException" jUp).filter goodWord, w ∈ jT := by decide +kernel
theorem jx_bIO : ∀ w ∈ (vx_atS "KeyDistiller" 151 "java/lang/IndexOutOfBoundsException" jUp).filter (fun w => !goodWord w), w ∈ jB := by decide +kernel
theorem jx_oIO : ∀ w ∈ Cond.classLink "KeyDistiller" 147 "java/lang/IndexOutOfBoundsException" :: Cond.initialized "java/lang/IndexOutOfBoundsException" :: vx_atS "KeyDistiller" 151 "java/lang/IndexOutOfBoundsException" jUp, vx_ot w = true := by decide +kernel
theorem jx_fIO : Bundle.fit "java/lang/IndexOutOfBoundsException" = true := by decide +kernel
theorem jx_gUO : ∀ w ∈ (vx_atS "KeyDistiller" 217 "java/lang/UnsupportedOperationException" jUp).filter goodWord, w ∈ jT := by decide +kernel
theorem jx_bUO : ∀ w ∈ (vx_atS "KeyDistiller" 217 "java/lang/UnsupportedOperationException" jUp).filter (fun w => !goodWord w), w ∈ jB := by decide +kernel
theorem jx_oUO : ∀ w ∈ Cond.classLink "KeyDistiller" 213 "java/lang/UnsupportedOperationException" :: Cond.initialized "java/lang/UnsupportedOperationException" :: vx_atS "KeyDistiller" 217 "java/lang/UnsupportedOperationException" jUp, vx_ot w = true := by decide +kernel
theorem jx_fUO : Bundle.fit "java/lang/UnsupportedOperationException" = true := by decide +kernel
end
section
/-! pure words: KeyDistiller's own methods -/
theorem flF_o {n : Nat → Nat → Nat} {q x : Nat} (h : x ≠ q) : ∀ k, flF n q k x = n x
  | 0 => rfl
  | k + 1 => by simp only [flF]; rw [ku_row h]; exact flF_o h k
theorem fiF_o {n : Nat → Nat → Nat} {q v x : Nat} (h : x ≠ q) : ∀ k, fiF n q v k x = n x
  | 0 => rfl
  | k + 1 => by simp only [fiF]; rw [ku_row h]; exact fiF_o h k
theorem swP_o {n : Nat → Nat → Nat} {q z t x : Nat} (h : x ≠ q) : ∀ k, (swP n q z t k).1 x = n x
  | 0 => flF_o h t
  | k + 1 => by simp only [swP]; rw [ku_row h, ku_row h]; exact swP_o h k
theorem lvP_o {n : Nat → Nat → Nat} {c q x : Nat} (h : x ≠ c) : ∀ k, (lvP n c q k).1 x = n x
  | 0 => rfl
  | k + 1 => by
    simp only [lvP]
    split
    · show ku _ c _ _ x = n x
      rw [ku_row h]; exact lvP_o h k
    · exact lvP_o h k
def shuF (n : Nat → Nat → Nat) (q z t : Nat) : Nat → Nat → Nat := if t = 0 then n else (swP n q z t (t - 1)).1
def shuS (n : Nat → Nat → Nat) (q z t : Nat) : Nat := if t = 0 then z else (swP n q z t (t - 1)).2
theorem shuF_o {n : Nat → Nat → Nat} {q z t x : Nat} (h : x ≠ q) : shuF n q z t x = n x := by
  unfold shuF
  split
  · rfl
  · exact swP_o h _
def smP (n : Nat → Nat → Nat) : Nat → (Nat → Nat → Nat) × Nat
  | 0 => (n, 0)
  | i + 1 => (ku (smP n i).1 31 ((smP n i).1 30 i) 1, (smP n i).2 + (ku (smP n i).1 31 ((smP n i).1 30 i) 1 6 ((smP n i).1 30 i) ^^^ ku (smP n i).1 31 ((smP n i).1 30 i) 1 12 ((smP n i).1 30 i)))
theorem smP_o {n : Nat → Nat → Nat} {x : Nat} (h : x ≠ 31) : ∀ k, (smP n k).1 x = n x
  | 0 => rfl
  | k + 1 => by simp only [smP]; rw [ku_row h]; exact smP_o h k
theorem smP_d {n : Nat → Nat → Nat} (h6 : ∀ i, n 6 i < 2) (h12 : ∀ i, n 12 i < 2) : ∀ k, (smP n k).2 ≤ k
  | 0 => Nat.le_refl _
  | k + 1 => by
    have ih := smP_d h6 h12 k
    simp only [smP]
    rw [show ku (smP n k).1 31 ((smP n k).1 30 k) 1 6 = n 6 from by rw [ku_row (by decide), smP_o (by decide)], show ku (smP n k).1 31 ((smP n k).1 30 k) 1 12 = n 12 from by rw [ku_row (by decide), smP_o (by decide)]]
    have := kx1 (h6 ((smP n k).1 30 k)) (h12 ((smP n k).1 30 k))
    omega
/-- sampling: behind the shuffle and the marks -/
def sa0 (n : Nat → Nat → Nat) (z k : Nat) : (Nat → Nat → Nat) × Nat := smP (fiF (shuF n 30 z (n 0 0)) 31 0 128) k
def sa1 (n : Nat → Nat → Nat) (z k : Nat) : Nat → Nat → Nat := (lvP (lvP (sa0 n z k).1 6 31 (n 0 0)).1 12 31 (n 0 0)).1
def saF (n : Nat → Nat → Nat) (z k : Nat) : Nat → Nat → Nat := ku (ku (ku (sa1 n z k) 0 0 (n 0 0 - k)) 0 1 (n 0 1 + k)) 0 2 (n 0 2 + (sa0 n z k).2)
theorem sa0_o {n : Nat → Nat → Nat} {z k x : Nat} (h : x ≠ 31 ∧ x ≠ 30) : (sa0 n z k).1 x = n x := by
  unfold sa0
  rw [smP_o h.1, fiF_o h.1, shuF_o h.2]
theorem sa1_o {n : Nat → Nat → Nat} {z k x : Nat} (h : x ≠ 31 ∧ x ≠ 30 ∧ x ≠ 6 ∧ x ≠ 12) : sa1 n z k x = n x := by
  unfold sa1
  rw [lvP_o h.2.2.2, lvP_o h.2.2.1, sa0_o ⟨h.1, h.2.1⟩]
/-- all numbers are ints -/
def NB (n : Nat → Nat → Nat) : Prop := ∀ i j, n i j < 4294967296
theorem NB_ku {n : Nat → Nat → Nat} {i j v : Nat} (h : NB n) (hv : v < 4294967296) : NB (ku n i j v) := by
  intro x y
  unfold ku
  split
  · split
    · exact hv
    · exact h x y
  · exact h x y
theorem NB_fiF {n : Nat → Nat → Nat} {q v : Nat} (h : NB n) (hv : v < 4294967296) : ∀ k, NB (fiF n q v k)
  | 0 => h
  | k + 1 => NB_ku (NB_fiF h hv k) hv
theorem NB_flF {n : Nat → Nat → Nat} {q : Nat} (h : NB n) : ∀ k, k ≤ 4294967296 → NB (flF n q k)
  | 0, _ => h
  | k + 1, hk => NB_ku (NB_flF h k (by omega)) (by omega)
theorem NB_swP {n : Nat → Nat → Nat} {q z t : Nat} (h : NB n) (ht : t ≤ 4294967296) : ∀ k, NB (swP n q z t k).1
  | 0 => NB_flF h t ht
  | k + 1 => NB_ku (NB_ku (NB_swP h ht k) (NB_swP h ht k _ _)) (NB_swP h ht k _ _)
theorem NB_shuF {n : Nat → Nat → Nat} {q z t : Nat} (h : NB n) (ht : t ≤ 4294967296) : NB (shuF n q z t) := by
  unfold shuF
  split
  · exact h
  · exact NB_swP h ht _
theorem NB_smP {n : Nat → Nat → Nat} (h : NB n) : ∀ k, NB (smP n k).1
  | 0 => h
  | k + 1 => NB_ku (NB_smP h k) (by decide)
theorem NB_lvP {n : Nat → Nat → Nat} {c q : Nat} (h : NB n) : ∀ k, NB (lvP n c q k).1
  | 0 => h
  | k + 1 => by
    simp only [lvP]
    split
    · exact NB_ku (NB_lvP h k) (NB_lvP h k _ _)
    · exact NB_lvP h k
theorem NB_sa0 {n : Nat → Nat → Nat} {z k : Nat} (h : NB n) : NB (sa0 n z k).1 := NB_smP (NB_fiF (NB_shuF h (Nat.le_of_lt (h _ _))) (by decide) _) _
/-- starting: the four orders -/
def stO (n : Nat → Nat → Nat) (z : Nat) : Nat → Nat → Nat → Nat
  | 0 => n
  | p + 1 => shuF (stO n z p) (20 + p) (z + p) (n 0 0)
def stS (n : Nat → Nat → Nat) (s z : Nat) : Nat → Nat
  | 0 => s
  | p + 1 => shuS (stO n z p) (20 + p) (z + p) (n 0 0)
theorem stO_o {n : Nat → Nat → Nat} {z x : Nat} (h : ∀ p, p < 4 → x ≠ 20 + p) : ∀ k, k ≤ 4 → stO n z k x = n x
  | 0, _ => rfl
  | k + 1, hk => by simp only [stO]; rw [shuF_o (h k (by omega))]; exact stO_o h k (by omega)
/-- the pulses that are kept -/
def kpF (n : Nat → Nat → Nat) (k : Nat) : Nat := if n 2 k = 0 then 0 else if n 8 k = 0 then 0 else if n 11 k = 1 then (if n 3 k = n 9 k then 1 else 0) else 0
theorem kpF_lt (n : Nat → Nat → Nat) (k : Nat) : kpF n k < 2 := by
  unfold kpF
  split; · decide
  split; · decide
  split
  · split <;> decide
  · decide
def siP (n : Nat → Nat → Nat) : Nat → (Nat → Nat → Nat) × Nat
  | 0 => (n, 0)
  | k + 1 => if kpF (siP n k).1 k = 0 then siP n k else (ku (ku (siP n k).1 6 (siP n k).2 ((siP n k).1 4 k)) 12 (siP n k).2 (ku (siP n k).1 6 (siP n k).2 ((siP n k).1 4 k) 10 k), (siP n k).2 + 1)
theorem siP_le (n : Nat → Nat → Nat) : ∀ k, (siP n k).2 ≤ k
  | 0 => Nat.le_refl _
  | k + 1 => by
    have := siP_le n k
    simp only [siP]
    split
    · omega
    · show (siP n k).2 + 1 ≤ k + 1; omega
def siF (n : Nat → Nat → Nat) : Nat → Nat → Nat := ku (siP n 128).1 0 0 (siP n 128).2
theorem NB_siP {n : Nat → Nat → Nat} (h : NB n) : ∀ k, NB (siP n k).1
  | 0 => h
  | k + 1 => by
    have ih := NB_siP h k
    simp only [siP]
    split
    · exact ih
    · exact NB_ku (NB_ku ih (ih _ _)) (NB_ku ih (ih _ _) _ _)
/-- key bits -/
def kyF (str dr : Nat → Nat) (q : Nat) : Nat → Nat
  | 0 => 0
  | k + 1 => kyF str dr q k ^^^ (str k &&& dr (k + q))
/-- drawing the key's bits -/
def drP (n : Nat → Nat → Nat) (z : Nat) : Nat → (Nat → Nat → Nat) × Nat
  | 0 => (n, z)
  | k + 1 => (ku (drP n z k).1 32 k (advF (drP n z k).2 / 2 ^ 63), advF (drP n z k).2)
theorem drP_o {n : Nat → Nat → Nat} {z x : Nat} (h : x ≠ 32) : ∀ k, (drP n z k).1 x = n x
  | 0 => rfl
  | k + 1 => by simp only [drP]; rw [ku_row h]; exact drP_o h k
/-- what a letter tells -/
def tlF (n : Nat → Nat → Nat) (k x : Nat) : Nat :=
  if x = 0 then n 16 k else if x = 1 then n 17 k else if x = 2 then (if n 16 k = 0 then n 29 (n 17 k - 1) / 2 ^ 16 else n 18 k) else if x = 3 then (if n 16 k = 0 then n 29 (n 17 k - 1) / 2 ^ 8 &&& 255 else 4294967295) else if x = 4 then (if n 16 k = 0 then n 29 (n 17 k - 1) &&& 255 else 4294967295) else 4294967295
theorem noteF_o {n : Nat → Nat → Nat} {o f b v z x : Nat} (h : x ≠ o + 1 ∧ x ≠ o + 2 ∧ x ≠ o + 3 ∧ x ≠ o + 4) : ∀ k, noteF n o f b v z k x = n x
  | 0 => rfl
  | k + 1 => by simp only [noteF]; rw [ku_row h.2.2.2, ku_row h.2.2.1, ku_row h.2.1, ku_row h.1]; exact noteF_o h k
theorem kn_sw2 {x : Int} (h0 : ¬ x = 0) (h1 : ¬ x = 1) : Op.lookupswitch.offset (#[((0 : Int), (27 : Int)), (1, 32)]).toList 37 x = 37 := by
  have e0 : ¬ (0 : Int) = x := fun q => h0 q.symm
  have e1 : ¬ (1 : Int) = x := fun q => h1 q.symm
  simp [Op.lookupswitch.offset, h0, h1, e0, e1]
end
section
set_option maxHeartbeats 4000000 in
theorem c_K_done (l : Launch) (d : Nat → Nat) (D : va_G) (a : Nat → Nat) (n : Nat → Nat → Nat) (g : Nat → Nat) (hB : NB n)  : jPure l d D a n g jy_K_done jb_K_done 1 (some .boolean) { frames := 1, cells := 0, slots := 0, locals := 20 } [.ref (a 0)] (some (.int (nI (if n 14 3 = 4 then 1 else 0)))) := by
  refine jq_Z (by first | omega | (split <;> omega)) (by decide) (Nat.le_of_ble_eq_true rfl) ?_
  intro p e s m A below meth c ls Q X hP hl hQ
  have hl : lv_has ls 1 [(0, .ref (a 0))] := hl
  refine lv_aload_n X.1 X.2.1 jd_K_done_0 rfl (lv_at hl 0 rfl) ?_
  refine jg_K_31_0 X hP jd_K_done_1 ?_
  refine j_run (j_mkN (host := "KeyDistiller") X hP (c_D_isOver l d D a n g (hB _ _)) jU_b (j_pp X hP) jm_217 jm_216 js_5 jm_4 (by decide +kernel) (by decide) rfl rfl (show jOk jy_D_isOver 0 by unfold jOk; decide +kernel) (by decide) ⟨rfl, rfl⟩ hl.1 rfl (Nat.le_of_ble_eq_true rfl) ⟨Nat.zero_le _, Nat.zero_le _⟩ jd_K_done_4) ?_
  refine W.eq (g2 := F0 m 7 ls [.int (nI (if n 14 3 = 4 then 1 else 0))]) rfl ?_
  exact kn_to (by first | rfl | omega | (split <;> omega)) (hQ _ _ jd_K_done_7)

set_option maxHeartbeats 4000000 in
theorem c_K_answered (l : Launch) (d : Nat → Nat) (D : va_G) (a : Nat → Nat) (n : Nat → Nat → Nat) (g : Nat → Nat) (k : Nat) (hk : k < 4294967296) (hd : n 14 2 ≤ 512) : jPure l d D a n g jy_K_answered jb_K_answered 2 (some .int) { frames := 0, cells := 0, slots := 0, locals := 0 } [.ref (a 0), .int (nI k)] (some (.int (nI (if k < n 14 2 then n 29 k else 4294967295)))) := by
  refine jq_I (by decide) (Nat.le_of_ble_eq_true rfl) ?_
  intro p e s m A below meth c ls Q X hP hl hQ
  have hl : lv_has ls 2 [(0, .ref (a 0)), (1, .int (nI k))] := hl
  refine lv_iload_n X.1 X.2.1 jd_K_answered_0 rfl (lv_at hl 1 rfl) ?_
  refine kn_lt0 X.1 X.2.1 jd_K_answered_1 (tgt := 27) (by decide) (by omega) (fun h1 => ?_) (fun h1 => ?_)
  · skip
    refine lv_iconst (v := nI 4294967295) X.1 X.2.1 jd_K_answered_27 (by decide) ?_
    exact kn_to (by first | rw [if_pos (by omega)] | rw [if_neg (by omega)]) (hQ _ _ jd_K_answered_28)
  · skip
    refine lv_iload_n X.1 X.2.1 jd_K_answered_4 rfl (lv_at hl 1 rfl) ?_
    refine lv_aload_n X.1 X.2.1 jd_K_answered_5 rfl (lv_at hl 0 rfl) ?_
    refine jg_K_31_0 X hP jd_K_answered_6 ?_
    refine jg_K_189_14 X hP jd_K_answered_9 ?_
    refine kn_cge X.1 X.2.1 jd_K_answered_12 (tgt := 27) (by decide) (by omega) (fun h12 => ?_) (fun h12 => ?_)
    · skip
      refine lv_iconst (v := nI 4294967295) X.1 X.2.1 jd_K_answered_27 (by decide) ?_
      exact kn_to (by first | rw [if_pos (by omega)] | rw [if_neg (by omega)]) (hQ _ _ jd_K_answered_28)
    · skip
      refine lv_aload_n X.1 X.2.1 jd_K_answered_15 rfl (lv_at hl 0 rfl) ?_
      refine jg_K_31_0 X hP jd_K_answered_16 ?_
      refine jg_K_192_14 X hP jd_K_answered_19 ?_
      refine lv_iload_n X.1 X.2.1 jd_K_answered_22 rfl (lv_at hl 1 rfl) ?_
      refine j_ald X hP 29 k (by decide) (show k < 512 from by omega) (by decide) jd_K_answered_23 ?_
      refine lv_goto X.1 X.2.1 jd_K_answered_24 (tgt := 28) (by decide) ?_
      exact kn_to (by first | rw [if_pos (by omega)] | rw [if_neg (by omega)]) (hQ _ _ jd_K_answered_28)

set_option maxHeartbeats 4000000 in
theorem c_K_sampled_0 (l : Launch) (d : Nat → Nat) (D : va_G) (a : Nat → Nat) (n : Nat → Nat → Nat) (g : Nat → Nat)  : jPure l d D a n g jy_K_sampled jb_K_sampled 2 (some .int) { frames := 0, cells := 0, slots := 0, locals := 0 } [.ref (a 0), .int (nI 0)] (some (.int (nI (n 0 1)))) := by
  refine jq_I (by decide) (Nat.le_of_ble_eq_true rfl) ?_
  intro p e s m A below meth c ls Q X hP hl hQ
  have hl : lv_has ls 2 [(0, .ref (a 0)), (1, .int (nI 0))] := hl
  refine lv_iload_n X.1 X.2.1 jd_K_sampled_0 rfl (lv_at hl 1 rfl) ?_
  refine lv_lookup X.1 X.2.1 jd_K_sampled_1 (by decide) (off := 27) (by decide) (tgt := 28) (by decide) ?_
  refine lv_aload_n X.1 X.2.1 jd_K_sampled_28 rfl (lv_at hl 0 rfl) ?_
  refine jg_K_115_0 X hP jd_K_sampled_29 ?_
  exact kn_to (by first | rfl | omega | (split <;> omega)) (hQ _ _ jd_K_sampled_32)

set_option maxHeartbeats 4000000 in
theorem c_K_sampled_1 (l : Launch) (d : Nat → Nat) (D : va_G) (a : Nat → Nat) (n : Nat → Nat → Nat) (g : Nat → Nat)  : jPure l d D a n g jy_K_sampled jb_K_sampled 2 (some .int) { frames := 0, cells := 0, slots := 0, locals := 0 } [.ref (a 0), .int (nI 1)] (some (.int (nI (n 0 2)))) := by
  refine jq_I (by decide) (Nat.le_of_ble_eq_true rfl) ?_
  intro p e s m A below meth c ls Q X hP hl hQ
  have hl : lv_has ls 2 [(0, .ref (a 0)), (1, .int (nI 1))] := hl
  refine lv_iload_n X.1 X.2.1 jd_K_sampled_0 rfl (lv_at hl 1 rfl) ?_
  refine lv_lookup X.1 X.2.1 jd_K_sampled_1 (by decide) (off := 32) (by decide) (tgt := 33) (by decide) ?_
  refine lv_aload_n X.1 X.2.1 jd_K_sampled_33 rfl (lv_at hl 0 rfl) ?_
  refine jg_K_118_0 X hP jd_K_sampled_34 ?_
  exact kn_to (by first | rfl | omega | (split <;> omega)) (hQ _ _ jd_K_sampled_37)

set_option maxHeartbeats 4000000 in
theorem c_K_sampled_x (l : Launch) (d : Nat → Nat) (D : va_G) (a : Nat → Nat) (n : Nat → Nat → Nat) (g : Nat → Nat) (x : Nat) (hx : x < 4294967296) (hx2 : 2 ≤ x) : jPure l d D a n g jy_K_sampled jb_K_sampled 2 (some .int) { frames := 0, cells := 0, slots := 0, locals := 0 } [.ref (a 0), .int (nI x)] (some (.int (nI 4294967295))) := by
  refine jq_I (by decide) (Nat.le_of_ble_eq_true rfl) ?_
  intro p e s m A below meth c ls Q X hP hl hQ
  have hl : lv_has ls 2 [(0, .ref (a 0)), (1, .int (nI x))] := hl
  refine lv_iload_n X.1 X.2.1 jd_K_sampled_0 rfl (lv_at hl 1 rfl) ?_
  have hti : ¬ (nI x).toInt = 0 ∧ ¬ (nI x).toInt = 1 := by rw [kn_toInt hx]; split <;> omega
  refine lv_lookup X.1 X.2.1 jd_K_sampled_1 (by decide) (off := 37) (kn_sw2 hti.1 hti.2) (tgt := 38) (by decide) ?_
  refine lv_iconst (v := nI 4294967295) X.1 X.2.1 jd_K_sampled_38 (by decide) ?_
  exact kn_to (by first | rfl | omega | (split <;> omega)) (hQ _ _ jd_K_sampled_39)

set_option maxHeartbeats 4000000 in
theorem c_K_isKept (l : Launch) (d : Nat → Nat) (D : va_G) (a : Nat → Nat) (n : Nat → Nat → Nat) (g : Nat → Nat) (k : Nat) (hk : k < 128) (hB : NB n)  : jPure l d D a n g jy_K_isKept jb_K_isKept 2 (some .boolean) { frames := 0, cells := 0, slots := 0, locals := 0 } [.ref (a 0), .int (nI k)] (some (.int (nI (kpF n k)))) := by
  refine jq_Z (kpF_lt _ _) (by decide) (Nat.le_of_ble_eq_true rfl) ?_
  intro p e s m A below meth c ls Q X hP hl hQ
  have hl : lv_has ls 2 [(0, .ref (a 0)), (1, .int (nI k))] := hl
  refine lv_aload_n X.1 X.2.1 jd_K_isKept_0 rfl (lv_at hl 0 rfl) ?_
  refine jg_K_10_0 X hP jd_K_isKept_1 ?_
  refine jg_K_230_1 X hP jd_K_isKept_4 ?_
  refine lv_iload_n X.1 X.2.1 jd_K_isKept_7 rfl (lv_at hl 1 rfl) ?_
  refine j_zald X hP 2 k (by decide) (show k < 128 from by omega) (by decide) jd_K_isKept_8 ?_
  refine kn_eq0 X.1 X.2.1 jd_K_isKept_9 (tgt := 62) (by decide) (hB _ _) (fun h9 => ?_) (fun h9 => ?_)
  · skip
    refine lv_iconst (v := nI 0) X.1 X.2.1 jd_K_isKept_62 (by decide) ?_
    exact kn_to (by unfold kpF; first | rw [if_pos h9] | rw [if_neg h9, if_pos h21] | rw [if_neg h9, if_neg h21, if_neg h34] | rw [if_neg h9, if_neg h21, if_pos h34, if_pos h55] | rw [if_neg h9, if_neg h21, if_pos h34, if_neg h55]) (hQ _ _ jd_K_isKept_63)
  · skip
    refine lv_aload_n X.1 X.2.1 jd_K_isKept_12 rfl (lv_at hl 0 rfl) ?_
    refine jg_K_16_0 X hP jd_K_isKept_13 ?_
    refine jg_K_230_7 X hP jd_K_isKept_16 ?_
    refine lv_iload_n X.1 X.2.1 jd_K_isKept_19 rfl (lv_at hl 1 rfl) ?_
    refine j_zald X hP 8 k (by decide) (show k < 128 from by omega) (by decide) jd_K_isKept_20 ?_
    refine kn_eq0 X.1 X.2.1 jd_K_isKept_21 (tgt := 62) (by decide) (hB _ _) (fun h21 => ?_) (fun h21 => ?_)
    · skip
      refine lv_iconst (v := nI 0) X.1 X.2.1 jd_K_isKept_62 (by decide) ?_
      exact kn_to (by unfold kpF; first | rw [if_pos h9] | rw [if_neg h9, if_pos h21] | rw [if_neg h9, if_neg h21, if_neg h34] | rw [if_neg h9, if_neg h21, if_pos h34, if_pos h55] | rw [if_neg h9, if_neg h21, if_pos h34, if_neg h55]) (hQ _ _ jd_K_isKept_63)
    · skip
      refine lv_aload_n X.1 X.2.1 jd_K_isKept_24 rfl (lv_at hl 0 rfl) ?_
      refine jg_K_16_0 X hP jd_K_isKept_25 ?_
      refine jg_K_234_7 X hP jd_K_isKept_28 ?_
      refine lv_iload_n X.1 X.2.1 jd_K_isKept_31 rfl (lv_at hl 1 rfl) ?_
      refine j_ald X hP 11 k (by decide) (show k < 128 from by omega) (by decide) jd_K_isKept_32 ?_
      refine lv_iconst (v := nI 1) X.1 X.2.1 jd_K_isKept_33 (by decide) ?_
      refine kn_cne X.1 X.2.1 jd_K_isKept_34 (tgt := 62) (by decide) (⟨hB _ _, by decide⟩) (fun h34 => ?_) (fun h34 => ?_)
      · skip
        refine lv_iconst (v := nI 0) X.1 X.2.1 jd_K_isKept_62 (by decide) ?_
        exact kn_to (by unfold kpF; first | rw [if_pos h9] | rw [if_neg h9, if_pos h21] | rw [if_neg h9, if_neg h21, if_neg h34] | rw [if_neg h9, if_neg h21, if_pos h34, if_pos h55] | rw [if_neg h9, if_neg h21, if_pos h34, if_neg h55]) (hQ _ _ jd_K_isKept_63)
      · skip
        refine lv_aload_n X.1 X.2.1 jd_K_isKept_37 rfl (lv_at hl 0 rfl) ?_
        refine jg_K_10_0 X hP jd_K_isKept_38 ?_
        refine jg_K_237_1 X hP jd_K_isKept_41 ?_
        refine lv_iload_n X.1 X.2.1 jd_K_isKept_44 rfl (lv_at hl 1 rfl) ?_
        refine j_ald X hP 3 k (by decide) (show k < 128 from by omega) (by decide) jd_K_isKept_45 ?_
        refine lv_aload_n X.1 X.2.1 jd_K_isKept_46 rfl (lv_at hl 0 rfl) ?_
        refine jg_K_16_0 X hP jd_K_isKept_47 ?_
        refine jg_K_237_7 X hP jd_K_isKept_50 ?_
        refine lv_iload_n X.1 X.2.1 jd_K_isKept_53 rfl (lv_at hl 1 rfl) ?_
        refine j_ald X hP 9 k (by decide) (show k < 128 from by omega) (by decide) jd_K_isKept_54 ?_
        refine kn_cne X.1 X.2.1 jd_K_isKept_55 (tgt := 62) (by decide) (⟨hB _ _, hB _ _⟩) (fun h55 => ?_) (fun h55 => ?_)
        · skip
          refine lv_iconst (v := nI 0) X.1 X.2.1 jd_K_isKept_62 (by decide) ?_
          exact kn_to (by unfold kpF; first | rw [if_pos h9] | rw [if_neg h9, if_pos h21] | rw [if_neg h9, if_neg h21, if_neg h34] | rw [if_neg h9, if_neg h21, if_pos h34, if_pos h55] | rw [if_neg h9, if_neg h21, if_pos h34, if_neg h55]) (hQ _ _ jd_K_isKept_63)
        · skip
          refine lv_iconst (v := nI 1) X.1 X.2.1 jd_K_isKept_58 (by decide) ?_
          refine lv_goto X.1 X.2.1 jd_K_isKept_59 (tgt := 63) (by decide) ?_
          exact kn_to (by unfold kpF; first | rw [if_pos h9] | rw [if_neg h9, if_pos h21] | rw [if_neg h9, if_neg h21, if_neg h34] | rw [if_neg h9, if_neg h21, if_pos h34, if_pos h55] | rw [if_neg h9, if_neg h21, if_pos h34, if_neg h55]) (hQ _ _ jd_K_isKept_63)

set_option maxHeartbeats 4000000 in
theorem c_K_sift (l : Launch) (d : Nat → Nat) (D : va_G) (a : Nat → Nat) (n : Nat → Nat → Nat) (g : Nat → Nat) (hap : ∀ i j : Nat, i < 52 → j < 52 → a i = a j → i = j) (hB : NB n) (hs : n 0 0 = 4294967295) : jEff l d D a n g jy_K_sift jb_K_sift 3 (some .int) { frames := 1, cells := 0, slots := 0, locals := 21 } [.ref (a 0)] (fun v9 n2 g2 => some (.int (nI (siP n 128).2)) = v9 ∧ siF n = n2 ∧ g = g2) := by
  refine je_I (by decide) (Nat.le_of_ble_eq_true rfl) ?_
  intro p e s m A below meth c ls Q X hP hS hl hQ
  have hl : lv_has ls 3 [(0, .ref (a 0))] := hl
  refine lv_aload_n X.1 X.2.1 jd_K_sift_0 rfl (lv_at hl 0 rfl) ?_
  refine j_run (j_mkV X hP (c_K_isSifted l d D a n g (hB _ _)) jU_b (j_pp X hP) jm_318 jm_317 js_8 jm_1 jm_315 (by decide) rfl rfl (show jOk jy_K_isSifted 0 by unfold jOk; decide +kernel) (by decide) ⟨rfl, rfl⟩ hl.1 rfl (Nat.le_of_ble_eq_true rfl) ⟨Nat.zero_le _, Nat.zero_le _⟩ jd_K_sift_1) ?_
  refine W.eq (g2 := F0 m 4 ls [.int (nI (if n 0 0 = 4294967295 then 0 else 1))]) rfl ?_
  refine kn_to (y := 0) (if_pos hs) ?_
  refine kn_eq0 X.1 X.2.1 jd_K_sift_4 (tgt := 17) (by decide) (by omega) (fun h4 => ?_) (fun h4 => absurd h4 (by decide))
  refine lv_iconst (v := nI 0) X.1 X.2.1 jd_K_sift_17 (by decide) ?_
  refine lv_istore_n X.1 X.2.1 jd_K_sift_18 rfl hl (by decide) rfl (fun ls hl => ?_)
  have hl : lv_has ls 3 [(1, .int (nI 0)), (0, .ref (a 0))] := hl
  refine lv_iconst (v := nI 0) X.1 X.2.1 jd_K_sift_19 (by decide) ?_
  refine lv_istore_n X.1 X.2.1 jd_K_sift_20 rfl hl (by decide) rfl (fun ls hl => ?_)
  have hl : lv_has ls 3 [(2, .int (nI 0)), (1, .int (nI 0)), (0, .ref (a 0))] := hl
  have loop21 : ∀ (r k : Nat) (H : Heap) (locs : List Loc) (ls : Array Slot), k + r = 128 → va_P D jCl (jW d a ((siP n k).1) g) H → va_S (jAa a s.heap.size) s.heap H locs → lv_has ls 3 [(2, .int (nI k)), (1, .int (nI ((siP n k).2))), (0, .ref (a 0))] → W p l e { frames := 1, cells := 0, slots := 0, locals := 21 } s m A below meth c H locs 0 0 Q (F0 m 21 ls []) := by
    intro r
    induction r with
    | zero => 
      intro k H locs ls hk hP hS hl
      obtain rfl : 128 = k := by omega
      refine lv_iload_n X.1 X.2.1 jd_K_sift_21 rfl (lv_at hl 0 rfl) ?_
      refine lv_sipush (v := nI 128) X.1 X.2.1 jd_K_sift_22 (by decide) ?_
      refine kn_cge X.1 X.2.1 jd_K_sift_25 (tgt := 81) (by decide) (by omega) (fun h25 => ?_) (fun h25 => absurd h25 (by omega))
      refine lv_aload_n X.1 X.2.1 jd_K_sift_81 rfl (lv_at hl 2 rfl) ?_
      refine lv_iload_n X.1 X.2.1 jd_K_sift_82 rfl (lv_at hl 1 rfl) ?_
      refine jp_K_45_0 X hap hP hS jd_K_sift_83 (fun H locs hP hS => ?_)
      refine lv_aload_n X.1 X.2.1 jd_K_sift_86 rfl (lv_at hl 2 rfl) ?_
      refine jg_K_45_0 X hP jd_K_sift_87 ?_
      refine kn_to (y := (siP n 128).2) (rfl) ?_
      exact hQ _ _ _ _ _ _ _ (⟨rfl, rfl, rfl⟩) hP hS jd_K_sift_90
    | succ r ihr => 
      intro k H locs ls hk hP hS hl
      refine lv_iload_n X.1 X.2.1 jd_K_sift_21 rfl (lv_at hl 0 rfl) ?_
      refine lv_sipush (v := nI 128) X.1 X.2.1 jd_K_sift_22 (by decide) ?_
      refine kn_cge X.1 X.2.1 jd_K_sift_25 (tgt := 81) (by decide) (by omega) (fun h25 => absurd h25 (by omega)) (fun h25 => ?_)
      refine lv_aload_n X.1 X.2.1 jd_K_sift_28 rfl (lv_at hl 2 rfl) ?_
      refine lv_iload_n X.1 X.2.1 jd_K_sift_29 rfl (lv_at hl 0 rfl) ?_
      refine j_run (j_mkV X hP (c_K_isKept l d D a (siP n k).1 g k (by omega) (NB_siP hB k)) jU_b (j_pp X hP) jm_354 jm_353 js_11 jm_1 jm_351 (by decide) rfl rfl (show jOk jy_K_isKept 1 by unfold jOk; decide +kernel) (by decide) ⟨rfl, rfl⟩ hl.1 rfl (Nat.le_of_ble_eq_true rfl) ⟨Nat.zero_le _, Nat.zero_le _⟩ jd_K_sift_30) ?_
      refine W.eq (g2 := F0 m 33 ls [.int (nI (kpF (siP n k).1 k))]) rfl ?_
      refine kn_eq0 X.1 X.2.1 jd_K_sift_33 (tgt := 75) (by decide) (by have := kpF_lt (siP n k).1 k; omega) (fun h33 => ?_) (fun h33 => ?_)
      · skip
        refine lv_iinc (k := 0) (v := nI (k + 1)) X.1 X.2.1 jd_K_sift_75 hl rfl (kn_inc _) (by decide) rfl (fun ls hl => ?_)
        have hl : lv_has ls 3 [(2, .int (nI (k + 1))), (1, .int (nI ((siP n k).2))), (0, .ref (a 0))] := hl
        refine lv_goto X.1 X.2.1 jd_K_sift_78 (tgt := 21) (by decide) ?_
        have hP : va_P D jCl (jW d a ((siP n (k + 1)).1) g) H := by first | exact hP | (simp only [siP]; first | (rw [if_pos (by first | exact h33 | omega)]; exact hP) | (rw [if_neg (by first | exact h33 | omega)]; exact hP))
        have hl : lv_has ls 3 [(2, .int (nI (k + 1))), (1, .int (nI ((siP n (k + 1)).2))), (0, .ref (a 0))] := by first | exact lv_sub hl [0, 1, 2] rfl | (simp only [siP]; first | (rw [if_pos (by first | exact h33 | omega)]; exact lv_sub hl [0, 1, 2] rfl) | (rw [if_neg (by first | exact h33 | omega)]; exact lv_sub hl [0, 1, 2] rfl))
        exact ihr (k + 1) H locs ls (by omega) hP hS hl
      · skip
        refine lv_aload_n X.1 X.2.1 jd_K_sift_36 rfl (lv_at hl 2 rfl) ?_
        refine jg_K_10_0 X hP jd_K_sift_37 ?_
        refine jg_K_89_1 X hP jd_K_sift_40 ?_
        refine lv_iload_n X.1 X.2.1 jd_K_sift_43 rfl (lv_at hl 1 rfl) ?_
        refine lv_aload_n X.1 X.2.1 jd_K_sift_44 rfl (lv_at hl 2 rfl) ?_
        refine jg_K_10_0 X hP jd_K_sift_45 ?_
        refine jg_K_92_1 X hP jd_K_sift_48 ?_
        refine lv_iload_n X.1 X.2.1 jd_K_sift_51 rfl (lv_at hl 0 rfl) ?_
        refine j_ald X hP 4 k (by decide) (show k < 128 from by omega) (by decide) jd_K_sift_52 ?_
        refine j_ast X hap hP hS 6 ((siP n k).2) (((siP n k).1) 4 k) (by decide) (show (siP n k).2 < 128 from by have := siP_le n k; omega) (by decide) jd_K_sift_53 (fun H locs hP hS => ?_)
        refine lv_aload_n X.1 X.2.1 jd_K_sift_54 rfl (lv_at hl 2 rfl) ?_
        refine jg_K_16_0 X hP jd_K_sift_55 ?_
        refine jg_K_89_7 X hP jd_K_sift_58 ?_
        refine lv_iload_n X.1 X.2.1 jd_K_sift_61 rfl (lv_at hl 1 rfl) ?_
        refine lv_aload_n X.1 X.2.1 jd_K_sift_62 rfl (lv_at hl 2 rfl) ?_
        refine jg_K_16_0 X hP jd_K_sift_63 ?_
        refine jg_K_92_7 X hP jd_K_sift_66 ?_
        refine lv_iload_n X.1 X.2.1 jd_K_sift_69 rfl (lv_at hl 0 rfl) ?_
        refine j_ald X hP 10 k (by decide) (show k < 128 from by omega) (by decide) jd_K_sift_70 ?_
        refine j_ast X hap hP hS 12 ((siP n k).2) ((ku ((siP n k).1) 6 ((siP n k).2) (((siP n k).1) 4 k)) 10 k) (by decide) (show (siP n k).2 < 128 from by have := siP_le n k; omega) (by decide) jd_K_sift_71 (fun H locs hP hS => ?_)
        refine lv_iinc (k := 1) (v := nI ((siP n k).2 + 1)) X.1 X.2.1 jd_K_sift_72 hl rfl (kn_inc _) (by decide) rfl (fun ls hl => ?_)
        have hl : lv_has ls 3 [(1, .int (nI ((siP n k).2 + 1))), (2, .int (nI k)), (0, .ref (a 0))] := hl
        refine lv_iinc (k := 1) (v := nI (k + 1)) X.1 X.2.1 jd_K_sift_75 hl rfl (kn_inc _) (by decide) rfl (fun ls hl => ?_)
        have hl : lv_has ls 3 [(2, .int (nI (k + 1))), (1, .int (nI ((siP n k).2 + 1))), (0, .ref (a 0))] := hl
        refine lv_goto X.1 X.2.1 jd_K_sift_78 (tgt := 21) (by decide) ?_
        have hP : va_P D jCl (jW d a ((siP n (k + 1)).1) g) H := by first | exact hP | (simp only [siP]; first | (rw [if_pos (by first | exact h33 | omega)]; exact hP) | (rw [if_neg (by first | exact h33 | omega)]; exact hP))
        have hl : lv_has ls 3 [(2, .int (nI (k + 1))), (1, .int (nI ((siP n (k + 1)).2))), (0, .ref (a 0))] := by first | exact lv_sub hl [0, 1, 2] rfl | (simp only [siP]; first | (rw [if_pos (by first | exact h33 | omega)]; exact lv_sub hl [0, 1, 2] rfl) | (rw [if_neg (by first | exact h33 | omega)]; exact lv_sub hl [0, 1, 2] rfl))
        exact ihr (k + 1) H locs ls (by omega) hP hS hl
  have hl : lv_has ls 3 [(2, .int (nI 0)), (1, .int (nI ((siP n 0).2))), (0, .ref (a 0))] := lv_sub hl [0, 1, 2] rfl
  exact loop21 (128) 0 s.heap [] ls (by omega) hP hS hl

set_option maxHeartbeats 4000000 in
theorem t_K_sift (l : Launch) (d : Nat → Nat) (D : va_G) (a : Nat → Nat) (n : Nat → Nat → Nat) (g : Nat → Nat) (hlt : l.stackTraces = false) (hB : NB n) (hs : ¬ n 0 0 = 4294967295) : jThr l d D a n g jy_K_sift jb_K_sift 3 (some .int) { frames := 6, cells := 1, slots := 6, locals := 82 } [.ref (a 0)] "java/lang/IllegalStateException" := by
  refine jt_T hlt 72 76 rfl (by decide) (Nat.le_of_ble_eq_true rfl) jx_fIS jm_323 jm_11 jx_gIS jx_bIS jx_oIS (by decide) ?_
  intro p e s m A below meth c ls Q X hP hl hQ
  have hl : lv_has ls 3 [(0, .ref (a 0))] := hl
  refine lv_aload_n X.1 X.2.1 jd_K_sift_0 rfl (lv_at hl 0 rfl) ?_
  refine j_run (j_mkV X hP (c_K_isSifted l d D a n g (hB _ _)) jU_b (j_pp X hP) jm_318 jm_317 js_8 jm_1 jm_315 (by decide) rfl rfl (show jOk jy_K_isSifted 0 by unfold jOk; decide +kernel) (by decide) ⟨rfl, rfl⟩ hl.1 rfl (Nat.le_of_ble_eq_true rfl) ⟨Nat.zero_le _, Nat.zero_le _⟩ jd_K_sift_1) ?_
  refine W.eq (g2 := F0 m 4 ls [.int (nI (if n 0 0 = 4294967295 then 0 else 1))]) rfl ?_
  refine kn_to (y := 1) (if_neg hs) ?_
  refine kn_eq0 X.1 X.2.1 jd_K_sift_4 (tgt := 17) (by decide) (by omega) (fun h4 => absurd h4 (by decide)) (fun h4 => ?_)
  exact hQ 7 84 "sifted already" _ (by decide) hl.1 jd_K_sift_7 jd_K_sift_10 jd_K_sift_11 jd_K_sift_13 jd_K_sift_16

set_option maxHeartbeats 4000000 in
theorem t_K_record_IA (l : Launch) (d : Nat → Nat) (D : va_G) (a : Nat → Nat) (n : Nat → Nat → Nat) (g : Nat → Nat) (hlt : l.stackTraces = false) (x f k b v z : Nat) (hx : x < 4294967296) (hf : f < 4294967296) (hk : k < 4294967296) (hb : b < 4294967296) (hv : v < 4294967296) (hz : z < 4294967296) (hbad : ¬ (x < 2 ∧ 1 ≤ k ∧ k ≤ 32 ∧ f + k ≤ 128)) : jThr l d D a n g jy_K_record jb_K_record 8 (some .int) { frames := 6, cells := 1, slots := 6, locals := 82 } [.ref (a 0), .int (nI x), .int (nI f), .int (nI k), .int (nI b), .int (nI v), .int (nI z)] "java/lang/IllegalArgumentException" := by
  refine jt_T hlt 53 57 rfl (by decide) (Nat.le_of_ble_eq_true rfl) jx_fIA jm_242 jm_10 jx_gIA jx_bIA jx_oIA (by decide) ?_
  intro p e s m A below meth c ls Q X hP hl hQ
  have hl : lv_has ls 8 [(0, .ref (a 0)), (1, .int (nI x)), (2, .int (nI f)), (3, .int (nI k)), (4, .int (nI b)), (5, .int (nI v)), (6, .int (nI z))] := hl
  refine lv_iload_n X.1 X.2.1 jd_K_record_0 rfl (lv_at hl 1 rfl) ?_
  refine j_run (j_mkS X (c_K_isStation l d D a n g x hx) jU_b (j_pp X hP) jm_241 jm_240 jm_1 jm_239 (show jOk jy_K_isStation 1 by unfold jOk; decide +kernel) (by decide) ⟨rfl, rfl⟩ hl.1 rfl (Nat.le_of_ble_eq_true rfl) ⟨Nat.zero_le _, Nat.zero_le _⟩ jd_K_record_1) ?_
  refine W.eq (g2 := F0 m 4 ls [.int (nI (if x < 2 then 1 else 0))]) rfl ?_
  refine kn_eq0 X.1 X.2.1 jd_K_record_4 (tgt := 31) (by decide) (by split <;> omega) (fun h4 => ?_) (fun h4 => ?_)
  · skip
    exact hQ 31 55 "no such station or pulses" _ (by decide) hl.1 jd_K_record_31 jd_K_record_34 jd_K_record_35 jd_K_record_37 jd_K_record_40
  · skip
    have hx2 : x < 2 := by by_cases q : x < 2; exact q; rw [if_neg q] at h4; omega
    refine lv_iload_n X.1 X.2.1 jd_K_record_7 rfl (lv_at hl 3 rfl) ?_
    refine lv_iconst (v := nI 1) X.1 X.2.1 jd_K_record_8 (by decide) ?_
    refine kn_xlt X.1 X.2.1 jd_K_record_9 (tgt := 31) (by decide) (by omega) (fun h9 => ?_) (fun h9 => ?_)
    · skip
      exact hQ 31 55 "no such station or pulses" _ (by decide) hl.1 jd_K_record_31 jd_K_record_34 jd_K_record_35 jd_K_record_37 jd_K_record_40
    · skip
      refine lv_iload_n X.1 X.2.1 jd_K_record_12 rfl (lv_at hl 3 rfl) ?_
      refine lv_bipush (v := nI 32) X.1 X.2.1 jd_K_record_13 (by decide) ?_
      refine kn_xgt X.1 X.2.1 jd_K_record_15 (tgt := 31) (by decide) (by omega) (fun h15 => ?_) (fun h15 => ?_)
      · skip
        exact hQ 31 55 "no such station or pulses" _ (by decide) hl.1 jd_K_record_31 jd_K_record_34 jd_K_record_35 jd_K_record_37 jd_K_record_40
      · skip
        refine lv_iload_n X.1 X.2.1 jd_K_record_18 rfl (lv_at hl 2 rfl) ?_
        refine kn_lt0 X.1 X.2.1 jd_K_record_19 (tgt := 31) (by decide) (by omega) (fun h19 => ?_) (fun h19 => ?_)
        · skip
          exact hQ 31 55 "no such station or pulses" _ (by decide) hl.1 jd_K_record_31 jd_K_record_34 jd_K_record_35 jd_K_record_37 jd_K_record_40
        · skip
          refine lv_iload_n X.1 X.2.1 jd_K_record_22 rfl (lv_at hl 2 rfl) ?_
          refine lv_sipush (v := nI 128) X.1 X.2.1 jd_K_record_23 (by decide) ?_
          refine lv_iload_n X.1 X.2.1 jd_K_record_26 rfl (lv_at hl 3 rfl) ?_
          refine kn_isub X.1 X.2.1 jd_K_record_27 (by omega) ?_
          refine kn_xle X.1 X.2.1 jd_K_record_28 (tgt := 41) (by decide) (by omega) (fun h28 => ?_) (fun h28 => ?_)
          · skip
            exact absurd hbad (by omega)
          · skip
            exact hQ 31 55 "no such station or pulses" _ (by decide) hl.1 jd_K_record_31 jd_K_record_34 jd_K_record_35 jd_K_record_37 jd_K_record_40

set_option maxHeartbeats 4000000 in
theorem t_K_record_IS_1s (l : Launch) (d : Nat → Nat) (D : va_G) (a : Nat → Nat) (n : Nat → Nat → Nat) (g : Nat → Nat) (hlt : l.stackTraces = false) (f k b v z : Nat) (hf : f < 4294967296) (hk : k < 4294967296) (hb : b < 4294967296) (hv : v < 4294967296) (hz : z < 4294967296) (hk1 : 1 ≤ k) (hk2 : k ≤ 32) (hfk : f + k ≤ 128) (hB : NB n) (hs : ¬ n 0 0 = 4294967295) : jThr l d D a n g jy_K_record jb_K_record 8 (some .int) { frames := 6, cells := 1, slots := 6, locals := 82 } [.ref (a 0), .int (nI 0), .int (nI f), .int (nI k), .int (nI b), .int (nI v), .int (nI z)] "java/lang/IllegalStateException" := by
  refine jt_T hlt 72 76 rfl (by decide) (Nat.le_of_ble_eq_true rfl) jx_fIS jm_323 jm_11 jx_gIS jx_bIS jx_oIS (by decide) ?_
  intro p e s m A below meth c ls Q X hP hl hQ
  have hl : lv_has ls 8 [(0, .ref (a 0)), (1, .int (nI 0)), (2, .int (nI f)), (3, .int (nI k)), (4, .int (nI b)), (5, .int (nI v)), (6, .int (nI z))] := hl
  refine lv_iload_n X.1 X.2.1 jd_K_record_0 rfl (lv_at hl 1 rfl) ?_
  refine j_run (j_mkS X (c_K_isStation l d D a n g 0 (by decide)) jU_b (j_pp X hP) jm_241 jm_240 jm_1 jm_239 (show jOk jy_K_isStation 1 by unfold jOk; decide +kernel) (by decide) ⟨rfl, rfl⟩ hl.1 rfl (Nat.le_of_ble_eq_true rfl) ⟨Nat.zero_le _, Nat.zero_le _⟩ jd_K_record_1) ?_
  refine W.eq (g2 := F0 m 4 ls [.int (nI (if 0 < 2 then 1 else 0))]) rfl ?_
  refine kn_to (y := 1) (rfl) ?_
  refine kn_eq0 X.1 X.2.1 jd_K_record_4 (tgt := 31) (by decide) (by omega) (fun h4 => absurd h4 (by decide)) (fun h4 => ?_)
  refine lv_iload_n X.1 X.2.1 jd_K_record_7 rfl (lv_at hl 3 rfl) ?_
  refine lv_iconst (v := nI 1) X.1 X.2.1 jd_K_record_8 (by decide) ?_
  refine kn_xlt X.1 X.2.1 jd_K_record_9 (tgt := 31) (by decide) (by omega) (fun h9 => absurd h9 (by omega)) (fun h9 => ?_)
  refine lv_iload_n X.1 X.2.1 jd_K_record_12 rfl (lv_at hl 3 rfl) ?_
  refine lv_bipush (v := nI 32) X.1 X.2.1 jd_K_record_13 (by decide) ?_
  refine kn_xgt X.1 X.2.1 jd_K_record_15 (tgt := 31) (by decide) (by omega) (fun h15 => absurd h15 (by omega)) (fun h15 => ?_)
  refine lv_iload_n X.1 X.2.1 jd_K_record_18 rfl (lv_at hl 2 rfl) ?_
  refine kn_lt0 X.1 X.2.1 jd_K_record_19 (tgt := 31) (by decide) (by omega) (fun h19 => absurd h19 (by omega)) (fun h19 => ?_)
  refine lv_iload_n X.1 X.2.1 jd_K_record_22 rfl (lv_at hl 2 rfl) ?_
  refine lv_sipush (v := nI 128) X.1 X.2.1 jd_K_record_23 (by decide) ?_
  refine lv_iload_n X.1 X.2.1 jd_K_record_26 rfl (lv_at hl 3 rfl) ?_
  refine kn_isub X.1 X.2.1 jd_K_record_27 (by omega) ?_
  refine kn_xle X.1 X.2.1 jd_K_record_28 (tgt := 41) (by decide) (by omega) (fun h28 => ?_) (fun h28 => absurd h28 (by omega))
  refine lv_aload_n X.1 X.2.1 jd_K_record_41 rfl (lv_at hl 0 rfl) ?_
  refine lv_iload_n X.1 X.2.1 jd_K_record_42 rfl (lv_at hl 1 rfl) ?_
  refine j_run (j_mkV X hP (c_K_stationOf_0 l d D a n g) jU_b (j_pp X hP) jm_314 jm_313 js_7 jm_1 jm_311 (by decide) rfl rfl (show jOk jy_K_stationOf 1 by unfold jOk; decide +kernel) (by decide) ⟨rfl, rfl⟩ hl.1 rfl (Nat.le_of_ble_eq_true rfl) ⟨Nat.zero_le _, Nat.zero_le _⟩ jd_K_record_43) ?_
  refine W.eq (g2 := F0 m 46 ls [.ref (a 1)]) rfl ?_
  refine lv_astore X.1 X.2.1 jd_K_record_46 hl (by decide) rfl (fun ls hl => ?_)
  have hl : lv_has ls 8 [(7, .ref (a 1)), (0, .ref (a 0)), (1, .int (nI 0)), (2, .int (nI f)), (3, .int (nI k)), (4, .int (nI b)), (5, .int (nI v)), (6, .int (nI z))] := hl
  refine lv_aload_n X.1 X.2.1 jd_K_record_48 rfl (lv_at hl 1 rfl) ?_
  refine j_run (j_mkV X hP (c_K_isSifted l d D a n g (hB _ _)) jU_b (j_pp X hP) jm_318 jm_317 js_8 jm_1 jm_315 (by decide) rfl rfl (show jOk jy_K_isSifted 0 by unfold jOk; decide +kernel) (by decide) ⟨rfl, rfl⟩ hl.1 rfl (Nat.le_of_ble_eq_true rfl) ⟨Nat.zero_le _, Nat.zero_le _⟩ jd_K_record_49) ?_
  refine W.eq (g2 := F0 m 52 ls [.int (nI (if n 0 0 = 4294967295 then 0 else 1))]) rfl ?_
  refine kn_to (y := 1) (if_neg hs) ?_
  refine kn_ne0 X.1 X.2.1 jd_K_record_52 (tgt := 65) (by decide) (by omega) (fun h52 => ?_) (fun h52 => absurd h52 (by decide))
  exact hQ 65 74 "recorded or sifted already" _ (by decide) hl.1 jd_K_record_65 jd_K_record_68 jd_K_record_69 jd_K_record_71 jd_K_record_74

set_option maxHeartbeats 4000000 in
theorem t_K_record_IS_1a (l : Launch) (d : Nat → Nat) (D : va_G) (a : Nat → Nat) (n : Nat → Nat → Nat) (g : Nat → Nat) (hlt : l.stackTraces = false) (f k b v z : Nat) (hf : f < 4294967296) (hk : k < 4294967296) (hb : b < 4294967296) (hv : v < 4294967296) (hz : z < 4294967296) (hk1 : 1 ≤ k) (hk2 : k ≤ 32) (hfk : f + k ≤ 128) (hB : NB n) (hs : n 0 0 = 4294967295) (ha : ¬ anyF (n 2) f k = 0) : jThr l d D a n g jy_K_record jb_K_record 8 (some .int) { frames := 6, cells := 1, slots := 6, locals := 82 } [.ref (a 0), .int (nI 0), .int (nI f), .int (nI k), .int (nI b), .int (nI v), .int (nI z)] "java/lang/IllegalStateException" := by
  refine jt_T hlt 72 76 rfl (by decide) (Nat.le_of_ble_eq_true rfl) jx_fIS jm_323 jm_11 jx_gIS jx_bIS jx_oIS (by decide) ?_
  intro p e s m A below meth c ls Q X hP hl hQ
  have hl : lv_has ls 8 [(0, .ref (a 0)), (1, .int (nI 0)), (2, .int (nI f)), (3, .int (nI k)), (4, .int (nI b)), (5, .int (nI v)), (6, .int (nI z))] := hl
  refine lv_iload_n X.1 X.2.1 jd_K_record_0 rfl (lv_at hl 1 rfl) ?_
  refine j_run (j_mkS X (c_K_isStation l d D a n g 0 (by decide)) jU_b (j_pp X hP) jm_241 jm_240 jm_1 jm_239 (show jOk jy_K_isStation 1 by unfold jOk; decide +kernel) (by decide) ⟨rfl, rfl⟩ hl.1 rfl (Nat.le_of_ble_eq_true rfl) ⟨Nat.zero_le _, Nat.zero_le _⟩ jd_K_record_1) ?_
  refine W.eq (g2 := F0 m 4 ls [.int (nI (if 0 < 2 then 1 else 0))]) rfl ?_
  refine kn_to (y := 1) (rfl) ?_
  refine kn_eq0 X.1 X.2.1 jd_K_record_4 (tgt := 31) (by decide) (by omega) (fun h4 => absurd h4 (by decide)) (fun h4 => ?_)
  refine lv_iload_n X.1 X.2.1 jd_K_record_7 rfl (lv_at hl 3 rfl) ?_
  refine lv_iconst (v := nI 1) X.1 X.2.1 jd_K_record_8 (by decide) ?_
  refine kn_xlt X.1 X.2.1 jd_K_record_9 (tgt := 31) (by decide) (by omega) (fun h9 => absurd h9 (by omega)) (fun h9 => ?_)
  refine lv_iload_n X.1 X.2.1 jd_K_record_12 rfl (lv_at hl 3 rfl) ?_
  refine lv_bipush (v := nI 32) X.1 X.2.1 jd_K_record_13 (by decide) ?_
  refine kn_xgt X.1 X.2.1 jd_K_record_15 (tgt := 31) (by decide) (by omega) (fun h15 => absurd h15 (by omega)) (fun h15 => ?_)
  refine lv_iload_n X.1 X.2.1 jd_K_record_18 rfl (lv_at hl 2 rfl) ?_
  refine kn_lt0 X.1 X.2.1 jd_K_record_19 (tgt := 31) (by decide) (by omega) (fun h19 => absurd h19 (by omega)) (fun h19 => ?_)
  refine lv_iload_n X.1 X.2.1 jd_K_record_22 rfl (lv_at hl 2 rfl) ?_
  refine lv_sipush (v := nI 128) X.1 X.2.1 jd_K_record_23 (by decide) ?_
  refine lv_iload_n X.1 X.2.1 jd_K_record_26 rfl (lv_at hl 3 rfl) ?_
  refine kn_isub X.1 X.2.1 jd_K_record_27 (by omega) ?_
  refine kn_xle X.1 X.2.1 jd_K_record_28 (tgt := 41) (by decide) (by omega) (fun h28 => ?_) (fun h28 => absurd h28 (by omega))
  refine lv_aload_n X.1 X.2.1 jd_K_record_41 rfl (lv_at hl 0 rfl) ?_
  refine lv_iload_n X.1 X.2.1 jd_K_record_42 rfl (lv_at hl 1 rfl) ?_
  refine j_run (j_mkV X hP (c_K_stationOf_0 l d D a n g) jU_b (j_pp X hP) jm_314 jm_313 js_7 jm_1 jm_311 (by decide) rfl rfl (show jOk jy_K_stationOf 1 by unfold jOk; decide +kernel) (by decide) ⟨rfl, rfl⟩ hl.1 rfl (Nat.le_of_ble_eq_true rfl) ⟨Nat.zero_le _, Nat.zero_le _⟩ jd_K_record_43) ?_
  refine W.eq (g2 := F0 m 46 ls [.ref (a 1)]) rfl ?_
  refine lv_astore X.1 X.2.1 jd_K_record_46 hl (by decide) rfl (fun ls hl => ?_)
  have hl : lv_has ls 8 [(7, .ref (a 1)), (0, .ref (a 0)), (1, .int (nI 0)), (2, .int (nI f)), (3, .int (nI k)), (4, .int (nI b)), (5, .int (nI v)), (6, .int (nI z))] := hl
  refine lv_aload_n X.1 X.2.1 jd_K_record_48 rfl (lv_at hl 1 rfl) ?_
  refine j_run (j_mkV X hP (c_K_isSifted l d D a n g (hB _ _)) jU_b (j_pp X hP) jm_318 jm_317 js_8 jm_1 jm_315 (by decide) rfl rfl (show jOk jy_K_isSifted 0 by unfold jOk; decide +kernel) (by decide) ⟨rfl, rfl⟩ hl.1 rfl (Nat.le_of_ble_eq_true rfl) ⟨Nat.zero_le _, Nat.zero_le _⟩ jd_K_record_49) ?_
  refine W.eq (g2 := F0 m 52 ls [.int (nI (if n 0 0 = 4294967295 then 0 else 1))]) rfl ?_
  refine kn_to (y := 0) (if_pos hs) ?_
  refine kn_ne0 X.1 X.2.1 jd_K_record_52 (tgt := 65) (by decide) (by omega) (fun h52 => absurd h52 (by decide)) (fun h52 => ?_)
  refine lv_aload X.1 X.2.1 jd_K_record_55 (lv_at hl 0 rfl) ?_
  refine lv_iload_n X.1 X.2.1 jd_K_record_57 rfl (lv_at hl 3 rfl) ?_
  refine lv_iload_n X.1 X.2.1 jd_K_record_58 rfl (lv_at hl 4 rfl) ?_
  refine j_run (j_mkN (host := "KeyDistiller") X hP (c_S_hasAnyOf_1 l d D a n g f k hfk (fun i => hB _ _)) jU_b (j_pp X hP) jm_322 jm_321 js_9 jm_2 (by decide +kernel) (by decide) rfl rfl (show jOk jy_S_hasAnyOf 2 by unfold jOk; decide +kernel) (by decide) ⟨rfl, rfl⟩ hl.1 rfl (Nat.le_of_ble_eq_true rfl) ⟨Nat.zero_le _, Nat.zero_le _⟩ jd_K_record_59) ?_
  refine W.eq (g2 := F0 m 62 ls [.int (nI (anyF (n 2) f k))]) rfl ?_
  refine kn_eq0 X.1 X.2.1 jd_K_record_62 (tgt := 75) (by decide) (by have := anyF_lt (n 2) f k; omega) (fun h62 => absurd h62 (fun q => ha q)) (fun h62 => ?_)
  exact hQ 65 74 "recorded or sifted already" _ (by decide) hl.1 jd_K_record_65 jd_K_record_68 jd_K_record_69 jd_K_record_71 jd_K_record_74

set_option maxHeartbeats 4000000 in
theorem c_K_record_1 (l : Launch) (d : Nat → Nat) (D : va_G) (a : Nat → Nat) (n : Nat → Nat → Nat) (g : Nat → Nat) (hap : ∀ i j : Nat, i < 52 → j < 52 → a i = a j → i = j) (f k b v z : Nat) (hf : f < 4294967296) (hk : k < 4294967296) (hb : b < 4294967296) (hv : v < 4294967296) (hz : z < 4294967296) (hk1 : 1 ≤ k) (hk2 : k ≤ 32) (hfk : f + k ≤ 128) (hB : NB n) (hs : n 0 0 = 4294967295) (ha : anyF (n 2) f k = 0) : jEff l d D a n g jy_K_record jb_K_record 8 (some .int) { frames := 1, cells := 0, slots := 0, locals := 26 } [.ref (a 0), .int (nI 0), .int (nI f), .int (nI k), .int (nI b), .int (nI v), .int (nI z)] (fun v9 n2 g2 => some (.int (nI (n 1 0 + k))) = v9 ∧ ku (noteF n 1 f b v z k) 1 0 (n 1 0 + k) = n2 ∧ g = g2) := by
  refine je_I (by decide) (Nat.le_of_ble_eq_true rfl) ?_
  intro p e s m A below meth c ls Q X hP hS hl hQ
  have hl : lv_has ls 8 [(0, .ref (a 0)), (1, .int (nI 0)), (2, .int (nI f)), (3, .int (nI k)), (4, .int (nI b)), (5, .int (nI v)), (6, .int (nI z))] := hl
  refine lv_iload_n X.1 X.2.1 jd_K_record_0 rfl (lv_at hl 1 rfl) ?_
  refine j_run (j_mkS X (c_K_isStation l d D a n g 0 (by decide)) jU_b (j_pp X hP) jm_241 jm_240 jm_1 jm_239 (show jOk jy_K_isStation 1 by unfold jOk; decide +kernel) (by decide) ⟨rfl, rfl⟩ hl.1 rfl (Nat.le_of_ble_eq_true rfl) ⟨Nat.zero_le _, Nat.zero_le _⟩ jd_K_record_1) ?_
  refine W.eq (g2 := F0 m 4 ls [.int (nI (if 0 < 2 then 1 else 0))]) rfl ?_
  refine kn_to (y := 1) (rfl) ?_
  refine kn_eq0 X.1 X.2.1 jd_K_record_4 (tgt := 31) (by decide) (by omega) (fun h4 => absurd h4 (by decide)) (fun h4 => ?_)
  refine lv_iload_n X.1 X.2.1 jd_K_record_7 rfl (lv_at hl 3 rfl) ?_
  refine lv_iconst (v := nI 1) X.1 X.2.1 jd_K_record_8 (by decide) ?_
  refine kn_xlt X.1 X.2.1 jd_K_record_9 (tgt := 31) (by decide) (by omega) (fun h9 => absurd h9 (by omega)) (fun h9 => ?_)
  refine lv_iload_n X.1 X.2.1 jd_K_record_12 rfl (lv_at hl 3 rfl) ?_
  refine lv_bipush (v := nI 32) X.1 X.2.1 jd_K_record_13 (by decide) ?_
  refine kn_xgt X.1 X.2.1 jd_K_record_15 (tgt := 31) (by decide) (by omega) (fun h15 => absurd h15 (by omega)) (fun h15 => ?_)
  refine lv_iload_n X.1 X.2.1 jd_K_record_18 rfl (lv_at hl 2 rfl) ?_
  refine kn_lt0 X.1 X.2.1 jd_K_record_19 (tgt := 31) (by decide) (by omega) (fun h19 => absurd h19 (by omega)) (fun h19 => ?_)
  refine lv_iload_n X.1 X.2.1 jd_K_record_22 rfl (lv_at hl 2 rfl) ?_
  refine lv_sipush (v := nI 128) X.1 X.2.1 jd_K_record_23 (by decide) ?_
  refine lv_iload_n X.1 X.2.1 jd_K_record_26 rfl (lv_at hl 3 rfl) ?_
  refine kn_isub X.1 X.2.1 jd_K_record_27 (by omega) ?_
  refine kn_xle X.1 X.2.1 jd_K_record_28 (tgt := 41) (by decide) (by omega) (fun h28 => ?_) (fun h28 => absurd h28 (by omega))
  refine lv_aload_n X.1 X.2.1 jd_K_record_41 rfl (lv_at hl 0 rfl) ?_
  refine lv_iload_n X.1 X.2.1 jd_K_record_42 rfl (lv_at hl 1 rfl) ?_
  refine j_run (j_mkV X hP (c_K_stationOf_0 l d D a n g) jU_b (j_pp X hP) jm_314 jm_313 js_7 jm_1 jm_311 (by decide) rfl rfl (show jOk jy_K_stationOf 1 by unfold jOk; decide +kernel) (by decide) ⟨rfl, rfl⟩ hl.1 rfl (Nat.le_of_ble_eq_true rfl) ⟨Nat.zero_le _, Nat.zero_le _⟩ jd_K_record_43) ?_
  refine W.eq (g2 := F0 m 46 ls [.ref (a 1)]) rfl ?_
  refine lv_astore X.1 X.2.1 jd_K_record_46 hl (by decide) rfl (fun ls hl => ?_)
  have hl : lv_has ls 8 [(7, .ref (a 1)), (0, .ref (a 0)), (1, .int (nI 0)), (2, .int (nI f)), (3, .int (nI k)), (4, .int (nI b)), (5, .int (nI v)), (6, .int (nI z))] := hl
  refine lv_aload_n X.1 X.2.1 jd_K_record_48 rfl (lv_at hl 1 rfl) ?_
  refine j_run (j_mkV X hP (c_K_isSifted l d D a n g (hB _ _)) jU_b (j_pp X hP) jm_318 jm_317 js_8 jm_1 jm_315 (by decide) rfl rfl (show jOk jy_K_isSifted 0 by unfold jOk; decide +kernel) (by decide) ⟨rfl, rfl⟩ hl.1 rfl (Nat.le_of_ble_eq_true rfl) ⟨Nat.zero_le _, Nat.zero_le _⟩ jd_K_record_49) ?_
  refine W.eq (g2 := F0 m 52 ls [.int (nI (if n 0 0 = 4294967295 then 0 else 1))]) rfl ?_
  refine kn_to (y := 0) (if_pos hs) ?_
  refine kn_ne0 X.1 X.2.1 jd_K_record_52 (tgt := 65) (by decide) (by omega) (fun h52 => absurd h52 (by decide)) (fun h52 => ?_)
  refine lv_aload X.1 X.2.1 jd_K_record_55 (lv_at hl 0 rfl) ?_
  refine lv_iload_n X.1 X.2.1 jd_K_record_57 rfl (lv_at hl 3 rfl) ?_
  refine lv_iload_n X.1 X.2.1 jd_K_record_58 rfl (lv_at hl 4 rfl) ?_
  refine j_run (j_mkN (host := "KeyDistiller") X hP (c_S_hasAnyOf_1 l d D a n g f k hfk (fun i => hB _ _)) jU_b (j_pp X hP) jm_322 jm_321 js_9 jm_2 (by decide +kernel) (by decide) rfl rfl (show jOk jy_S_hasAnyOf 2 by unfold jOk; decide +kernel) (by decide) ⟨rfl, rfl⟩ hl.1 rfl (Nat.le_of_ble_eq_true rfl) ⟨Nat.zero_le _, Nat.zero_le _⟩ jd_K_record_59) ?_
  refine W.eq (g2 := F0 m 62 ls [.int (nI (anyF (n 2) f k))]) rfl ?_
  refine kn_eq0 X.1 X.2.1 jd_K_record_62 (tgt := 75) (by decide) (by have := anyF_lt (n 2) f k; omega) (fun h62 => ?_) (fun h62 => absurd h62 (fun q => q ha))
  refine lv_aload X.1 X.2.1 jd_K_record_75 (lv_at hl 0 rfl) ?_
  refine lv_iload_n X.1 X.2.1 jd_K_record_77 rfl (lv_at hl 3 rfl) ?_
  refine lv_iload_n X.1 X.2.1 jd_K_record_78 rfl (lv_at hl 4 rfl) ?_
  refine lv_iload X.1 X.2.1 jd_K_record_79 (lv_at hl 5 rfl) ?_
  refine lv_iload X.1 X.2.1 jd_K_record_81 (lv_at hl 6 rfl) ?_
  refine lv_iload X.1 X.2.1 jd_K_record_83 (lv_at hl 7 rfl) ?_
  refine j_rune (j_mkN (host := "KeyDistiller") X hP (c_S_note_1 l d D a n g hap f k b v z hfk hk2 hb hv hz _) jU_bs (j_pe X hP) jm_342 jm_341 js_10 jm_2 (by decide +kernel) (by decide) rfl rfl (show jOk jy_S_note 5 by unfold jOk; decide +kernel) (by decide) ⟨rfl, rfl⟩ hl.1 rfl (Nat.le_of_ble_eq_true rfl) ⟨Nat.zero_le _, Nat.zero_le _⟩ jd_K_record_85) hS (fun v85 n85 g85 H locs h85 hP hS => ?_)
  obtain ⟨rfl, rfl, rfl⟩ := h85
  rw [show noteF n 1 f b v z k 1 0 = n 1 0 from congrFun (noteF_o (by decide) k) 0] at hP
  refine W.eq (g2 := F0 m 88 ls []) rfl ?_
  refine lv_aload X.1 X.2.1 jd_K_record_88 (lv_at hl 0 rfl) ?_
  refine jg_K_81_1 X hP jd_K_record_90 ?_
  refine kn_to (y := n 1 0 + k) (by rw [ku_s]) ?_
  exact hQ _ _ _ _ _ _ _ (⟨rfl, rfl, rfl⟩) hP hS jd_K_record_93

set_option maxHeartbeats 4000000 in
theorem t_K_record_IS_7s (l : Launch) (d : Nat → Nat) (D : va_G) (a : Nat → Nat) (n : Nat → Nat → Nat) (g : Nat → Nat) (hlt : l.stackTraces = false) (f k b v z : Nat) (hf : f < 4294967296) (hk : k < 4294967296) (hb : b < 4294967296) (hv : v < 4294967296) (hz : z < 4294967296) (hk1 : 1 ≤ k) (hk2 : k ≤ 32) (hfk : f + k ≤ 128) (hB : NB n) (hs : ¬ n 0 0 = 4294967295) : jThr l d D a n g jy_K_record jb_K_record 8 (some .int) { frames := 6, cells := 1, slots := 6, locals := 82 } [.ref (a 0), .int (nI 1), .int (nI f), .int (nI k), .int (nI b), .int (nI v), .int (nI z)] "java/lang/IllegalStateException" := by
  refine jt_T hlt 72 76 rfl (by decide) (Nat.le_of_ble_eq_true rfl) jx_fIS jm_323 jm_11 jx_gIS jx_bIS jx_oIS (by decide) ?_
  intro p e s m A below meth c ls Q X hP hl hQ
  have hl : lv_has ls 8 [(0, .ref (a 0)), (1, .int (nI 1)), (2, .int (nI f)), (3, .int (nI k)), (4, .int (nI b)), (5, .int (nI v)), (6, .int (nI z))] := hl
  refine lv_iload_n X.1 X.2.1 jd_K_record_0 rfl (lv_at hl 1 rfl) ?_
  refine j_run (j_mkS X (c_K_isStation l d D a n g 1 (by decide)) jU_b (j_pp X hP) jm_241 jm_240 jm_1 jm_239 (show jOk jy_K_isStation 1 by unfold jOk; decide +kernel) (by decide) ⟨rfl, rfl⟩ hl.1 rfl (Nat.le_of_ble_eq_true rfl) ⟨Nat.zero_le _, Nat.zero_le _⟩ jd_K_record_1) ?_
  refine W.eq (g2 := F0 m 4 ls [.int (nI (if 1 < 2 then 1 else 0))]) rfl ?_
  refine kn_to (y := 1) (rfl) ?_
  refine kn_eq0 X.1 X.2.1 jd_K_record_4 (tgt := 31) (by decide) (by omega) (fun h4 => absurd h4 (by decide)) (fun h4 => ?_)
  refine lv_iload_n X.1 X.2.1 jd_K_record_7 rfl (lv_at hl 3 rfl) ?_
  refine lv_iconst (v := nI 1) X.1 X.2.1 jd_K_record_8 (by decide) ?_
  refine kn_xlt X.1 X.2.1 jd_K_record_9 (tgt := 31) (by decide) (by omega) (fun h9 => absurd h9 (by omega)) (fun h9 => ?_)
  refine lv_iload_n X.1 X.2.1 jd_K_record_12 rfl (lv_at hl 3 rfl) ?_
  refine lv_bipush (v := nI 32) X.1 X.2.1 jd_K_record_13 (by decide) ?_
  refine kn_xgt X.1 X.2.1 jd_K_record_15 (tgt := 31) (by decide) (by omega) (fun h15 => absurd h15 (by omega)) (fun h15 => ?_)
  refine lv_iload_n X.1 X.2.1 jd_K_record_18 rfl (lv_at hl 2 rfl) ?_
  refine kn_lt0 X.1 X.2.1 jd_K_record_19 (tgt := 31) (by decide) (by omega) (fun h19 => absurd h19 (by omega)) (fun h19 => ?_)
  refine lv_iload_n X.1 X.2.1 jd_K_record_22 rfl (lv_at hl 2 rfl) ?_
  refine lv_sipush (v := nI 128) X.1 X.2.1 jd_K_record_23 (by decide) ?_
  refine lv_iload_n X.1 X.2.1 jd_K_record_26 rfl (lv_at hl 3 rfl) ?_
  refine kn_isub X.1 X.2.1 jd_K_record_27 (by omega) ?_
  refine kn_xle X.1 X.2.1 jd_K_record_28 (tgt := 41) (by decide) (by omega) (fun h28 => ?_) (fun h28 => absurd h28 (by omega))
  refine lv_aload_n X.1 X.2.1 jd_K_record_41 rfl (lv_at hl 0 rfl) ?_
  refine lv_iload_n X.1 X.2.1 jd_K_record_42 rfl (lv_at hl 1 rfl) ?_
  refine j_run (j_mkV X hP (c_K_stationOf_1 l d D a n g) jU_b (j_pp X hP) jm_314 jm_313 js_7 jm_1 jm_311 (by decide) rfl rfl (show jOk jy_K_stationOf 1 by unfold jOk; decide +kernel) (by decide) ⟨rfl, rfl⟩ hl.1 rfl (Nat.le_of_ble_eq_true rfl) ⟨Nat.zero_le _, Nat.zero_le _⟩ jd_K_record_43) ?_
  refine W.eq (g2 := F0 m 46 ls [.ref (a 7)]) rfl ?_
  refine lv_astore X.1 X.2.1 jd_K_record_46 hl (by decide) rfl (fun ls hl => ?_)
  have hl : lv_has ls 8 [(7, .ref (a 7)), (0, .ref (a 0)), (1, .int (nI 1)), (2, .int (nI f)), (3, .int (nI k)), (4, .int (nI b)), (5, .int (nI v)), (6, .int (nI z))] := hl
  refine lv_aload_n X.1 X.2.1 jd_K_record_48 rfl (lv_at hl 1 rfl) ?_
  refine j_run (j_mkV X hP (c_K_isSifted l d D a n g (hB _ _)) jU_b (j_pp X hP) jm_318 jm_317 js_8 jm_1 jm_315 (by decide) rfl rfl (show jOk jy_K_isSifted 0 by unfold jOk; decide +kernel) (by decide) ⟨rfl, rfl⟩ hl.1 rfl (Nat.le_of_ble_eq_true rfl) ⟨Nat.zero_le _, Nat.zero_le _⟩ jd_K_record_49) ?_
  refine W.eq (g2 := F0 m 52 ls [.int (nI (if n 0 0 = 4294967295 then 0 else 1))]) rfl ?_
  refine kn_to (y := 1) (if_neg hs) ?_
  refine kn_ne0 X.1 X.2.1 jd_K_record_52 (tgt := 65) (by decide) (by omega) (fun h52 => ?_) (fun h52 => absurd h52 (by decide))
  exact hQ 65 74 "recorded or sifted already" _ (by decide) hl.1 jd_K_record_65 jd_K_record_68 jd_K_record_69 jd_K_record_71 jd_K_record_74

set_option maxHeartbeats 4000000 in
theorem t_K_record_IS_7a (l : Launch) (d : Nat → Nat) (D : va_G) (a : Nat → Nat) (n : Nat → Nat → Nat) (g : Nat → Nat) (hlt : l.stackTraces = false) (f k b v z : Nat) (hf : f < 4294967296) (hk : k < 4294967296) (hb : b < 4294967296) (hv : v < 4294967296) (hz : z < 4294967296) (hk1 : 1 ≤ k) (hk2 : k ≤ 32) (hfk : f + k ≤ 128) (hB : NB n) (hs : n 0 0 = 4294967295) (ha : ¬ anyF (n 8) f k = 0) : jThr l d D a n g jy_K_record jb_K_record 8 (some .int) { frames := 6, cells := 1, slots := 6, locals := 82 } [.ref (a 0), .int (nI 1), .int (nI f), .int (nI k), .int (nI b), .int (nI v), .int (nI z)] "java/lang/IllegalStateException" := by
  refine jt_T hlt 72 76 rfl (by decide) (Nat.le_of_ble_eq_true rfl) jx_fIS jm_323 jm_11 jx_gIS jx_bIS jx_oIS (by decide) ?_
  intro p e s m A below meth c ls Q X hP hl hQ
  have hl : lv_has ls 8 [(0, .ref (a 0)), (1, .int (nI 1)), (2, .int (nI f)), (3, .int (nI k)), (4, .int (nI b)), (5, .int (nI v)), (6, .int (nI z))] := hl
  refine lv_iload_n X.1 X.2.1 jd_K_record_0 rfl (lv_at hl 1 rfl) ?_
  refine j_run (j_mkS X (c_K_isStation l d D a n g 1 (by decide)) jU_b (j_pp X hP) jm_241 jm_240 jm_1 jm_239 (show jOk jy_K_isStation 1 by unfold jOk; decide +kernel) (by decide) ⟨rfl, rfl⟩ hl.1 rfl (Nat.le_of_ble_eq_true rfl) ⟨Nat.zero_le _, Nat.zero_le _⟩ jd_K_record_1) ?_
  refine W.eq (g2 := F0 m 4 ls [.int (nI (if 1 < 2 then 1 else 0))]) rfl ?_
  refine kn_to (y := 1) (rfl) ?_
  refine kn_eq0 X.1 X.2.1 jd_K_record_4 (tgt := 31) (by decide) (by omega) (fun h4 => absurd h4 (by decide)) (fun h4 => ?_)
  refine lv_iload_n X.1 X.2.1 jd_K_record_7 rfl (lv_at hl 3 rfl) ?_
  refine lv_iconst (v := nI 1) X.1 X.2.1 jd_K_record_8 (by decide) ?_
  refine kn_xlt X.1 X.2.1 jd_K_record_9 (tgt := 31) (by decide) (by omega) (fun h9 => absurd h9 (by omega)) (fun h9 => ?_)
  refine lv_iload_n X.1 X.2.1 jd_K_record_12 rfl (lv_at hl 3 rfl) ?_
  refine lv_bipush (v := nI 32) X.1 X.2.1 jd_K_record_13 (by decide) ?_
  refine kn_xgt X.1 X.2.1 jd_K_record_15 (tgt := 31) (by decide) (by omega) (fun h15 => absurd h15 (by omega)) (fun h15 => ?_)
  refine lv_iload_n X.1 X.2.1 jd_K_record_18 rfl (lv_at hl 2 rfl) ?_
  refine kn_lt0 X.1 X.2.1 jd_K_record_19 (tgt := 31) (by decide) (by omega) (fun h19 => absurd h19 (by omega)) (fun h19 => ?_)
  refine lv_iload_n X.1 X.2.1 jd_K_record_22 rfl (lv_at hl 2 rfl) ?_
  refine lv_sipush (v := nI 128) X.1 X.2.1 jd_K_record_23 (by decide) ?_
  refine lv_iload_n X.1 X.2.1 jd_K_record_26 rfl (lv_at hl 3 rfl) ?_
  refine kn_isub X.1 X.2.1 jd_K_record_27 (by omega) ?_
  refine kn_xle X.1 X.2.1 jd_K_record_28 (tgt := 41) (by decide) (by omega) (fun h28 => ?_) (fun h28 => absurd h28 (by omega))
  refine lv_aload_n X.1 X.2.1 jd_K_record_41 rfl (lv_at hl 0 rfl) ?_
  refine lv_iload_n X.1 X.2.1 jd_K_record_42 rfl (lv_at hl 1 rfl) ?_
  refine j_run (j_mkV X hP (c_K_stationOf_1 l d D a n g) jU_b (j_pp X hP) jm_314 jm_313 js_7 jm_1 jm_311 (by decide) rfl rfl (show jOk jy_K_stationOf 1 by unfold jOk; decide +kernel) (by decide) ⟨rfl, rfl⟩ hl.1 rfl (Nat.le_of_ble_eq_true rfl) ⟨Nat.zero_le _, Nat.zero_le _⟩ jd_K_record_43) ?_
  refine W.eq (g2 := F0 m 46 ls [.ref (a 7)]) rfl ?_
  refine lv_astore X.1 X.2.1 jd_K_record_46 hl (by decide) rfl (fun ls hl => ?_)
  have hl : lv_has ls 8 [(7, .ref (a 7)), (0, .ref (a 0)), (1, .int (nI 1)), (2, .int (nI f)), (3, .int (nI k)), (4, .int (nI b)), (5, .int (nI v)), (6, .int (nI z))] := hl
  refine lv_aload_n X.1 X.2.1 jd_K_record_48 rfl (lv_at hl 1 rfl) ?_
  refine j_run (j_mkV X hP (c_K_isSifted l d D a n g (hB _ _)) jU_b (j_pp X hP) jm_318 jm_317 js_8 jm_1 jm_315 (by decide) rfl rfl (show jOk jy_K_isSifted 0 by unfold jOk; decide +kernel) (by decide) ⟨rfl, rfl⟩ hl.1 rfl (Nat.le_of_ble_eq_true rfl) ⟨Nat.zero_le _, Nat.zero_le _⟩ jd_K_record_49) ?_
  refine W.eq (g2 := F0 m 52 ls [.int (nI (if n 0 0 = 4294967295 then 0 else 1))]) rfl ?_
  refine kn_to (y := 0) (if_pos hs) ?_
  refine kn_ne0 X.1 X.2.1 jd_K_record_52 (tgt := 65) (by decide) (by omega) (fun h52 => absurd h52 (by decide)) (fun h52 => ?_)
  refine lv_aload X.1 X.2.1 jd_K_record_55 (lv_at hl 0 rfl) ?_
  refine lv_iload_n X.1 X.2.1 jd_K_record_57 rfl (lv_at hl 3 rfl) ?_
  refine lv_iload_n X.1 X.2.1 jd_K_record_58 rfl (lv_at hl 4 rfl) ?_
  refine j_run (j_mkN (host := "KeyDistiller") X hP (c_S_hasAnyOf_7 l d D a n g f k hfk (fun i => hB _ _)) jU_b (j_pp X hP) jm_322 jm_321 js_9 jm_2 (by decide +kernel) (by decide) rfl rfl (show jOk jy_S_hasAnyOf 2 by unfold jOk; decide +kernel) (by decide) ⟨rfl, rfl⟩ hl.1 rfl (Nat.le_of_ble_eq_true rfl) ⟨Nat.zero_le _, Nat.zero_le _⟩ jd_K_record_59) ?_
  refine W.eq (g2 := F0 m 62 ls [.int (nI (anyF (n 8) f k))]) rfl ?_
  refine kn_eq0 X.1 X.2.1 jd_K_record_62 (tgt := 75) (by decide) (by have := anyF_lt (n 8) f k; omega) (fun h62 => absurd h62 (fun q => ha q)) (fun h62 => ?_)
  exact hQ 65 74 "recorded or sifted already" _ (by decide) hl.1 jd_K_record_65 jd_K_record_68 jd_K_record_69 jd_K_record_71 jd_K_record_74

set_option maxHeartbeats 4000000 in
theorem c_K_record_7 (l : Launch) (d : Nat → Nat) (D : va_G) (a : Nat → Nat) (n : Nat → Nat → Nat) (g : Nat → Nat) (hap : ∀ i j : Nat, i < 52 → j < 52 → a i = a j → i = j) (f k b v z : Nat) (hf : f < 4294967296) (hk : k < 4294967296) (hb : b < 4294967296) (hv : v < 4294967296) (hz : z < 4294967296) (hk1 : 1 ≤ k) (hk2 : k ≤ 32) (hfk : f + k ≤ 128) (hB : NB n) (hs : n 0 0 = 4294967295) (ha : anyF (n 8) f k = 0) : jEff l d D a n g jy_K_record jb_K_record 8 (some .int) { frames := 1, cells := 0, slots := 0, locals := 26 } [.ref (a 0), .int (nI 1), .int (nI f), .int (nI k), .int (nI b), .int (nI v), .int (nI z)] (fun v9 n2 g2 => some (.int (nI (n 7 0 + k))) = v9 ∧ ku (noteF n 7 f b v z k) 7 0 (n 7 0 + k) = n2 ∧ g = g2) := by
  refine je_I (by decide) (Nat.le_of_ble_eq_true rfl) ?_
  intro p e s m A below meth c ls Q X hP hS hl hQ
  have hl : lv_has ls 8 [(0, .ref (a 0)), (1, .int (nI 1)), (2, .int (nI f)), (3, .int (nI k)), (4, .int (nI b)), (5, .int (nI v)), (6, .int (nI z))] := hl
  refine lv_iload_n X.1 X.2.1 jd_K_record_0 rfl (lv_at hl 1 rfl) ?_
  refine j_run (j_mkS X (c_K_isStation l d D a n g 1 (by decide)) jU_b (j_pp X hP) jm_241 jm_240 jm_1 jm_239 (show jOk jy_K_isStation 1 by unfold jOk; decide +kernel) (by decide) ⟨rfl, rfl⟩ hl.1 rfl (Nat.le_of_ble_eq_true rfl) ⟨Nat.zero_le _, Nat.zero_le _⟩ jd_K_record_1) ?_
  refine W.eq (g2 := F0 m 4 ls [.int (nI (if 1 < 2 then 1 else 0))]) rfl ?_
  refine kn_to (y := 1) (rfl) ?_
  refine kn_eq0 X.1 X.2.1 jd_K_record_4 (tgt := 31) (by decide) (by omega) (fun h4 => absurd h4 (by decide)) (fun h4 => ?_)
  refine lv_iload_n X.1 X.2.1 jd_K_record_7 rfl (lv_at hl 3 rfl) ?_
  refine lv_iconst (v := nI 1) X.1 X.2.1 jd_K_record_8 (by decide) ?_
  refine kn_xlt X.1 X.2.1 jd_K_record_9 (tgt := 31) (by decide) (by omega) (fun h9 => absurd h9 (by omega)) (fun h9 => ?_)
  refine lv_iload_n X.1 X.2.1 jd_K_record_12 rfl (lv_at hl 3 rfl) ?_
  refine lv_bipush (v := nI 32) X.1 X.2.1 jd_K_record_13 (by decide) ?_
  refine kn_xgt X.1 X.2.1 jd_K_record_15 (tgt := 31) (by decide) (by omega) (fun h15 => absurd h15 (by omega)) (fun h15 => ?_)
  refine lv_iload_n X.1 X.2.1 jd_K_record_18 rfl (lv_at hl 2 rfl) ?_
  refine kn_lt0 X.1 X.2.1 jd_K_record_19 (tgt := 31) (by decide) (by omega) (fun h19 => absurd h19 (by omega)) (fun h19 => ?_)
  refine lv_iload_n X.1 X.2.1 jd_K_record_22 rfl (lv_at hl 2 rfl) ?_
  refine lv_sipush (v := nI 128) X.1 X.2.1 jd_K_record_23 (by decide) ?_
  refine lv_iload_n X.1 X.2.1 jd_K_record_26 rfl (lv_at hl 3 rfl) ?_
  refine kn_isub X.1 X.2.1 jd_K_record_27 (by omega) ?_
  refine kn_xle X.1 X.2.1 jd_K_record_28 (tgt := 41) (by decide) (by omega) (fun h28 => ?_) (fun h28 => absurd h28 (by omega))
  refine lv_aload_n X.1 X.2.1 jd_K_record_41 rfl (lv_at hl 0 rfl) ?_
  refine lv_iload_n X.1 X.2.1 jd_K_record_42 rfl (lv_at hl 1 rfl) ?_
  refine j_run (j_mkV X hP (c_K_stationOf_1 l d D a n g) jU_b (j_pp X hP) jm_314 jm_313 js_7 jm_1 jm_311 (by decide) rfl rfl (show jOk jy_K_stationOf 1 by unfold jOk; decide +kernel) (by decide) ⟨rfl, rfl⟩ hl.1 rfl (Nat.le_of_ble_eq_true rfl) ⟨Nat.zero_le _, Nat.zero_le _⟩ jd_K_record_43) ?_
  refine W.eq (g2 := F0 m 46 ls [.ref (a 7)]) rfl ?_
  refine lv_astore X.1 X.2.1 jd_K_record_46 hl (by decide) rfl (fun ls hl => ?_)
  have hl : lv_has ls 8 [(7, .ref (a 7)), (0, .ref (a 0)), (1, .int (nI 1)), (2, .int (nI f)), (3, .int (nI k)), (4, .int (nI b)), (5, .int (nI v)), (6, .int (nI z))] := hl
  refine lv_aload_n X.1 X.2.1 jd_K_record_48 rfl (lv_at hl 1 rfl) ?_
  refine j_run (j_mkV X hP (c_K_isSifted l d D a n g (hB _ _)) jU_b (j_pp X hP) jm_318 jm_317 js_8 jm_1 jm_315 (by decide) rfl rfl (show jOk jy_K_isSifted 0 by unfold jOk; decide +kernel) (by decide) ⟨rfl, rfl⟩ hl.1 rfl (Nat.le_of_ble_eq_true rfl) ⟨Nat.zero_le _, Nat.zero_le _⟩ jd_K_record_49) ?_
  refine W.eq (g2 := F0 m 52 ls [.int (nI (if n 0 0 = 4294967295 then 0 else 1))]) rfl ?_
  refine kn_to (y := 0) (if_pos hs) ?_
  refine kn_ne0 X.1 X.2.1 jd_K_record_52 (tgt := 65) (by decide) (by omega) (fun h52 => absurd h52 (by decide)) (fun h52 => ?_)
  refine lv_aload X.1 X.2.1 jd_K_record_55 (lv_at hl 0 rfl) ?_
  refine lv_iload_n X.1 X.2.1 jd_K_record_57 rfl (lv_at hl 3 rfl) ?_
  refine lv_iload_n X.1 X.2.1 jd_K_record_58 rfl (lv_at hl 4 rfl) ?_
  refine j_run (j_mkN (host := "KeyDistiller") X hP (c_S_hasAnyOf_7 l d D a n g f k hfk (fun i => hB _ _)) jU_b (j_pp X hP) jm_322 jm_321 js_9 jm_2 (by decide +kernel) (by decide) rfl rfl (show jOk jy_S_hasAnyOf 2 by unfold jOk; decide +kernel) (by decide) ⟨rfl, rfl⟩ hl.1 rfl (Nat.le_of_ble_eq_true rfl) ⟨Nat.zero_le _, Nat.zero_le _⟩ jd_K_record_59) ?_
  refine W.eq (g2 := F0 m 62 ls [.int (nI (anyF (n 8) f k))]) rfl ?_
  refine kn_eq0 X.1 X.2.1 jd_K_record_62 (tgt := 75) (by decide) (by have := anyF_lt (n 8) f k; omega) (fun h62 => ?_) (fun h62 => absurd h62 (fun q => q ha))
  refine lv_aload X.1 X.2.1 jd_K_record_75 (lv_at hl 0 rfl) ?_
  refine lv_iload_n X.1 X.2.1 jd_K_record_77 rfl (lv_at hl 3 rfl) ?_
  refine lv_iload_n X.1 X.2.1 jd_K_record_78 rfl (lv_at hl 4 rfl) ?_
  refine lv_iload X.1 X.2.1 jd_K_record_79 (lv_at hl 5 rfl) ?_
  refine lv_iload X.1 X.2.1 jd_K_record_81 (lv_at hl 6 rfl) ?_
  refine lv_iload X.1 X.2.1 jd_K_record_83 (lv_at hl 7 rfl) ?_
  refine j_rune (j_mkN (host := "KeyDistiller") X hP (c_S_note_7 l d D a n g hap f k b v z hfk hk2 hb hv hz _) jU_bs (j_pe X hP) jm_342 jm_341 js_10 jm_2 (by decide +kernel) (by decide) rfl rfl (show jOk jy_S_note 5 by unfold jOk; decide +kernel) (by decide) ⟨rfl, rfl⟩ hl.1 rfl (Nat.le_of_ble_eq_true rfl) ⟨Nat.zero_le _, Nat.zero_le _⟩ jd_K_record_85) hS (fun v85 n85 g85 H locs h85 hP hS => ?_)
  obtain ⟨rfl, rfl, rfl⟩ := h85
  rw [show noteF n 7 f b v z k 7 0 = n 7 0 from congrFun (noteF_o (by decide) k) 0] at hP
  refine W.eq (g2 := F0 m 88 ls []) rfl ?_
  refine lv_aload X.1 X.2.1 jd_K_record_88 (lv_at hl 0 rfl) ?_
  refine jg_K_81_7 X hP jd_K_record_90 ?_
  refine kn_to (y := n 7 0 + k) (by rw [ku_s]) ?_
  exact hQ _ _ _ _ _ _ _ (⟨rfl, rfl, rfl⟩) hP hS jd_K_record_93
end
section
theorem kn_subw {x y : Nat} (h : y ≤ 4294967296) : nI x - nI y = nI ((x + 4294967296 - y) % 4294967296) := by
  apply kn_inj
  rw [Int32.toBitVec_sub, kn_bv, kn_bv, kn_bv]
  apply BitVec.eq_of_toNat_eq
  simp only [BitVec.toNat_sub, BitVec.toNat_ofNat]
  omega
theorem c_G_shuffleF (l : Launch) (d : Nat → Nat) (D : va_G) (a : Nat → Nat) (n : Nat → Nat → Nat) (g : Nat → Nat) (hap : ∀ i j : Nat, i < 52 → j < 52 → a i = a j → i = j) (q t z : Nat) (hq : q < 52) (hI : jI q = 128) (ht : t ≤ 128) : jEff l d D a n g jy_G_shuffle jb_G_shuffle 8 none { frames := 2, cells := 0, slots := 0, locals := 46 } [.ref (a 13), .long (lN z), .int (nI t), .ref (a q)] (fun v9 n2 g2 => none = v9 ∧ shuF n q z t = n2 ∧ kg g 0 (shuS n q z t) = g2) := by
  unfold shuF shuS
  by_cases h : t = 0
  · subst h
    exact c_G_shuffle_0 l d D a n g hap q z
  · simp only [if_neg h]
    exact c_G_shuffle l d D a n g hap q t z hq hI (by omega) ht

set_option maxHeartbeats 4000000 in
theorem c_K_sample (l : Launch) (d : Nat → Nat) (D : va_G) (a : Nat → Nat) (n : Nat → Nat → Nat) (g : Nat → Nat) (hap : ∀ i j : Nat, i < 52 → j < 52 → a i = a j → i = j) (hB : NB n) (z k : Nat) (hs : ¬ n 0 0 = 4294967295) (hbg : n 14 3 = 4294967295) (hk : k ≤ n 0 0) (hn : n 0 0 ≤ 128) (h6 : ∀ i, n 6 i < 2) (h12 : ∀ i, n 12 i < 2) (hsh : ∀ i, i < n 0 0 → shuF n 30 z (n 0 0) 30 i < 128) : jEff l d D a n g jy_K_sample jb_K_sample 7 (some .int) { frames := 3, cells := 0, slots := 0, locals := 73 } [.ref (a 0), .long (lN z), .int (nI k)] (fun v9 n2 g2 => some (.int (nI (sa0 n z k).2)) = v9 ∧ saF n z k = n2 ∧ (kg g 0 (shuS n 30 z (n 0 0))) = g2) := by
  refine je_I (by decide) (Nat.le_of_ble_eq_true rfl) ?_
  intro p e s m A below meth c ls Q X hP hS hl hQ
  have hl : lv_has ls 7 [(0, .ref (a 0)), (1, .long (lN z)), (3, .int (nI k))] := hl
  refine lv_aload_n X.1 X.2.1 jd_K_sample_0 rfl (lv_at hl 0 rfl) ?_
  refine j_run (j_mkV X hP (c_K_isSifted l d D a n g (hB _ _)) jU_b (j_pp X hP) jm_318 jm_317 js_8 jm_1 jm_315 (by decide) rfl rfl (show jOk jy_K_isSifted 0 by unfold jOk; decide +kernel) (by decide) ⟨rfl, rfl⟩ hl.1 rfl (Nat.le_of_ble_eq_true rfl) ⟨Nat.zero_le _, Nat.zero_le _⟩ jd_K_sample_1) ?_
  refine W.eq (g2 := F0 m 4 ls [.int (nI (if n 0 0 = 4294967295 then 0 else 1))]) rfl ?_
  refine kn_to (y := 1) (if_neg hs) ?_
  refine kn_eq0 X.1 X.2.1 jd_K_sample_4 (tgt := 17) (by decide) (by omega) (fun h4 => absurd h4 (by decide)) (fun h4 => ?_)
  refine lv_aload_n X.1 X.2.1 jd_K_sample_7 rfl (lv_at hl 0 rfl) ?_
  refine jg_K_31_0 X hP jd_K_sample_8 ?_
  refine j_run (j_mkN (host := "KeyDistiller") X hP (c_D_isBegun l d D a n g (hB _ _)) jU_b (j_pp X hP) jm_365 jm_364 js_12 jm_4 (by decide +kernel) (by decide) rfl rfl (show jOk jy_D_isBegun 0 by unfold jOk; decide +kernel) (by decide) ⟨rfl, rfl⟩ hl.1 rfl (Nat.le_of_ble_eq_true rfl) ⟨Nat.zero_le _, Nat.zero_le _⟩ jd_K_sample_11) ?_
  refine W.eq (g2 := F0 m 14 ls [.int (nI (if n 14 3 = 4294967295 then 0 else 1))]) rfl ?_
  refine kn_to (y := 0) (if_pos hbg) ?_
  refine kn_eq0 X.1 X.2.1 jd_K_sample_14 (tgt := 27) (by decide) (by omega) (fun h14 => ?_) (fun h14 => absurd h14 (by decide))
  refine lv_iload_n X.1 X.2.1 jd_K_sample_27 rfl (lv_at hl 2 rfl) ?_
  refine kn_lt0 X.1 X.2.1 jd_K_sample_28 (tgt := 39) (by decide) (by omega) (fun h28 => absurd h28 (by omega)) (fun h28 => ?_)
  refine lv_iload_n X.1 X.2.1 jd_K_sample_31 rfl (lv_at hl 2 rfl) ?_
  refine lv_aload_n X.1 X.2.1 jd_K_sample_32 rfl (lv_at hl 0 rfl) ?_
  refine jg_K_45_0 X hP jd_K_sample_33 ?_
  refine kn_cle X.1 X.2.1 jd_K_sample_36 (tgt := 49) (by decide) (by omega) (fun h36 => ?_) (fun h36 => absurd h36 (by omega))
  refine lv_aload_n X.1 X.2.1 jd_K_sample_49 rfl (lv_at hl 0 rfl) ?_
  refine jg_K_22_0 X hP jd_K_sample_50 ?_
  refine lv_lload_n X.1 X.2.1 jd_K_sample_53 rfl (lv_at hl 1 rfl) ?_
  refine lv_aload_n X.1 X.2.1 jd_K_sample_54 rfl (lv_at hl 0 rfl) ?_
  refine jg_K_45_0 X hP jd_K_sample_55 ?_
  refine lv_aload_n X.1 X.2.1 jd_K_sample_58 rfl (lv_at hl 0 rfl) ?_
  refine jg_K_35_0 X hP jd_K_sample_59 ?_
  refine j_rune (j_mkN (host := "KeyDistiller") X hP (c_G_shuffleF l d D a n g hap 30 (n 0 0) z (by decide) rfl hn _) jU_bs (j_pe X hP) jm_371 jm_370 js_13 jm_3 (by decide +kernel) (by decide) rfl rfl (show jOk jy_G_shuffle 3 by unfold jOk; decide +kernel) (by decide) ⟨rfl, rfl⟩ hl.1 rfl (Nat.le_of_ble_eq_true rfl) ⟨Nat.zero_le _, Nat.zero_le _⟩ jd_K_sample_62) hS (fun v62 n62 g62 H locs h62 hP hS => ?_)
  obtain ⟨rfl, rfl, rfl⟩ := h62
  refine W.eq (g2 := F0 m 65 ls []) rfl ?_
  refine lv_aload_n X.1 X.2.1 jd_K_sample_65 rfl (lv_at hl 0 rfl) ?_
  refine jg_K_39_0 X hP jd_K_sample_66 ?_
  refine lv_iconst (v := nI 0) X.1 X.2.1 jd_K_sample_69 (by decide) ?_
  refine j_rune (j_mkS X (c_Arrays_fill l d D a (shuF n 30 z (n 0 0)) (kg g 0 (shuS n 30 z (n 0 0))) hap 31 0 (by decide) rfl _) jU_bs (j_pe X hP) jm_390 jm_389 jm_12 jm_388 (show jOk jy_Arrays_fill 2 by unfold jOk; decide +kernel) (by decide) ⟨rfl, rfl⟩ hl.1 rfl (Nat.le_of_ble_eq_true rfl) ⟨Nat.zero_le _, Nat.zero_le _⟩ jd_K_sample_70) hS (fun v70 n70 g70 H locs h70 hP hS => ?_)
  obtain ⟨rfl, rfl, rfl⟩ := h70
  refine W.eq (g2 := F0 m 73 ls []) rfl ?_
  refine lv_iconst (v := nI 0) X.1 X.2.1 jd_K_sample_73 (by decide) ?_
  refine lv_istore X.1 X.2.1 jd_K_sample_74 hl (by decide) rfl (fun ls hl => ?_)
  have hl : lv_has ls 7 [(4, .int (nI 0)), (0, .ref (a 0)), (1, .long (lN z)), (3, .int (nI k))] := hl
  refine lv_iconst (v := nI 0) X.1 X.2.1 jd_K_sample_76 (by decide) ?_
  refine lv_istore X.1 X.2.1 jd_K_sample_77 hl (by decide) rfl (fun ls hl => ?_)
  have hl : lv_has ls 7 [(5, .int (nI 0)), (4, .int (nI 0)), (0, .ref (a 0)), (1, .long (lN z)), (3, .int (nI k))] := hl
  have loop79 : ∀ (r i : Nat) (H : Heap) (locs : List Loc) (ls : Array Slot), i + r = k → va_P D jCl (jW d a ((smP (fiF (shuF n 30 z (n 0 0)) 31 0 128) i).1) (kg g 0 (shuS n 30 z (n 0 0)))) H → va_S (jAa a s.heap.size) s.heap H locs → lv_has ls 7 [(5, .int (nI i)), (4, .int (nI ((smP (fiF (shuF n 30 z (n 0 0)) 31 0 128) i).2))), (0, .ref (a 0)), (1, .long (lN z)), (3, .int (nI k))] → W p l e { frames := 3, cells := 0, slots := 0, locals := 73 } s m A below meth c H locs 0 0 Q (F0 m 79 ls []) := by
    intro r
    induction r with
    | zero => 
      intro i H locs ls hi hP hS hl
      obtain rfl : k = i := by omega
      refine lv_iload X.1 X.2.1 jd_K_sample_79 (lv_at hl 0 rfl) ?_
      refine lv_iload_n X.1 X.2.1 jd_K_sample_81 rfl (lv_at hl 4 rfl) ?_
      refine kn_cge X.1 X.2.1 jd_K_sample_82 (tgt := 134) (by decide) (by omega) (fun h82 => ?_) (fun h82 => absurd h82 (by omega))
      have hP : va_P D jCl (jW d a (sa0 n z k).1 (kg g 0 (shuS n 30 z (n 0 0)))) H := hP
      refine lv_aload_n X.1 X.2.1 jd_K_sample_134 rfl (lv_at hl 2 rfl) ?_
      refine jg_K_10_0 X hP jd_K_sample_135 ?_
      refine lv_aload_n X.1 X.2.1 jd_K_sample_138 rfl (lv_at hl 2 rfl) ?_
      refine jg_K_39_0 X hP jd_K_sample_139 ?_
      refine lv_aload_n X.1 X.2.1 jd_K_sample_142 rfl (lv_at hl 2 rfl) ?_
      refine jg_K_45_0 X hP jd_K_sample_143 ?_
      refine kn_to (y := n 0 0) (by rw [sa0_o (by decide)]) ?_
      refine j_rune (j_mkN (host := "KeyDistiller") X hP (c_S_leaveOut_1 l d D a (sa0 n z k).1 (kg g 0 (shuS n 30 z (n 0 0))) hap (n 0 0) hn (fun i j => NB_lvP (NB_sa0 hB) i _ _) _) jU_bs (j_pe X hP) jm_394 jm_393 js_17 jm_2 (by decide +kernel) (by decide) rfl rfl (show jOk jy_S_leaveOut 2 by unfold jOk; decide +kernel) (by decide) ⟨rfl, rfl⟩ hl.1 rfl (Nat.le_of_ble_eq_true rfl) ⟨Nat.zero_le _, Nat.zero_le _⟩ jd_K_sample_146) hS (fun v146 n146 g146 H locs h146 hP hS => ?_)
      obtain ⟨rfl, rfl, rfl⟩ := h146
      refine W.eq (g2 := F0 m 149 ls []) rfl ?_
      refine lv_aload_n X.1 X.2.1 jd_K_sample_149 rfl (lv_at hl 2 rfl) ?_
      refine jg_K_16_0 X hP jd_K_sample_150 ?_
      refine lv_aload_n X.1 X.2.1 jd_K_sample_153 rfl (lv_at hl 2 rfl) ?_
      refine jg_K_39_0 X hP jd_K_sample_154 ?_
      refine lv_aload_n X.1 X.2.1 jd_K_sample_157 rfl (lv_at hl 2 rfl) ?_
      refine jg_K_45_0 X hP jd_K_sample_158 ?_
      refine kn_to (y := n 0 0) (by rw [lvP_o (by decide), sa0_o (by decide)]) ?_
      refine j_rune (j_mkN (host := "KeyDistiller") X hP (c_S_leaveOut_7 l d D a (lvP (sa0 n z k).1 6 31 (n 0 0)).1 (kg g 0 (shuS n 30 z (n 0 0))) hap (n 0 0) hn (fun i j => NB_lvP (NB_lvP (NB_sa0 hB) _) i _ _) _) jU_bs (j_pe X hP) jm_394 jm_393 js_17 jm_2 (by decide +kernel) (by decide) rfl rfl (show jOk jy_S_leaveOut 2 by unfold jOk; decide +kernel) (by decide) ⟨rfl, rfl⟩ hl.1 rfl (Nat.le_of_ble_eq_true rfl) ⟨Nat.zero_le _, Nat.zero_le _⟩ jd_K_sample_161) hS (fun v161 n161 g161 H locs h161 hP hS => ?_)
      obtain ⟨rfl, rfl, rfl⟩ := h161
      have hP : va_P D jCl (jW d a (sa1 n z k) (kg g 0 (shuS n 30 z (n 0 0)))) H := hP
      refine W.eq (g2 := F0 m 164 ls []) rfl ?_
      refine lv_aload_n X.1 X.2.1 jd_K_sample_164 rfl (lv_at hl 2 rfl) ?_
      refine lv_dup X.1 X.2.1 jd_K_sample_165 rfl ?_
      refine jg_K_45_0 X hP jd_K_sample_166 ?_
      refine kn_to (y := n 0 0) (by rw [sa1_o (by decide)]) ?_
      refine lv_iload_n X.1 X.2.1 jd_K_sample_169 rfl (lv_at hl 4 rfl) ?_
      refine kn_isub X.1 X.2.1 jd_K_sample_170 (by omega) ?_
      refine jp_K_45_0 X hap hP hS jd_K_sample_171 (fun H locs hP hS => ?_)
      refine lv_aload_n X.1 X.2.1 jd_K_sample_174 rfl (lv_at hl 2 rfl) ?_
      refine lv_dup X.1 X.2.1 jd_K_sample_175 rfl ?_
      refine jg_K_115_0 X hP jd_K_sample_176 ?_
      refine kn_to (y := n 0 1) (by show sa1 n z k 0 1 = _; rw [sa1_o (by decide)]) ?_
      refine lv_iload_n X.1 X.2.1 jd_K_sample_179 rfl (lv_at hl 4 rfl) ?_
      refine kn_iadd X.1 X.2.1 jd_K_sample_180 ?_
      refine jp_K_115_0 X hap hP hS jd_K_sample_181 (fun H locs hP hS => ?_)
      refine lv_aload_n X.1 X.2.1 jd_K_sample_184 rfl (lv_at hl 2 rfl) ?_
      refine lv_dup X.1 X.2.1 jd_K_sample_185 rfl ?_
      refine jg_K_118_0 X hP jd_K_sample_186 ?_
      refine kn_to (y := n 0 2) (by show sa1 n z k 0 2 = _; rw [sa1_o (by decide)]) ?_
      refine lv_iload X.1 X.2.1 jd_K_sample_189 (lv_at hl 1 rfl) ?_
      refine kn_iadd X.1 X.2.1 jd_K_sample_191 ?_
      refine jp_K_118_0 X hap hP hS jd_K_sample_192 (fun H locs hP hS => ?_)
      refine lv_iload X.1 X.2.1 jd_K_sample_195 (lv_at hl 1 rfl) ?_
      exact hQ _ _ _ _ _ _ _ (⟨rfl, rfl, rfl⟩) hP hS jd_K_sample_197
    | succ r ihr => 
      intro i H locs ls hi hP hS hl
      refine lv_iload X.1 X.2.1 jd_K_sample_79 (lv_at hl 0 rfl) ?_
      refine lv_iload_n X.1 X.2.1 jd_K_sample_81 rfl (lv_at hl 4 rfl) ?_
      refine kn_cge X.1 X.2.1 jd_K_sample_82 (tgt := 134) (by decide) (by omega) (fun h82 => absurd h82 (by omega)) (fun h82 => ?_)
      refine lv_aload_n X.1 X.2.1 jd_K_sample_85 rfl (lv_at hl 2 rfl) ?_
      refine jg_K_35_0 X hP jd_K_sample_86 ?_
      refine lv_iload X.1 X.2.1 jd_K_sample_89 (lv_at hl 0 rfl) ?_
      refine j_ald X hP 30 i (by decide) (show i < 128 from by omega) (by decide) jd_K_sample_91 ?_
      refine lv_istore X.1 X.2.1 jd_K_sample_92 hl (by decide) rfl (fun ls hl => ?_)
      have hl : lv_has ls 7 [(6, .int (nI (((smP (fiF (shuF n 30 z (n 0 0)) 31 0 128) i).1) 30 i))), (5, .int (nI i)), (4, .int (nI ((smP (fiF (shuF n 30 z (n 0 0)) 31 0 128) i).2))), (0, .ref (a 0)), (1, .long (lN z)), (3, .int (nI k))] := hl
      refine lv_aload_n X.1 X.2.1 jd_K_sample_94 rfl (lv_at hl 3 rfl) ?_
      refine jg_K_39_0 X hP jd_K_sample_95 ?_
      refine lv_iload X.1 X.2.1 jd_K_sample_98 (lv_at hl 0 rfl) ?_
      refine lv_iconst (v := nI 1) X.1 X.2.1 jd_K_sample_100 (by decide) ?_
      refine j_ast X hap hP hS 31 (((smP (fiF (shuF n 30 z (n 0 0)) 31 0 128) i).1) 30 i) 1 (by decide) (show (((smP (fiF (shuF n 30 z (n 0 0)) 31 0 128) i).1) 30 i) < 128 from by rw [smP_o (by decide), fiF_o (by decide)]; exact hsh _ (by omega)) (by decide) jd_K_sample_101 (fun H locs hP hS => ?_)
      refine lv_iload X.1 X.2.1 jd_K_sample_102 (lv_at hl 2 rfl) ?_
      refine lv_aload_n X.1 X.2.1 jd_K_sample_104 rfl (lv_at hl 3 rfl) ?_
      refine jg_K_10_0 X hP jd_K_sample_105 ?_
      refine jg_K_89_1 X hP jd_K_sample_108 ?_
      refine lv_iload X.1 X.2.1 jd_K_sample_111 (lv_at hl 0 rfl) ?_
      refine j_ald X hP 6 (((smP (fiF (shuF n 30 z (n 0 0)) 31 0 128) i).1) 30 i) (by decide) (show (((smP (fiF (shuF n 30 z (n 0 0)) 31 0 128) i).1) 30 i) < 128 from by rw [smP_o (by decide), fiF_o (by decide)]; exact hsh _ (by omega)) (by decide) jd_K_sample_113 ?_
      refine lv_aload_n X.1 X.2.1 jd_K_sample_114 rfl (lv_at hl 3 rfl) ?_
      refine jg_K_16_0 X hP jd_K_sample_115 ?_
      refine jg_K_89_7 X hP jd_K_sample_118 ?_
      refine lv_iload X.1 X.2.1 jd_K_sample_121 (lv_at hl 0 rfl) ?_
      refine j_ald X hP 12 (((smP (fiF (shuF n 30 z (n 0 0)) 31 0 128) i).1) 30 i) (by decide) (show (((smP (fiF (shuF n 30 z (n 0 0)) 31 0 128) i).1) 30 i) < 128 from by rw [smP_o (by decide), fiF_o (by decide)]; exact hsh _ (by omega)) (by decide) jd_K_sample_123 ?_
      refine kn_ixor X.1 X.2.1 jd_K_sample_124 ?_
      refine kn_iadd X.1 X.2.1 jd_K_sample_125 ?_
      refine lv_istore X.1 X.2.1 jd_K_sample_126 hl (by decide) rfl (fun ls hl => ?_)
      have hl : lv_has ls 7 [(4, .int (nI ((smP (fiF (shuF n 30 z (n 0 0)) 31 0 128) i).2 + (((ku ((smP (fiF (shuF n 30 z (n 0 0)) 31 0 128) i).1) 31 (((smP (fiF (shuF n 30 z (n 0 0)) 31 0 128) i).1) 30 i) 1) 6 (((smP (fiF (shuF n 30 z (n 0 0)) 31 0 128) i).1) 30 i)) ^^^ ((ku ((smP (fiF (shuF n 30 z (n 0 0)) 31 0 128) i).1) 31 (((smP (fiF (shuF n 30 z (n 0 0)) 31 0 128) i).1) 30 i) 1) 12 (((smP (fiF (shuF n 30 z (n 0 0)) 31 0 128) i).1) 30 i)))))), (6, .int (nI (((smP (fiF (shuF n 30 z (n 0 0)) 31 0 128) i).1) 30 i))), (5, .int (nI i)), (0, .ref (a 0)), (1, .long (lN z)), (3, .int (nI k))] := hl
      refine lv_iinc (k := 2) (v := nI (i + 1)) X.1 X.2.1 jd_K_sample_128 hl rfl (kn_inc _) (by decide) rfl (fun ls hl => ?_)
      have hl : lv_has ls 7 [(5, .int (nI (i + 1))), (4, .int (nI ((smP (fiF (shuF n 30 z (n 0 0)) 31 0 128) i).2 + (((ku ((smP (fiF (shuF n 30 z (n 0 0)) 31 0 128) i).1) 31 (((smP (fiF (shuF n 30 z (n 0 0)) 31 0 128) i).1) 30 i) 1) 6 (((smP (fiF (shuF n 30 z (n 0 0)) 31 0 128) i).1) 30 i)) ^^^ ((ku ((smP (fiF (shuF n 30 z (n 0 0)) 31 0 128) i).1) 31 (((smP (fiF (shuF n 30 z (n 0 0)) 31 0 128) i).1) 30 i) 1) 12 (((smP (fiF (shuF n 30 z (n 0 0)) 31 0 128) i).1) 30 i)))))), (6, .int (nI (((smP (fiF (shuF n 30 z (n 0 0)) 31 0 128) i).1) 30 i))), (0, .ref (a 0)), (1, .long (lN z)), (3, .int (nI k))] := hl
      refine lv_goto X.1 X.2.1 jd_K_sample_131 (tgt := 79) (by decide) ?_
      have hl : lv_has ls 7 [(5, .int (nI (i + 1))), (4, .int (nI ((smP (fiF (shuF n 30 z (n 0 0)) 31 0 128) (i + 1)).2))), (0, .ref (a 0)), (1, .long (lN z)), (3, .int (nI k))] := lv_sub hl [0, 1, 3, 4, 5] rfl
      exact ihr (i + 1) H locs ls (by omega) hP hS hl
  have hl : lv_has ls 7 [(5, .int (nI 0)), (4, .int (nI ((smP (fiF (shuF n 30 z (n 0 0)) 31 0 128) 0).2))), (0, .ref (a 0)), (1, .long (lN z)), (3, .int (nI k))] := lv_sub hl [0, 1, 2, 3, 4] rfl
  exact loop79 (k) 0 H locs ls (by omega) hP hS hl

set_option maxHeartbeats 4000000 in
theorem t_K_sample_ISa (l : Launch) (d : Nat → Nat) (D : va_G) (a : Nat → Nat) (n : Nat → Nat → Nat) (g : Nat → Nat) (hlt : l.stackTraces = false) (hB : NB n) (z k : Nat) (hs : n 0 0 = 4294967295) : jThr l d D a n g jy_K_sample jb_K_sample 7 (some .int) { frames := 6, cells := 1, slots := 6, locals := 82 } [.ref (a 0), .long (lN z), .int (nI k)] "java/lang/IllegalStateException" := by
  refine jt_T hlt 72 76 rfl (by decide) (Nat.le_of_ble_eq_true rfl) jx_fIS jm_323 jm_11 jx_gIS jx_bIS jx_oIS (by decide) ?_
  intro p e s m A below meth c ls Q X hP hl hQ
  have hl : lv_has ls 7 [(0, .ref (a 0)), (1, .long (lN z)), (3, .int (nI k))] := hl
  refine lv_aload_n X.1 X.2.1 jd_K_sample_0 rfl (lv_at hl 0 rfl) ?_
  refine j_run (j_mkV X hP (c_K_isSifted l d D a n g (hB _ _)) jU_b (j_pp X hP) jm_318 jm_317 js_8 jm_1 jm_315 (by decide) rfl rfl (show jOk jy_K_isSifted 0 by unfold jOk; decide +kernel) (by decide) ⟨rfl, rfl⟩ hl.1 rfl (Nat.le_of_ble_eq_true rfl) ⟨Nat.zero_le _, Nat.zero_le _⟩ jd_K_sample_1) ?_
  refine W.eq (g2 := F0 m 4 ls [.int (nI (if n 0 0 = 4294967295 then 0 else 1))]) rfl ?_
  refine kn_to (y := 0) (if_pos hs) ?_
  refine kn_eq0 X.1 X.2.1 jd_K_sample_4 (tgt := 17) (by decide) (by omega) (fun h4 => ?_) (fun h4 => absurd h4 (by decide))
  exact hQ 17 98 "not between sifting and the start" _ (by decide) hl.1 jd_K_sample_17 jd_K_sample_20 jd_K_sample_21 jd_K_sample_23 jd_K_sample_26

set_option maxHeartbeats 4000000 in
theorem t_K_start_ISa (l : Launch) (d : Nat → Nat) (D : va_G) (a : Nat → Nat) (n : Nat → Nat → Nat) (g : Nat → Nat) (hlt : l.stackTraces = false) (hB : NB n) (k z : Nat) (hs : n 0 0 = 4294967295) : jThr l d D a n g jy_K_start jb_K_start 5 (some .int) { frames := 6, cells := 1, slots := 6, locals := 82 } [.ref (a 0), .int (nI k), .long (lN z)] "java/lang/IllegalStateException" := by
  refine jt_T hlt 72 76 rfl (by decide) (Nat.le_of_ble_eq_true rfl) jx_fIS jm_323 jm_11 jx_gIS jx_bIS jx_oIS (by decide) ?_
  intro p e s m A below meth c ls Q X hP hl hQ
  have hl : lv_has ls 5 [(0, .ref (a 0)), (1, .int (nI k)), (2, .long (lN z))] := hl
  refine lv_aload_n X.1 X.2.1 jd_K_start_0 rfl (lv_at hl 0 rfl) ?_
  refine j_run (j_mkV X hP (c_K_isSifted l d D a n g (hB _ _)) jU_b (j_pp X hP) jm_318 jm_317 js_8 jm_1 jm_315 (by decide) rfl rfl (show jOk jy_K_isSifted 0 by unfold jOk; decide +kernel) (by decide) ⟨rfl, rfl⟩ hl.1 rfl (Nat.le_of_ble_eq_true rfl) ⟨Nat.zero_le _, Nat.zero_le _⟩ jd_K_start_1) ?_
  refine W.eq (g2 := F0 m 4 ls [.int (nI (if n 0 0 = 4294967295 then 0 else 1))]) rfl ?_
  refine kn_to (y := 0) (if_pos hs) ?_
  refine kn_eq0 X.1 X.2.1 jd_K_start_4 (tgt := 17) (by decide) (by omega) (fun h4 => ?_) (fun h4 => absurd h4 (by decide))
  exact hQ 17 121 "not sifted, or begun already" _ (by decide) hl.1 jd_K_start_17 jd_K_start_20 jd_K_start_21 jd_K_start_23 jd_K_start_26

set_option maxHeartbeats 4000000 in
theorem t_K_sample_ISb (l : Launch) (d : Nat → Nat) (D : va_G) (a : Nat → Nat) (n : Nat → Nat → Nat) (g : Nat → Nat) (hlt : l.stackTraces = false) (hB : NB n) (z k : Nat) (hs : ¬ n 0 0 = 4294967295) (hbg : ¬ n 14 3 = 4294967295) : jThr l d D a n g jy_K_sample jb_K_sample 7 (some .int) { frames := 6, cells := 1, slots := 6, locals := 82 } [.ref (a 0), .long (lN z), .int (nI k)] "java/lang/IllegalStateException" := by
  refine jt_T hlt 72 76 rfl (by decide) (Nat.le_of_ble_eq_true rfl) jx_fIS jm_323 jm_11 jx_gIS jx_bIS jx_oIS (by decide) ?_
  intro p e s m A below meth c ls Q X hP hl hQ
  have hl : lv_has ls 7 [(0, .ref (a 0)), (1, .long (lN z)), (3, .int (nI k))] := hl
  refine lv_aload_n X.1 X.2.1 jd_K_sample_0 rfl (lv_at hl 0 rfl) ?_
  refine j_run (j_mkV X hP (c_K_isSifted l d D a n g (hB _ _)) jU_b (j_pp X hP) jm_318 jm_317 js_8 jm_1 jm_315 (by decide) rfl rfl (show jOk jy_K_isSifted 0 by unfold jOk; decide +kernel) (by decide) ⟨rfl, rfl⟩ hl.1 rfl (Nat.le_of_ble_eq_true rfl) ⟨Nat.zero_le _, Nat.zero_le _⟩ jd_K_sample_1) ?_
  refine W.eq (g2 := F0 m 4 ls [.int (nI (if n 0 0 = 4294967295 then 0 else 1))]) rfl ?_
  refine kn_to (y := 1) (if_neg hs) ?_
  refine kn_eq0 X.1 X.2.1 jd_K_sample_4 (tgt := 17) (by decide) (by omega) (fun h4 => absurd h4 (by decide)) (fun h4 => ?_)
  refine lv_aload_n X.1 X.2.1 jd_K_sample_7 rfl (lv_at hl 0 rfl) ?_
  refine jg_K_31_0 X hP jd_K_sample_8 ?_
  refine j_run (j_mkN (host := "KeyDistiller") X hP (c_D_isBegun l d D a n g (hB _ _)) jU_b (j_pp X hP) jm_365 jm_364 js_12 jm_4 (by decide +kernel) (by decide) rfl rfl (show jOk jy_D_isBegun 0 by unfold jOk; decide +kernel) (by decide) ⟨rfl, rfl⟩ hl.1 rfl (Nat.le_of_ble_eq_true rfl) ⟨Nat.zero_le _, Nat.zero_le _⟩ jd_K_sample_11) ?_
  refine W.eq (g2 := F0 m 14 ls [.int (nI (if n 14 3 = 4294967295 then 0 else 1))]) rfl ?_
  refine kn_to (y := 1) (if_neg hbg) ?_
  refine kn_eq0 X.1 X.2.1 jd_K_sample_14 (tgt := 27) (by decide) (by omega) (fun h14 => absurd h14 (by decide)) (fun h14 => ?_)
  exact hQ 17 98 "not between sifting and the start" _ (by decide) hl.1 jd_K_sample_17 jd_K_sample_20 jd_K_sample_21 jd_K_sample_23 jd_K_sample_26

set_option maxHeartbeats 4000000 in
theorem t_K_start_ISb (l : Launch) (d : Nat → Nat) (D : va_G) (a : Nat → Nat) (n : Nat → Nat → Nat) (g : Nat → Nat) (hlt : l.stackTraces = false) (hB : NB n) (k z : Nat) (hs : ¬ n 0 0 = 4294967295) (hbg : ¬ n 14 3 = 4294967295) : jThr l d D a n g jy_K_start jb_K_start 5 (some .int) { frames := 6, cells := 1, slots := 6, locals := 82 } [.ref (a 0), .int (nI k), .long (lN z)] "java/lang/IllegalStateException" := by
  refine jt_T hlt 72 76 rfl (by decide) (Nat.le_of_ble_eq_true rfl) jx_fIS jm_323 jm_11 jx_gIS jx_bIS jx_oIS (by decide) ?_
  intro p e s m A below meth c ls Q X hP hl hQ
  have hl : lv_has ls 5 [(0, .ref (a 0)), (1, .int (nI k)), (2, .long (lN z))] := hl
  refine lv_aload_n X.1 X.2.1 jd_K_start_0 rfl (lv_at hl 0 rfl) ?_
  refine j_run (j_mkV X hP (c_K_isSifted l d D a n g (hB _ _)) jU_b (j_pp X hP) jm_318 jm_317 js_8 jm_1 jm_315 (by decide) rfl rfl (show jOk jy_K_isSifted 0 by unfold jOk; decide +kernel) (by decide) ⟨rfl, rfl⟩ hl.1 rfl (Nat.le_of_ble_eq_true rfl) ⟨Nat.zero_le _, Nat.zero_le _⟩ jd_K_start_1) ?_
  refine W.eq (g2 := F0 m 4 ls [.int (nI (if n 0 0 = 4294967295 then 0 else 1))]) rfl ?_
  refine kn_to (y := 1) (if_neg hs) ?_
  refine kn_eq0 X.1 X.2.1 jd_K_start_4 (tgt := 17) (by decide) (by omega) (fun h4 => absurd h4 (by decide)) (fun h4 => ?_)
  refine lv_aload_n X.1 X.2.1 jd_K_start_7 rfl (lv_at hl 0 rfl) ?_
  refine jg_K_31_0 X hP jd_K_start_8 ?_
  refine j_run (j_mkN (host := "KeyDistiller") X hP (c_D_isBegun l d D a n g (hB _ _)) jU_b (j_pp X hP) jm_365 jm_364 js_12 jm_4 (by decide +kernel) (by decide) rfl rfl (show jOk jy_D_isBegun 0 by unfold jOk; decide +kernel) (by decide) ⟨rfl, rfl⟩ hl.1 rfl (Nat.le_of_ble_eq_true rfl) ⟨Nat.zero_le _, Nat.zero_le _⟩ jd_K_start_11) ?_
  refine W.eq (g2 := F0 m 14 ls [.int (nI (if n 14 3 = 4294967295 then 0 else 1))]) rfl ?_
  refine kn_to (y := 1) (if_neg hbg) ?_
  refine kn_eq0 X.1 X.2.1 jd_K_start_14 (tgt := 27) (by decide) (by omega) (fun h14 => absurd h14 (by decide)) (fun h14 => ?_)
  exact hQ 17 121 "not sifted, or begun already" _ (by decide) hl.1 jd_K_start_17 jd_K_start_20 jd_K_start_21 jd_K_start_23 jd_K_start_26

set_option maxHeartbeats 4000000 in
theorem t_K_sample_IA (l : Launch) (d : Nat → Nat) (D : va_G) (a : Nat → Nat) (n : Nat → Nat → Nat) (g : Nat → Nat) (hlt : l.stackTraces = false) (hB : NB n) (hs : ¬ n 0 0 = 4294967295) (hbg : n 14 3 = 4294967295) (hn : n 0 0 ≤ 128) (z k : Nat) (hk : k < 4294967296) (hbad : ¬ k ≤ n 0 0) : jThr l d D a n g jy_K_sample jb_K_sample 7 (some .int) { frames := 6, cells := 1, slots := 6, locals := 82 } [.ref (a 0), .long (lN z), .int (nI k)] "java/lang/IllegalArgumentException" := by
  refine jt_T hlt 53 57 rfl (by decide) (Nat.le_of_ble_eq_true rfl) jx_fIA jm_242 jm_10 jx_gIA jx_bIA jx_oIA (by decide) ?_
  intro p e s m A below meth c ls Q X hP hl hQ
  have hl : lv_has ls 7 [(0, .ref (a 0)), (1, .long (lN z)), (3, .int (nI k))] := hl
  refine lv_aload_n X.1 X.2.1 jd_K_sample_0 rfl (lv_at hl 0 rfl) ?_
  refine j_run (j_mkV X hP (c_K_isSifted l d D a n g (hB _ _)) jU_b (j_pp X hP) jm_318 jm_317 js_8 jm_1 jm_315 (by decide) rfl rfl (show jOk jy_K_isSifted 0 by unfold jOk; decide +kernel) (by decide) ⟨rfl, rfl⟩ hl.1 rfl (Nat.le_of_ble_eq_true rfl) ⟨Nat.zero_le _, Nat.zero_le _⟩ jd_K_sample_1) ?_
  refine W.eq (g2 := F0 m 4 ls [.int (nI (if n 0 0 = 4294967295 then 0 else 1))]) rfl ?_
  refine kn_to (y := 1) (if_neg hs) ?_
  refine kn_eq0 X.1 X.2.1 jd_K_sample_4 (tgt := 17) (by decide) (by omega) (fun h4 => absurd h4 (by decide)) (fun h4 => ?_)
  refine lv_aload_n X.1 X.2.1 jd_K_sample_7 rfl (lv_at hl 0 rfl) ?_
  refine jg_K_31_0 X hP jd_K_sample_8 ?_
  refine j_run (j_mkN (host := "KeyDistiller") X hP (c_D_isBegun l d D a n g (hB _ _)) jU_b (j_pp X hP) jm_365 jm_364 js_12 jm_4 (by decide +kernel) (by decide) rfl rfl (show jOk jy_D_isBegun 0 by unfold jOk; decide +kernel) (by decide) ⟨rfl, rfl⟩ hl.1 rfl (Nat.le_of_ble_eq_true rfl) ⟨Nat.zero_le _, Nat.zero_le _⟩ jd_K_sample_11) ?_
  refine W.eq (g2 := F0 m 14 ls [.int (nI (if n 14 3 = 4294967295 then 0 else 1))]) rfl ?_
  refine kn_to (y := 0) (if_pos hbg) ?_
  refine kn_eq0 X.1 X.2.1 jd_K_sample_14 (tgt := 27) (by decide) (by omega) (fun h14 => ?_) (fun h14 => absurd h14 (by decide))
  refine lv_iload_n X.1 X.2.1 jd_K_sample_27 rfl (lv_at hl 2 rfl) ?_
  refine kn_lt0 X.1 X.2.1 jd_K_sample_28 (tgt := 39) (by decide) (by omega) (fun h28 => ?_) (fun h28 => ?_)
  · skip
    exact hQ 39 100 "no such sample" _ (by decide) hl.1 jd_K_sample_39 jd_K_sample_42 jd_K_sample_43 jd_K_sample_45 jd_K_sample_48
  · skip
    refine lv_iload_n X.1 X.2.1 jd_K_sample_31 rfl (lv_at hl 2 rfl) ?_
    refine lv_aload_n X.1 X.2.1 jd_K_sample_32 rfl (lv_at hl 0 rfl) ?_
    refine jg_K_45_0 X hP jd_K_sample_33 ?_
    refine kn_xle X.1 X.2.1 jd_K_sample_36 (tgt := 49) (by decide) (by omega) (fun h36 => absurd h36 (by omega)) (fun h36 => ?_)
    exact hQ 39 100 "no such sample" _ (by decide) hl.1 jd_K_sample_39 jd_K_sample_42 jd_K_sample_43 jd_K_sample_45 jd_K_sample_48

set_option maxHeartbeats 4000000 in
theorem t_K_start_IA (l : Launch) (d : Nat → Nat) (D : va_G) (a : Nat → Nat) (n : Nat → Nat → Nat) (g : Nat → Nat) (hlt : l.stackTraces = false) (hB : NB n) (hs : ¬ n 0 0 = 4294967295) (hbg : n 14 3 = 4294967295) (hn : n 0 0 ≤ 128) (k z : Nat) (hk : k < 4294967296) (hbad : ¬ (4 ≤ k ∧ k ≤ n 0 0)) : jThr l d D a n g jy_K_start jb_K_start 5 (some .int) { frames := 6, cells := 1, slots := 6, locals := 82 } [.ref (a 0), .int (nI k), .long (lN z)] "java/lang/IllegalArgumentException" := by
  refine jt_T hlt 53 57 rfl (by decide) (Nat.le_of_ble_eq_true rfl) jx_fIA jm_242 jm_10 jx_gIA jx_bIA jx_oIA (by decide) ?_
  intro p e s m A below meth c ls Q X hP hl hQ
  have hl : lv_has ls 5 [(0, .ref (a 0)), (1, .int (nI k)), (2, .long (lN z))] := hl
  refine lv_aload_n X.1 X.2.1 jd_K_start_0 rfl (lv_at hl 0 rfl) ?_
  refine j_run (j_mkV X hP (c_K_isSifted l d D a n g (hB _ _)) jU_b (j_pp X hP) jm_318 jm_317 js_8 jm_1 jm_315 (by decide) rfl rfl (show jOk jy_K_isSifted 0 by unfold jOk; decide +kernel) (by decide) ⟨rfl, rfl⟩ hl.1 rfl (Nat.le_of_ble_eq_true rfl) ⟨Nat.zero_le _, Nat.zero_le _⟩ jd_K_start_1) ?_
  refine W.eq (g2 := F0 m 4 ls [.int (nI (if n 0 0 = 4294967295 then 0 else 1))]) rfl ?_
  refine kn_to (y := 1) (if_neg hs) ?_
  refine kn_eq0 X.1 X.2.1 jd_K_start_4 (tgt := 17) (by decide) (by omega) (fun h4 => absurd h4 (by decide)) (fun h4 => ?_)
  refine lv_aload_n X.1 X.2.1 jd_K_start_7 rfl (lv_at hl 0 rfl) ?_
  refine jg_K_31_0 X hP jd_K_start_8 ?_
  refine j_run (j_mkN (host := "KeyDistiller") X hP (c_D_isBegun l d D a n g (hB _ _)) jU_b (j_pp X hP) jm_365 jm_364 js_12 jm_4 (by decide +kernel) (by decide) rfl rfl (show jOk jy_D_isBegun 0 by unfold jOk; decide +kernel) (by decide) ⟨rfl, rfl⟩ hl.1 rfl (Nat.le_of_ble_eq_true rfl) ⟨Nat.zero_le _, Nat.zero_le _⟩ jd_K_start_11) ?_
  refine W.eq (g2 := F0 m 14 ls [.int (nI (if n 14 3 = 4294967295 then 0 else 1))]) rfl ?_
  refine kn_to (y := 0) (if_pos hbg) ?_
  refine kn_eq0 X.1 X.2.1 jd_K_start_14 (tgt := 27) (by decide) (by omega) (fun h14 => ?_) (fun h14 => absurd h14 (by decide))
  refine lv_iload_n X.1 X.2.1 jd_K_start_27 rfl (lv_at hl 1 rfl) ?_
  refine lv_iconst (v := nI 4) X.1 X.2.1 jd_K_start_28 (by decide) ?_
  refine kn_xlt X.1 X.2.1 jd_K_start_29 (tgt := 40) (by decide) (by omega) (fun h29 => ?_) (fun h29 => ?_)
  · skip
    exact hQ 40 123 "no such size" _ (by decide) hl.1 jd_K_start_40 jd_K_start_43 jd_K_start_44 jd_K_start_46 jd_K_start_49
  · skip
    refine lv_iload_n X.1 X.2.1 jd_K_start_32 rfl (lv_at hl 1 rfl) ?_
    refine lv_aload_n X.1 X.2.1 jd_K_start_33 rfl (lv_at hl 0 rfl) ?_
    refine jg_K_45_0 X hP jd_K_start_34 ?_
    refine kn_xle X.1 X.2.1 jd_K_start_37 (tgt := 50) (by decide) (by omega) (fun h37 => absurd h37 (by omega)) (fun h37 => ?_)
    exact hQ 40 123 "no such size" _ (by decide) hl.1 jd_K_start_40 jd_K_start_43 jd_K_start_44 jd_K_start_46 jd_K_start_49

set_option maxHeartbeats 4000000 in
theorem c_K_start (l : Launch) (d : Nat → Nat) (D : va_G) (a : Nat → Nat) (n : Nat → Nat → Nat) (g : Nat → Nat) (hap : ∀ i j : Nat, i < 52 → j < 52 → a i = a j → i = j) (hB : NB n) (hs : ¬ n 0 0 = 4294967295) (hbg : n 14 3 = 4294967295) (hn : n 0 0 ≤ 128) (k z : Nat) (h4 : 4 ≤ k) (hk : k ≤ n 0 0) (hD : DI (bgF (stO n z 4) k (n 0 0))) : jEff l d D a n g jy_K_start jb_K_start 5 (some .int) { frames := 6, cells := 0, slots := 0, locals := 142 } [.ref (a 0), .int (nI k), .long (lN z)] (fun v9 n2 g2 => some (.int (nI ((goF (bgF (stO n z 4) k (n 0 0)) 256).1 15 0))) = v9 ∧ (goF (bgF (stO n z 4) k (n 0 0)) 256).1 = n2 ∧ kg g 0 (stS n (g 0) z 4) = g2) := by
  refine je_I (by decide) (Nat.le_of_ble_eq_true rfl) ?_
  intro p e s m A below meth c ls Q X hP hS hl hQ
  have hl : lv_has ls 5 [(0, .ref (a 0)), (1, .int (nI k)), (2, .long (lN z))] := hl
  refine lv_aload_n X.1 X.2.1 jd_K_start_0 rfl (lv_at hl 0 rfl) ?_
  refine j_run (j_mkV X hP (c_K_isSifted l d D a n g (hB _ _)) jU_b (j_pp X hP) jm_318 jm_317 js_8 jm_1 jm_315 (by decide) rfl rfl (show jOk jy_K_isSifted 0 by unfold jOk; decide +kernel) (by decide) ⟨rfl, rfl⟩ hl.1 rfl (Nat.le_of_ble_eq_true rfl) ⟨Nat.zero_le _, Nat.zero_le _⟩ jd_K_start_1) ?_
  refine W.eq (g2 := F0 m 4 ls [.int (nI (if n 0 0 = 4294967295 then 0 else 1))]) rfl ?_
  refine kn_to (y := 1) (if_neg hs) ?_
  refine kn_eq0 X.1 X.2.1 jd_K_start_4 (tgt := 17) (by decide) (by omega) (fun h4 => absurd h4 (by decide)) (fun h4 => ?_)
  refine lv_aload_n X.1 X.2.1 jd_K_start_7 rfl (lv_at hl 0 rfl) ?_
  refine jg_K_31_0 X hP jd_K_start_8 ?_
  refine j_run (j_mkN (host := "KeyDistiller") X hP (c_D_isBegun l d D a n g (hB _ _)) jU_b (j_pp X hP) jm_365 jm_364 js_12 jm_4 (by decide +kernel) (by decide) rfl rfl (show jOk jy_D_isBegun 0 by unfold jOk; decide +kernel) (by decide) ⟨rfl, rfl⟩ hl.1 rfl (Nat.le_of_ble_eq_true rfl) ⟨Nat.zero_le _, Nat.zero_le _⟩ jd_K_start_11) ?_
  refine W.eq (g2 := F0 m 14 ls [.int (nI (if n 14 3 = 4294967295 then 0 else 1))]) rfl ?_
  refine kn_to (y := 0) (if_pos hbg) ?_
  refine kn_eq0 X.1 X.2.1 jd_K_start_14 (tgt := 27) (by decide) (by omega) (fun h14 => ?_) (fun h14 => absurd h14 (by decide))
  refine lv_iload_n X.1 X.2.1 jd_K_start_27 rfl (lv_at hl 1 rfl) ?_
  refine lv_iconst (v := nI 4) X.1 X.2.1 jd_K_start_28 (by decide) ?_
  refine kn_clt X.1 X.2.1 jd_K_start_29 (tgt := 40) (by decide) (by omega) (fun h29 => absurd h29 (by omega)) (fun h29 => ?_)
  refine lv_iload_n X.1 X.2.1 jd_K_start_32 rfl (lv_at hl 1 rfl) ?_
  refine lv_aload_n X.1 X.2.1 jd_K_start_33 rfl (lv_at hl 0 rfl) ?_
  refine jg_K_45_0 X hP jd_K_start_34 ?_
  refine kn_cle X.1 X.2.1 jd_K_start_37 (tgt := 50) (by decide) (by omega) (fun h37 => ?_) (fun h37 => absurd h37 (by omega))
  refine lv_iconst (v := nI 0) X.1 X.2.1 jd_K_start_50 (by decide) ?_
  refine lv_istore X.1 X.2.1 jd_K_start_51 hl (by decide) rfl (fun ls hl => ?_)
  have hl : lv_has ls 5 [(4, .int (nI 0)), (0, .ref (a 0)), (1, .int (nI k)), (2, .long (lN z))] := hl
  have loop53 : ∀ (r i : Nat) (H : Heap) (locs : List Loc) (ls : Array Slot), i + r = 4 → va_P D jCl (jW d a (stO n z i) (kg g 0 (stS n (g 0) z i))) H → va_S (jAa a s.heap.size) s.heap H locs → lv_has ls 5 [(4, .int (nI i)), (0, .ref (a 0)), (1, .int (nI k)), (2, .long (lN z))] → W p l e { frames := 6, cells := 0, slots := 0, locals := 142 } s m A below meth c H locs 0 0 Q (F0 m 53 ls []) := by
    intro r
    induction r with
    | zero => 
      intro i H locs ls hi hP hS hl
      obtain rfl : 4 = i := by omega
      refine lv_iload X.1 X.2.1 jd_K_start_53 (lv_at hl 0 rfl) ?_
      refine lv_iconst (v := nI 4) X.1 X.2.1 jd_K_start_55 (by decide) ?_
      refine kn_cge X.1 X.2.1 jd_K_start_56 (tgt := 91) (by decide) (by omega) (fun h56 => ?_) (fun h56 => absurd h56 (by omega))
      refine lv_aload_n X.1 X.2.1 jd_K_start_91 rfl (lv_at hl 1 rfl) ?_
      refine jg_K_31_0 X hP jd_K_start_92 ?_
      refine lv_iload_n X.1 X.2.1 jd_K_start_95 rfl (lv_at hl 2 rfl) ?_
      refine lv_aload_n X.1 X.2.1 jd_K_start_96 rfl (lv_at hl 1 rfl) ?_
      refine jg_K_45_0 X hP jd_K_start_97 ?_
      refine kn_to (y := n 0 0) (congrFun (stO_o (fun p hp => by omega) 4 (by omega)) 0) ?_
      refine j_rune (j_mkN (host := "KeyDistiller") X hP (c_D_begin l d D a (stO n z 4) (kg g 0 (stS n (g 0) z 4)) hap k (n 0 0) hD _) jU_bs (j_pe X hP) jm_407 jm_406 js_18 jm_4 (by decide +kernel) (by decide) rfl rfl (show jOk jy_D_begin 2 by unfold jOk; decide +kernel) (by decide) ⟨rfl, rfl⟩ hl.1 rfl (Nat.le_of_ble_eq_true rfl) ⟨Nat.zero_le _, Nat.zero_le _⟩ jd_K_start_100) hS (fun v100 n100 g100 H locs h100 hP hS => ?_)
      obtain ⟨rfl, rfl, rfl⟩ := h100
      refine W.eq (g2 := F0 m 103 ls []) rfl ?_
      refine lv_aload_n X.1 X.2.1 jd_K_start_103 rfl (lv_at hl 1 rfl) ?_
      refine jg_K_31_0 X hP jd_K_start_104 ?_
      refine jg_K_133_14 X hP jd_K_start_107 ?_
      refine jg_K_137_15 X hP jd_K_start_110 ?_
      exact hQ _ _ _ _ _ _ _ (⟨rfl, rfl, rfl⟩) hP hS jd_K_start_113
    | succ r ihr => 
      intro i H locs ls hi hP hS hl
      refine lv_iload X.1 X.2.1 jd_K_start_53 (lv_at hl 0 rfl) ?_
      refine lv_iconst (v := nI 4) X.1 X.2.1 jd_K_start_55 (by decide) ?_
      refine kn_cge X.1 X.2.1 jd_K_start_56 (tgt := 91) (by decide) (by omega) (fun h56 => absurd h56 (by omega)) (fun h56 => ?_)
      refine lv_aload_n X.1 X.2.1 jd_K_start_59 rfl (lv_at hl 1 rfl) ?_
      refine jg_K_22_0 X hP jd_K_start_60 ?_
      refine lv_lload_n X.1 X.2.1 jd_K_start_63 rfl (lv_at hl 3 rfl) ?_
      refine lv_iload X.1 X.2.1 jd_K_start_64 (lv_at hl 0 rfl) ?_
      refine lv_i2l (v := lN i) X.1 X.2.1 jd_K_start_66 (nI_l (by omega)) ?_
      refine kn_ladd X.1 X.2.1 jd_K_start_67 ?_
      refine lv_aload_n X.1 X.2.1 jd_K_start_68 rfl (lv_at hl 1 rfl) ?_
      refine jg_K_45_0 X hP jd_K_start_69 ?_
      refine kn_to (y := n 0 0) (congrFun (stO_o (fun p hp => by omega) i (by omega)) 0) ?_
      refine lv_aload_n X.1 X.2.1 jd_K_start_72 rfl (lv_at hl 1 rfl) ?_
      refine jg_K_31_0 X hP jd_K_start_73 ?_
      refine jg_K_125_14 X hP jd_K_start_76 ?_
      refine lv_iload X.1 X.2.1 jd_K_start_79 (lv_at hl 0 rfl) ?_
      refine j_aald X hP 19 i (by decide) (by omega) jd_K_start_81 ?_
      refine j_rune (j_mkN (host := "KeyDistiller") X hP (c_G_shuffleF l d D a (stO n z i) (kg g 0 (stS n (g 0) z i)) hap (20 + i) (n 0 0) (z + i) (by omega) (jI_or (by omega)) hn _) jU_bs (j_pe X hP) jm_371 jm_370 js_13 jm_3 (by decide +kernel) (by decide) rfl rfl (show jOk jy_G_shuffle 3 by unfold jOk; decide +kernel) (by decide) ⟨rfl, rfl⟩ hl.1 rfl (Nat.le_of_ble_eq_true rfl) ⟨Nat.zero_le _, Nat.zero_le _⟩ jd_K_start_82) hS (fun v82 n82 g82 H locs h82 hP hS => ?_)
      obtain ⟨rfl, rfl, rfl⟩ := h82
      rw [kg_kg] at hP
      refine W.eq (g2 := F0 m 85 ls []) rfl ?_
      refine lv_iinc (k := 0) (v := nI (i + 1)) X.1 X.2.1 jd_K_start_85 hl rfl (kn_inc _) (by decide) rfl (fun ls hl => ?_)
      have hl : lv_has ls 5 [(4, .int (nI (i + 1))), (0, .ref (a 0)), (1, .int (nI k)), (2, .long (lN z))] := hl
      refine lv_goto X.1 X.2.1 jd_K_start_88 (tgt := 53) (by decide) ?_
      have hl : lv_has ls 5 [(4, .int (nI (i + 1))), (0, .ref (a 0)), (1, .int (nI k)), (2, .long (lN z))] := lv_sub hl [0, 1, 2, 3] rfl
      exact ihr (i + 1) H locs ls (by omega) hP hS hl
  have hP : va_P D jCl (jW d a (stO n z 0) (kg g 0 (stS n (g 0) z 0))) s.heap := by show va_P D jCl (jW d a n (kg g 0 (g 0))) s.heap; rw [kg_self]; exact hP
  have hl : lv_has ls 5 [(4, .int (nI 0)), (0, .ref (a 0)), (1, .int (nI k)), (2, .long (lN z))] := lv_sub hl [0, 1, 2, 3] rfl
  exact loop53 (4) 0 s.heap [] ls (by omega) hP hS hl

set_option maxHeartbeats 4000000 in
theorem c_K_bit_1 (l : Launch) (d : Nat → Nat) (D : va_G) (a : Nat → Nat) (n : Nat → Nat → Nat) (g : Nat → Nat) (hB : NB n) (i : Nat) (hs : ¬ n 0 0 = 4294967295) (hi : i < n 0 0) (hn : n 0 0 ≤ 128) : jPure l d D a n g jy_K_bit jb_K_bit 3 (some .int) { frames := 1, cells := 0, slots := 0, locals := 21 } [.ref (a 0), .int (nI 0), .int (nI i)] (some (.int (nI (n 6 i)))) := by
  refine jq_I (by decide) (Nat.le_of_ble_eq_true rfl) ?_
  intro p e s m A below meth c ls Q X hP hl hQ
  have hl : lv_has ls 3 [(0, .ref (a 0)), (1, .int (nI 0)), (2, .int (nI i))] := hl
  refine lv_aload_n X.1 X.2.1 jd_K_bit_0 rfl (lv_at hl 0 rfl) ?_
  refine j_run (j_mkV X hP (c_K_isSifted l d D a n g (hB _ _)) jU_b (j_pp X hP) jm_318 jm_317 js_8 jm_1 jm_315 (by decide) rfl rfl (show jOk jy_K_isSifted 0 by unfold jOk; decide +kernel) (by decide) ⟨rfl, rfl⟩ hl.1 rfl (Nat.le_of_ble_eq_true rfl) ⟨Nat.zero_le _, Nat.zero_le _⟩ jd_K_bit_1) ?_
  refine W.eq (g2 := F0 m 4 ls [.int (nI (if n 0 0 = 4294967295 then 0 else 1))]) rfl ?_
  refine kn_to (y := 1) (if_neg hs) ?_
  refine kn_ne0 X.1 X.2.1 jd_K_bit_4 (tgt := 17) (by decide) (by omega) (fun h4 => ?_) (fun h4 => absurd h4 (by decide))
  refine lv_iload_n X.1 X.2.1 jd_K_bit_17 rfl (lv_at hl 1 rfl) ?_
  refine j_run (j_mkS X (c_K_isStation l d D a n g 0 (by decide)) jU_b (j_pp X hP) jm_241 jm_240 jm_1 jm_239 (show jOk jy_K_isStation 1 by unfold jOk; decide +kernel) (by decide) ⟨rfl, rfl⟩ hl.1 rfl (Nat.le_of_ble_eq_true rfl) ⟨Nat.zero_le _, Nat.zero_le _⟩ jd_K_bit_18) ?_
  refine W.eq (g2 := F0 m 21 ls [.int (nI (if 0 < 2 then 1 else 0))]) rfl ?_
  refine kn_to (y := 1) (rfl) ?_
  refine kn_eq0 X.1 X.2.1 jd_K_bit_21 (tgt := 36) (by decide) (by omega) (fun h21 => absurd h21 (by decide)) (fun h21 => ?_)
  refine lv_iload_n X.1 X.2.1 jd_K_bit_24 rfl (lv_at hl 2 rfl) ?_
  refine kn_lt0 X.1 X.2.1 jd_K_bit_25 (tgt := 36) (by decide) (by omega) (fun h25 => absurd h25 (by omega)) (fun h25 => ?_)
  refine lv_iload_n X.1 X.2.1 jd_K_bit_28 rfl (lv_at hl 2 rfl) ?_
  refine lv_aload_n X.1 X.2.1 jd_K_bit_29 rfl (lv_at hl 0 rfl) ?_
  refine jg_K_45_0 X hP jd_K_bit_30 ?_
  refine kn_clt X.1 X.2.1 jd_K_bit_33 (tgt := 46) (by decide) (by omega) (fun h33 => ?_) (fun h33 => absurd h33 (by omega))
  refine lv_aload_n X.1 X.2.1 jd_K_bit_46 rfl (lv_at hl 0 rfl) ?_
  refine lv_iload_n X.1 X.2.1 jd_K_bit_47 rfl (lv_at hl 1 rfl) ?_
  refine j_run (j_mkV X hP (c_K_stationOf_0 l d D a n g) jU_b (j_pp X hP) jm_314 jm_313 js_7 jm_1 jm_311 (by decide) rfl rfl (show jOk jy_K_stationOf 1 by unfold jOk; decide +kernel) (by decide) ⟨rfl, rfl⟩ hl.1 rfl (Nat.le_of_ble_eq_true rfl) ⟨Nat.zero_le _, Nat.zero_le _⟩ jd_K_bit_48) ?_
  refine W.eq (g2 := F0 m 51 ls [.ref (a 1)]) rfl ?_
  refine jg_K_89_1 X hP jd_K_bit_51 ?_
  refine lv_iload_n X.1 X.2.1 jd_K_bit_54 rfl (lv_at hl 2 rfl) ?_
  refine j_ald X hP 6 i (by decide) (show i < 128 from by omega) (by decide) jd_K_bit_55 ?_
  exact kn_to (by first | rfl | omega | (split <;> omega)) (hQ _ _ jd_K_bit_56)

set_option maxHeartbeats 4000000 in
theorem c_K_tag_1 (l : Launch) (d : Nat → Nat) (D : va_G) (a : Nat → Nat) (n : Nat → Nat → Nat) (g : Nat → Nat) (hB : NB n) (x : Nat) (hs : ¬ n 0 0 = 4294967295) (hx1 : 1 ≤ x) (hx2 : x ≤ 65535) (hn : n 0 0 ≤ 128) (h01 : ∀ i, n 6 i < 2) : jPure l d D a n g jy_K_tag jb_K_tag 3 (some .int) { frames := 2, cells := 0, slots := 0, locals := 48 } [.ref (a 0), .int (nI 0), .int (nI x)] (some (.int (nI (tagF (n 6) x (n 0 0))))) := by
  refine jq_I (by decide) (Nat.le_of_ble_eq_true rfl) ?_
  intro p e s m A below meth c ls Q X hP hl hQ
  have hl : lv_has ls 3 [(0, .ref (a 0)), (1, .int (nI 0)), (2, .int (nI x))] := hl
  refine lv_aload_n X.1 X.2.1 jd_K_tag_0 rfl (lv_at hl 0 rfl) ?_
  refine j_run (j_mkV X hP (c_K_isSifted l d D a n g (hB _ _)) jU_b (j_pp X hP) jm_318 jm_317 js_8 jm_1 jm_315 (by decide) rfl rfl (show jOk jy_K_isSifted 0 by unfold jOk; decide +kernel) (by decide) ⟨rfl, rfl⟩ hl.1 rfl (Nat.le_of_ble_eq_true rfl) ⟨Nat.zero_le _, Nat.zero_le _⟩ jd_K_tag_1) ?_
  refine W.eq (g2 := F0 m 4 ls [.int (nI (if n 0 0 = 4294967295 then 0 else 1))]) rfl ?_
  refine kn_to (y := 1) (if_neg hs) ?_
  refine kn_ne0 X.1 X.2.1 jd_K_tag_4 (tgt := 17) (by decide) (by omega) (fun h4 => ?_) (fun h4 => absurd h4 (by decide))
  refine lv_iload_n X.1 X.2.1 jd_K_tag_17 rfl (lv_at hl 1 rfl) ?_
  refine j_run (j_mkS X (c_K_isStation l d D a n g 0 (by decide)) jU_b (j_pp X hP) jm_241 jm_240 jm_1 jm_239 (show jOk jy_K_isStation 1 by unfold jOk; decide +kernel) (by decide) ⟨rfl, rfl⟩ hl.1 rfl (Nat.le_of_ble_eq_true rfl) ⟨Nat.zero_le _, Nat.zero_le _⟩ jd_K_tag_18) ?_
  refine W.eq (g2 := F0 m 21 ls [.int (nI (if 0 < 2 then 1 else 0))]) rfl ?_
  refine kn_to (y := 1) (rfl) ?_
  refine kn_eq0 X.1 X.2.1 jd_K_tag_21 (tgt := 31) (by decide) (by omega) (fun h21 => absurd h21 (by decide)) (fun h21 => ?_)
  refine lv_iload_n X.1 X.2.1 jd_K_tag_24 rfl (lv_at hl 2 rfl) ?_
  refine j_run (j_mkS X (c_K_isTagNumber l d D a n g x (by omega)) jU_b (j_pp X hP) jm_546 jm_545 jm_1 jm_544 (show jOk jy_K_isTagNumber 1 by unfold jOk; decide +kernel) (by decide) ⟨rfl, rfl⟩ hl.1 rfl (Nat.le_of_ble_eq_true rfl) ⟨Nat.zero_le _, Nat.zero_le _⟩ jd_K_tag_25) ?_
  refine W.eq (g2 := F0 m 28 ls [.int (nI (if 1 ≤ x ∧ x ≤ 65535 then 1 else 0))]) rfl ?_
  refine kn_to (y := 1) (if_pos ⟨hx1, hx2⟩) ?_
  refine kn_ne0 X.1 X.2.1 jd_K_tag_28 (tgt := 41) (by decide) (by omega) (fun h28 => ?_) (fun h28 => absurd h28 (by decide))
  refine lv_aload_n X.1 X.2.1 jd_K_tag_41 rfl (lv_at hl 0 rfl) ?_
  refine lv_iload_n X.1 X.2.1 jd_K_tag_42 rfl (lv_at hl 1 rfl) ?_
  refine j_run (j_mkV X hP (c_K_stationOf_0 l d D a n g) jU_b (j_pp X hP) jm_314 jm_313 js_7 jm_1 jm_311 (by decide) rfl rfl (show jOk jy_K_stationOf 1 by unfold jOk; decide +kernel) (by decide) ⟨rfl, rfl⟩ hl.1 rfl (Nat.le_of_ble_eq_true rfl) ⟨Nat.zero_le _, Nat.zero_le _⟩ jd_K_tag_43) ?_
  refine W.eq (g2 := F0 m 46 ls [.ref (a 1)]) rfl ?_
  refine lv_iload_n X.1 X.2.1 jd_K_tag_46 rfl (lv_at hl 2 rfl) ?_
  refine lv_aload_n X.1 X.2.1 jd_K_tag_47 rfl (lv_at hl 0 rfl) ?_
  refine jg_K_45_0 X hP jd_K_tag_48 ?_
  refine j_run (j_mkN (host := "KeyDistiller") X hP (c_S_tagWith_1 l d D a n g x (n 0 0) (by omega) hn h01) jU_b (j_pp X hP) jm_552 jm_551 js_36 jm_2 (by decide +kernel) (by decide) rfl rfl (show jOk jy_S_tagWith 2 by unfold jOk; decide +kernel) (by decide) ⟨rfl, rfl⟩ hl.1 rfl (Nat.le_of_ble_eq_true rfl) ⟨Nat.zero_le _, Nat.zero_le _⟩ jd_K_tag_51) ?_
  refine W.eq (g2 := F0 m 54 ls [.int (nI (tagF (n 6) x (n 0 0)))]) rfl ?_
  exact kn_to (by first | rfl | omega | (split <;> omega)) (hQ _ _ jd_K_tag_54)

set_option maxHeartbeats 4000000 in
theorem c_K_key_1 (l : Launch) (d : Nat → Nat) (D : va_G) (a : Nat → Nat) (n : Nat → Nat → Nat) (g : Nat → Nat) (hB : NB n) (i : Nat) (hi : i < n 0 3) (h3 : n 0 3 ≤ 128) (hn : n 0 0 ≤ 128) : jPure l d D a n g jy_K_key jb_K_key 6 (some .int) { frames := 1, cells := 0, slots := 0, locals := 21 } [.ref (a 0), .int (nI 0), .int (nI i)] (some (.int (nI (kyF (n 6) (n 32) (n 0 3 - 1 - i) (n 0 0))))) := by
  refine jq_I (by decide) (Nat.le_of_ble_eq_true rfl) ?_
  intro p e s m A below meth c ls Q X hP hl hQ
  have hl : lv_has ls 6 [(0, .ref (a 0)), (1, .int (nI 0)), (2, .int (nI i))] := hl
  refine lv_iload_n X.1 X.2.1 jd_K_key_0 rfl (lv_at hl 1 rfl) ?_
  refine j_run (j_mkS X (c_K_isStation l d D a n g 0 (by decide)) jU_b (j_pp X hP) jm_241 jm_240 jm_1 jm_239 (show jOk jy_K_isStation 1 by unfold jOk; decide +kernel) (by decide) ⟨rfl, rfl⟩ hl.1 rfl (Nat.le_of_ble_eq_true rfl) ⟨Nat.zero_le _, Nat.zero_le _⟩ jd_K_key_1) ?_
  refine W.eq (g2 := F0 m 4 ls [.int (nI (if 0 < 2 then 1 else 0))]) rfl ?_
  refine kn_to (y := 1) (rfl) ?_
  refine kn_eq0 X.1 X.2.1 jd_K_key_4 (tgt := 19) (by decide) (by omega) (fun h4 => absurd h4 (by decide)) (fun h4 => ?_)
  refine lv_iload_n X.1 X.2.1 jd_K_key_7 rfl (lv_at hl 2 rfl) ?_
  refine kn_lt0 X.1 X.2.1 jd_K_key_8 (tgt := 19) (by decide) (by omega) (fun h8 => absurd h8 (by omega)) (fun h8 => ?_)
  refine lv_iload_n X.1 X.2.1 jd_K_key_11 rfl (lv_at hl 2 rfl) ?_
  refine lv_aload_n X.1 X.2.1 jd_K_key_12 rfl (lv_at hl 0 rfl) ?_
  refine jg_K_226_0 X hP jd_K_key_13 ?_
  refine kn_clt X.1 X.2.1 jd_K_key_16 (tgt := 29) (by decide) (by omega) (fun h16 => ?_) (fun h16 => absurd h16 (by omega))
  refine lv_aload_n X.1 X.2.1 jd_K_key_29 rfl (lv_at hl 0 rfl) ?_
  refine lv_iload_n X.1 X.2.1 jd_K_key_30 rfl (lv_at hl 1 rfl) ?_
  refine j_run (j_mkV X hP (c_K_stationOf_0 l d D a n g) jU_b (j_pp X hP) jm_314 jm_313 js_7 jm_1 jm_311 (by decide) rfl rfl (show jOk jy_K_stationOf 1 by unfold jOk; decide +kernel) (by decide) ⟨rfl, rfl⟩ hl.1 rfl (Nat.le_of_ble_eq_true rfl) ⟨Nat.zero_le _, Nat.zero_le _⟩ jd_K_key_31) ?_
  refine W.eq (g2 := F0 m 34 ls [.ref (a 1)]) rfl ?_
  refine jg_K_89_1 X hP jd_K_key_34 ?_
  refine lv_astore_n X.1 X.2.1 jd_K_key_37 rfl hl (by decide) rfl (fun ls hl => ?_)
  have hl : lv_has ls 6 [(3, .ref (a 6)), (0, .ref (a 0)), (1, .int (nI 0)), (2, .int (nI i))] := hl
  refine lv_iconst (v := nI 0) X.1 X.2.1 jd_K_key_38 (by decide) ?_
  refine lv_istore X.1 X.2.1 jd_K_key_39 hl (by decide) rfl (fun ls hl => ?_)
  have hl : lv_has ls 6 [(4, .int (nI 0)), (3, .ref (a 6)), (0, .ref (a 0)), (1, .int (nI 0)), (2, .int (nI i))] := hl
  refine lv_iconst (v := nI 0) X.1 X.2.1 jd_K_key_41 (by decide) ?_
  refine lv_istore X.1 X.2.1 jd_K_key_42 hl (by decide) rfl (fun ls hl => ?_)
  have hl : lv_has ls 6 [(5, .int (nI 0)), (4, .int (nI 0)), (3, .ref (a 6)), (0, .ref (a 0)), (1, .int (nI 0)), (2, .int (nI i))] := hl
  have loop44 : ∀ (r k : Nat) (ls : Array Slot), k + r = n 0 0 → lv_has ls 6 [(5, .int (nI k)), (4, .int (nI (kyF (n 6) (n 32) (n 0 3 - 1 - i) k))), (3, .ref (a 6)), (0, .ref (a 0)), (1, .int (nI 0)), (2, .int (nI i))] → W p l e { frames := 1, cells := 0, slots := 0, locals := 21 } s m A below meth c s.heap [] 0 0 Q (F0 m 44 ls []) := by
    intro r
    induction r with
    | zero => 
      intro k ls hk hl
      obtain rfl : n 0 0 = k := by omega
      refine lv_iload X.1 X.2.1 jd_K_key_44 (lv_at hl 0 rfl) ?_
      refine lv_aload_n X.1 X.2.1 jd_K_key_46 rfl (lv_at hl 3 rfl) ?_
      refine jg_K_45_0 X hP jd_K_key_47 ?_
      refine kn_cge X.1 X.2.1 jd_K_key_50 (tgt := 85) (by decide) (by omega) (fun h50 => ?_) (fun h50 => absurd h50 (by omega))
      refine lv_iload X.1 X.2.1 jd_K_key_85 (lv_at hl 1 rfl) ?_
      exact kn_to (by first | rfl | omega | (split <;> omega)) (hQ _ _ jd_K_key_87)
    | succ r ihr => 
      intro k ls hk hl
      refine lv_iload X.1 X.2.1 jd_K_key_44 (lv_at hl 0 rfl) ?_
      refine lv_aload_n X.1 X.2.1 jd_K_key_46 rfl (lv_at hl 3 rfl) ?_
      refine jg_K_45_0 X hP jd_K_key_47 ?_
      refine kn_cge X.1 X.2.1 jd_K_key_50 (tgt := 85) (by decide) (by omega) (fun h50 => absurd h50 (by omega)) (fun h50 => ?_)
      refine lv_iload X.1 X.2.1 jd_K_key_53 (lv_at hl 1 rfl) ?_
      refine lv_aload_n X.1 X.2.1 jd_K_key_55 rfl (lv_at hl 2 rfl) ?_
      refine lv_iload X.1 X.2.1 jd_K_key_56 (lv_at hl 0 rfl) ?_
      refine j_ald X hP 6 k (by decide) (show k < 128 from by omega) (by decide) jd_K_key_58 ?_
      refine lv_aload_n X.1 X.2.1 jd_K_key_59 rfl (lv_at hl 3 rfl) ?_
      refine jg_K_42_0 X hP jd_K_key_60 ?_
      refine lv_iload X.1 X.2.1 jd_K_key_63 (lv_at hl 0 rfl) ?_
      refine lv_aload_n X.1 X.2.1 jd_K_key_65 rfl (lv_at hl 3 rfl) ?_
      refine jg_K_226_0 X hP jd_K_key_66 ?_
      refine kn_iadd X.1 X.2.1 jd_K_key_69 ?_
      refine lv_iconst (v := nI 1) X.1 X.2.1 jd_K_key_70 (by decide) ?_
      refine kn_isub X.1 X.2.1 jd_K_key_71 (by omega) ?_
      refine lv_iload_n X.1 X.2.1 jd_K_key_72 rfl (lv_at hl 5 rfl) ?_
      refine kn_isub X.1 X.2.1 jd_K_key_73 (by omega) ?_
      refine kn_to (y := k + (n 0 3 - 1 - i)) (by omega) ?_
      refine j_ald X hP 32 (k + (n 0 3 - 1 - i)) (by decide) (show (k + (n 0 3 - 1 - i)) < 256 from by omega) (by decide) jd_K_key_74 ?_
      refine kn_iand X.1 X.2.1 jd_K_key_75 ?_
      refine kn_ixor X.1 X.2.1 jd_K_key_76 ?_
      refine lv_istore X.1 X.2.1 jd_K_key_77 hl (by decide) rfl (fun ls hl => ?_)
      have hl : lv_has ls 6 [(4, .int (nI ((kyF (n 6) (n 32) (n 0 3 - 1 - i) k) ^^^ ((n 6 k) &&& (n 32 (k + (n 0 3 - 1 - i))))))), (5, .int (nI k)), (3, .ref (a 6)), (0, .ref (a 0)), (1, .int (nI 0)), (2, .int (nI i))] := hl
      refine lv_iinc (k := 1) (v := nI (k + 1)) X.1 X.2.1 jd_K_key_79 hl rfl (kn_inc _) (by decide) rfl (fun ls hl => ?_)
      have hl : lv_has ls 6 [(5, .int (nI (k + 1))), (4, .int (nI ((kyF (n 6) (n 32) (n 0 3 - 1 - i) k) ^^^ ((n 6 k) &&& (n 32 (k + (n 0 3 - 1 - i))))))), (3, .ref (a 6)), (0, .ref (a 0)), (1, .int (nI 0)), (2, .int (nI i))] := hl
      refine lv_goto X.1 X.2.1 jd_K_key_82 (tgt := 44) (by decide) ?_
      have hl : lv_has ls 6 [(5, .int (nI (k + 1))), (4, .int (nI (kyF (n 6) (n 32) (n 0 3 - 1 - i) (k + 1)))), (3, .ref (a 6)), (0, .ref (a 0)), (1, .int (nI 0)), (2, .int (nI i))] := lv_sub hl [0, 1, 2, 3, 4, 5] rfl
      exact ihr (k + 1) ls (by omega) hl
  have hl : lv_has ls 6 [(5, .int (nI 0)), (4, .int (nI (kyF (n 6) (n 32) (n 0 3 - 1 - i) 0))), (3, .ref (a 6)), (0, .ref (a 0)), (1, .int (nI 0)), (2, .int (nI i))] := lv_sub hl [0, 1, 2, 3, 4, 5] rfl
  exact loop44 (n 0 0) 0 ls (by omega) hl

set_option maxHeartbeats 4000000 in
theorem c_K_bit_7 (l : Launch) (d : Nat → Nat) (D : va_G) (a : Nat → Nat) (n : Nat → Nat → Nat) (g : Nat → Nat) (hB : NB n) (i : Nat) (hs : ¬ n 0 0 = 4294967295) (hi : i < n 0 0) (hn : n 0 0 ≤ 128) : jPure l d D a n g jy_K_bit jb_K_bit 3 (some .int) { frames := 1, cells := 0, slots := 0, locals := 21 } [.ref (a 0), .int (nI 1), .int (nI i)] (some (.int (nI (n 12 i)))) := by
  refine jq_I (by decide) (Nat.le_of_ble_eq_true rfl) ?_
  intro p e s m A below meth c ls Q X hP hl hQ
  have hl : lv_has ls 3 [(0, .ref (a 0)), (1, .int (nI 1)), (2, .int (nI i))] := hl
  refine lv_aload_n X.1 X.2.1 jd_K_bit_0 rfl (lv_at hl 0 rfl) ?_
  refine j_run (j_mkV X hP (c_K_isSifted l d D a n g (hB _ _)) jU_b (j_pp X hP) jm_318 jm_317 js_8 jm_1 jm_315 (by decide) rfl rfl (show jOk jy_K_isSifted 0 by unfold jOk; decide +kernel) (by decide) ⟨rfl, rfl⟩ hl.1 rfl (Nat.le_of_ble_eq_true rfl) ⟨Nat.zero_le _, Nat.zero_le _⟩ jd_K_bit_1) ?_
  refine W.eq (g2 := F0 m 4 ls [.int (nI (if n 0 0 = 4294967295 then 0 else 1))]) rfl ?_
  refine kn_to (y := 1) (if_neg hs) ?_
  refine kn_ne0 X.1 X.2.1 jd_K_bit_4 (tgt := 17) (by decide) (by omega) (fun h4 => ?_) (fun h4 => absurd h4 (by decide))
  refine lv_iload_n X.1 X.2.1 jd_K_bit_17 rfl (lv_at hl 1 rfl) ?_
  refine j_run (j_mkS X (c_K_isStation l d D a n g 1 (by decide)) jU_b (j_pp X hP) jm_241 jm_240 jm_1 jm_239 (show jOk jy_K_isStation 1 by unfold jOk; decide +kernel) (by decide) ⟨rfl, rfl⟩ hl.1 rfl (Nat.le_of_ble_eq_true rfl) ⟨Nat.zero_le _, Nat.zero_le _⟩ jd_K_bit_18) ?_
  refine W.eq (g2 := F0 m 21 ls [.int (nI (if 1 < 2 then 1 else 0))]) rfl ?_
  refine kn_to (y := 1) (rfl) ?_
  refine kn_eq0 X.1 X.2.1 jd_K_bit_21 (tgt := 36) (by decide) (by omega) (fun h21 => absurd h21 (by decide)) (fun h21 => ?_)
  refine lv_iload_n X.1 X.2.1 jd_K_bit_24 rfl (lv_at hl 2 rfl) ?_
  refine kn_lt0 X.1 X.2.1 jd_K_bit_25 (tgt := 36) (by decide) (by omega) (fun h25 => absurd h25 (by omega)) (fun h25 => ?_)
  refine lv_iload_n X.1 X.2.1 jd_K_bit_28 rfl (lv_at hl 2 rfl) ?_
  refine lv_aload_n X.1 X.2.1 jd_K_bit_29 rfl (lv_at hl 0 rfl) ?_
  refine jg_K_45_0 X hP jd_K_bit_30 ?_
  refine kn_clt X.1 X.2.1 jd_K_bit_33 (tgt := 46) (by decide) (by omega) (fun h33 => ?_) (fun h33 => absurd h33 (by omega))
  refine lv_aload_n X.1 X.2.1 jd_K_bit_46 rfl (lv_at hl 0 rfl) ?_
  refine lv_iload_n X.1 X.2.1 jd_K_bit_47 rfl (lv_at hl 1 rfl) ?_
  refine j_run (j_mkV X hP (c_K_stationOf_1 l d D a n g) jU_b (j_pp X hP) jm_314 jm_313 js_7 jm_1 jm_311 (by decide) rfl rfl (show jOk jy_K_stationOf 1 by unfold jOk; decide +kernel) (by decide) ⟨rfl, rfl⟩ hl.1 rfl (Nat.le_of_ble_eq_true rfl) ⟨Nat.zero_le _, Nat.zero_le _⟩ jd_K_bit_48) ?_
  refine W.eq (g2 := F0 m 51 ls [.ref (a 7)]) rfl ?_
  refine jg_K_89_7 X hP jd_K_bit_51 ?_
  refine lv_iload_n X.1 X.2.1 jd_K_bit_54 rfl (lv_at hl 2 rfl) ?_
  refine j_ald X hP 12 i (by decide) (show i < 128 from by omega) (by decide) jd_K_bit_55 ?_
  exact kn_to (by first | rfl | omega | (split <;> omega)) (hQ _ _ jd_K_bit_56)

set_option maxHeartbeats 4000000 in
theorem c_K_tag_7 (l : Launch) (d : Nat → Nat) (D : va_G) (a : Nat → Nat) (n : Nat → Nat → Nat) (g : Nat → Nat) (hB : NB n) (x : Nat) (hs : ¬ n 0 0 = 4294967295) (hx1 : 1 ≤ x) (hx2 : x ≤ 65535) (hn : n 0 0 ≤ 128) (h01 : ∀ i, n 12 i < 2) : jPure l d D a n g jy_K_tag jb_K_tag 3 (some .int) { frames := 2, cells := 0, slots := 0, locals := 48 } [.ref (a 0), .int (nI 1), .int (nI x)] (some (.int (nI (tagF (n 12) x (n 0 0))))) := by
  refine jq_I (by decide) (Nat.le_of_ble_eq_true rfl) ?_
  intro p e s m A below meth c ls Q X hP hl hQ
  have hl : lv_has ls 3 [(0, .ref (a 0)), (1, .int (nI 1)), (2, .int (nI x))] := hl
  refine lv_aload_n X.1 X.2.1 jd_K_tag_0 rfl (lv_at hl 0 rfl) ?_
  refine j_run (j_mkV X hP (c_K_isSifted l d D a n g (hB _ _)) jU_b (j_pp X hP) jm_318 jm_317 js_8 jm_1 jm_315 (by decide) rfl rfl (show jOk jy_K_isSifted 0 by unfold jOk; decide +kernel) (by decide) ⟨rfl, rfl⟩ hl.1 rfl (Nat.le_of_ble_eq_true rfl) ⟨Nat.zero_le _, Nat.zero_le _⟩ jd_K_tag_1) ?_
  refine W.eq (g2 := F0 m 4 ls [.int (nI (if n 0 0 = 4294967295 then 0 else 1))]) rfl ?_
  refine kn_to (y := 1) (if_neg hs) ?_
  refine kn_ne0 X.1 X.2.1 jd_K_tag_4 (tgt := 17) (by decide) (by omega) (fun h4 => ?_) (fun h4 => absurd h4 (by decide))
  refine lv_iload_n X.1 X.2.1 jd_K_tag_17 rfl (lv_at hl 1 rfl) ?_
  refine j_run (j_mkS X (c_K_isStation l d D a n g 1 (by decide)) jU_b (j_pp X hP) jm_241 jm_240 jm_1 jm_239 (show jOk jy_K_isStation 1 by unfold jOk; decide +kernel) (by decide) ⟨rfl, rfl⟩ hl.1 rfl (Nat.le_of_ble_eq_true rfl) ⟨Nat.zero_le _, Nat.zero_le _⟩ jd_K_tag_18) ?_
  refine W.eq (g2 := F0 m 21 ls [.int (nI (if 1 < 2 then 1 else 0))]) rfl ?_
  refine kn_to (y := 1) (rfl) ?_
  refine kn_eq0 X.1 X.2.1 jd_K_tag_21 (tgt := 31) (by decide) (by omega) (fun h21 => absurd h21 (by decide)) (fun h21 => ?_)
  refine lv_iload_n X.1 X.2.1 jd_K_tag_24 rfl (lv_at hl 2 rfl) ?_
  refine j_run (j_mkS X (c_K_isTagNumber l d D a n g x (by omega)) jU_b (j_pp X hP) jm_546 jm_545 jm_1 jm_544 (show jOk jy_K_isTagNumber 1 by unfold jOk; decide +kernel) (by decide) ⟨rfl, rfl⟩ hl.1 rfl (Nat.le_of_ble_eq_true rfl) ⟨Nat.zero_le _, Nat.zero_le _⟩ jd_K_tag_25) ?_
  refine W.eq (g2 := F0 m 28 ls [.int (nI (if 1 ≤ x ∧ x ≤ 65535 then 1 else 0))]) rfl ?_
  refine kn_to (y := 1) (if_pos ⟨hx1, hx2⟩) ?_
  refine kn_ne0 X.1 X.2.1 jd_K_tag_28 (tgt := 41) (by decide) (by omega) (fun h28 => ?_) (fun h28 => absurd h28 (by decide))
  refine lv_aload_n X.1 X.2.1 jd_K_tag_41 rfl (lv_at hl 0 rfl) ?_
  refine lv_iload_n X.1 X.2.1 jd_K_tag_42 rfl (lv_at hl 1 rfl) ?_
  refine j_run (j_mkV X hP (c_K_stationOf_1 l d D a n g) jU_b (j_pp X hP) jm_314 jm_313 js_7 jm_1 jm_311 (by decide) rfl rfl (show jOk jy_K_stationOf 1 by unfold jOk; decide +kernel) (by decide) ⟨rfl, rfl⟩ hl.1 rfl (Nat.le_of_ble_eq_true rfl) ⟨Nat.zero_le _, Nat.zero_le _⟩ jd_K_tag_43) ?_
  refine W.eq (g2 := F0 m 46 ls [.ref (a 7)]) rfl ?_
  refine lv_iload_n X.1 X.2.1 jd_K_tag_46 rfl (lv_at hl 2 rfl) ?_
  refine lv_aload_n X.1 X.2.1 jd_K_tag_47 rfl (lv_at hl 0 rfl) ?_
  refine jg_K_45_0 X hP jd_K_tag_48 ?_
  refine j_run (j_mkN (host := "KeyDistiller") X hP (c_S_tagWith_7 l d D a n g x (n 0 0) (by omega) hn h01) jU_b (j_pp X hP) jm_552 jm_551 js_36 jm_2 (by decide +kernel) (by decide) rfl rfl (show jOk jy_S_tagWith 2 by unfold jOk; decide +kernel) (by decide) ⟨rfl, rfl⟩ hl.1 rfl (Nat.le_of_ble_eq_true rfl) ⟨Nat.zero_le _, Nat.zero_le _⟩ jd_K_tag_51) ?_
  refine W.eq (g2 := F0 m 54 ls [.int (nI (tagF (n 12) x (n 0 0)))]) rfl ?_
  exact kn_to (by first | rfl | omega | (split <;> omega)) (hQ _ _ jd_K_tag_54)

set_option maxHeartbeats 4000000 in
theorem c_K_key_7 (l : Launch) (d : Nat → Nat) (D : va_G) (a : Nat → Nat) (n : Nat → Nat → Nat) (g : Nat → Nat) (hB : NB n) (i : Nat) (hi : i < n 0 3) (h3 : n 0 3 ≤ 128) (hn : n 0 0 ≤ 128) : jPure l d D a n g jy_K_key jb_K_key 6 (some .int) { frames := 1, cells := 0, slots := 0, locals := 21 } [.ref (a 0), .int (nI 1), .int (nI i)] (some (.int (nI (kyF (n 12) (n 32) (n 0 3 - 1 - i) (n 0 0))))) := by
  refine jq_I (by decide) (Nat.le_of_ble_eq_true rfl) ?_
  intro p e s m A below meth c ls Q X hP hl hQ
  have hl : lv_has ls 6 [(0, .ref (a 0)), (1, .int (nI 1)), (2, .int (nI i))] := hl
  refine lv_iload_n X.1 X.2.1 jd_K_key_0 rfl (lv_at hl 1 rfl) ?_
  refine j_run (j_mkS X (c_K_isStation l d D a n g 1 (by decide)) jU_b (j_pp X hP) jm_241 jm_240 jm_1 jm_239 (show jOk jy_K_isStation 1 by unfold jOk; decide +kernel) (by decide) ⟨rfl, rfl⟩ hl.1 rfl (Nat.le_of_ble_eq_true rfl) ⟨Nat.zero_le _, Nat.zero_le _⟩ jd_K_key_1) ?_
  refine W.eq (g2 := F0 m 4 ls [.int (nI (if 1 < 2 then 1 else 0))]) rfl ?_
  refine kn_to (y := 1) (rfl) ?_
  refine kn_eq0 X.1 X.2.1 jd_K_key_4 (tgt := 19) (by decide) (by omega) (fun h4 => absurd h4 (by decide)) (fun h4 => ?_)
  refine lv_iload_n X.1 X.2.1 jd_K_key_7 rfl (lv_at hl 2 rfl) ?_
  refine kn_lt0 X.1 X.2.1 jd_K_key_8 (tgt := 19) (by decide) (by omega) (fun h8 => absurd h8 (by omega)) (fun h8 => ?_)
  refine lv_iload_n X.1 X.2.1 jd_K_key_11 rfl (lv_at hl 2 rfl) ?_
  refine lv_aload_n X.1 X.2.1 jd_K_key_12 rfl (lv_at hl 0 rfl) ?_
  refine jg_K_226_0 X hP jd_K_key_13 ?_
  refine kn_clt X.1 X.2.1 jd_K_key_16 (tgt := 29) (by decide) (by omega) (fun h16 => ?_) (fun h16 => absurd h16 (by omega))
  refine lv_aload_n X.1 X.2.1 jd_K_key_29 rfl (lv_at hl 0 rfl) ?_
  refine lv_iload_n X.1 X.2.1 jd_K_key_30 rfl (lv_at hl 1 rfl) ?_
  refine j_run (j_mkV X hP (c_K_stationOf_1 l d D a n g) jU_b (j_pp X hP) jm_314 jm_313 js_7 jm_1 jm_311 (by decide) rfl rfl (show jOk jy_K_stationOf 1 by unfold jOk; decide +kernel) (by decide) ⟨rfl, rfl⟩ hl.1 rfl (Nat.le_of_ble_eq_true rfl) ⟨Nat.zero_le _, Nat.zero_le _⟩ jd_K_key_31) ?_
  refine W.eq (g2 := F0 m 34 ls [.ref (a 7)]) rfl ?_
  refine jg_K_89_7 X hP jd_K_key_34 ?_
  refine lv_astore_n X.1 X.2.1 jd_K_key_37 rfl hl (by decide) rfl (fun ls hl => ?_)
  have hl : lv_has ls 6 [(3, .ref (a 12)), (0, .ref (a 0)), (1, .int (nI 1)), (2, .int (nI i))] := hl
  refine lv_iconst (v := nI 0) X.1 X.2.1 jd_K_key_38 (by decide) ?_
  refine lv_istore X.1 X.2.1 jd_K_key_39 hl (by decide) rfl (fun ls hl => ?_)
  have hl : lv_has ls 6 [(4, .int (nI 0)), (3, .ref (a 12)), (0, .ref (a 0)), (1, .int (nI 1)), (2, .int (nI i))] := hl
  refine lv_iconst (v := nI 0) X.1 X.2.1 jd_K_key_41 (by decide) ?_
  refine lv_istore X.1 X.2.1 jd_K_key_42 hl (by decide) rfl (fun ls hl => ?_)
  have hl : lv_has ls 6 [(5, .int (nI 0)), (4, .int (nI 0)), (3, .ref (a 12)), (0, .ref (a 0)), (1, .int (nI 1)), (2, .int (nI i))] := hl
  have loop44 : ∀ (r k : Nat) (ls : Array Slot), k + r = n 0 0 → lv_has ls 6 [(5, .int (nI k)), (4, .int (nI (kyF (n 12) (n 32) (n 0 3 - 1 - i) k))), (3, .ref (a 12)), (0, .ref (a 0)), (1, .int (nI 1)), (2, .int (nI i))] → W p l e { frames := 1, cells := 0, slots := 0, locals := 21 } s m A below meth c s.heap [] 0 0 Q (F0 m 44 ls []) := by
    intro r
    induction r with
    | zero => 
      intro k ls hk hl
      obtain rfl : n 0 0 = k := by omega
      refine lv_iload X.1 X.2.1 jd_K_key_44 (lv_at hl 0 rfl) ?_
      refine lv_aload_n X.1 X.2.1 jd_K_key_46 rfl (lv_at hl 3 rfl) ?_
      refine jg_K_45_0 X hP jd_K_key_47 ?_
      refine kn_cge X.1 X.2.1 jd_K_key_50 (tgt := 85) (by decide) (by omega) (fun h50 => ?_) (fun h50 => absurd h50 (by omega))
      refine lv_iload X.1 X.2.1 jd_K_key_85 (lv_at hl 1 rfl) ?_
      exact kn_to (by first | rfl | omega | (split <;> omega)) (hQ _ _ jd_K_key_87)
    | succ r ihr => 
      intro k ls hk hl
      refine lv_iload X.1 X.2.1 jd_K_key_44 (lv_at hl 0 rfl) ?_
      refine lv_aload_n X.1 X.2.1 jd_K_key_46 rfl (lv_at hl 3 rfl) ?_
      refine jg_K_45_0 X hP jd_K_key_47 ?_
      refine kn_cge X.1 X.2.1 jd_K_key_50 (tgt := 85) (by decide) (by omega) (fun h50 => absurd h50 (by omega)) (fun h50 => ?_)
      refine lv_iload X.1 X.2.1 jd_K_key_53 (lv_at hl 1 rfl) ?_
      refine lv_aload_n X.1 X.2.1 jd_K_key_55 rfl (lv_at hl 2 rfl) ?_
      refine lv_iload X.1 X.2.1 jd_K_key_56 (lv_at hl 0 rfl) ?_
      refine j_ald X hP 12 k (by decide) (show k < 128 from by omega) (by decide) jd_K_key_58 ?_
      refine lv_aload_n X.1 X.2.1 jd_K_key_59 rfl (lv_at hl 3 rfl) ?_
      refine jg_K_42_0 X hP jd_K_key_60 ?_
      refine lv_iload X.1 X.2.1 jd_K_key_63 (lv_at hl 0 rfl) ?_
      refine lv_aload_n X.1 X.2.1 jd_K_key_65 rfl (lv_at hl 3 rfl) ?_
      refine jg_K_226_0 X hP jd_K_key_66 ?_
      refine kn_iadd X.1 X.2.1 jd_K_key_69 ?_
      refine lv_iconst (v := nI 1) X.1 X.2.1 jd_K_key_70 (by decide) ?_
      refine kn_isub X.1 X.2.1 jd_K_key_71 (by omega) ?_
      refine lv_iload_n X.1 X.2.1 jd_K_key_72 rfl (lv_at hl 5 rfl) ?_
      refine kn_isub X.1 X.2.1 jd_K_key_73 (by omega) ?_
      refine kn_to (y := k + (n 0 3 - 1 - i)) (by omega) ?_
      refine j_ald X hP 32 (k + (n 0 3 - 1 - i)) (by decide) (show (k + (n 0 3 - 1 - i)) < 256 from by omega) (by decide) jd_K_key_74 ?_
      refine kn_iand X.1 X.2.1 jd_K_key_75 ?_
      refine kn_ixor X.1 X.2.1 jd_K_key_76 ?_
      refine lv_istore X.1 X.2.1 jd_K_key_77 hl (by decide) rfl (fun ls hl => ?_)
      have hl : lv_has ls 6 [(4, .int (nI ((kyF (n 12) (n 32) (n 0 3 - 1 - i) k) ^^^ ((n 12 k) &&& (n 32 (k + (n 0 3 - 1 - i))))))), (5, .int (nI k)), (3, .ref (a 12)), (0, .ref (a 0)), (1, .int (nI 1)), (2, .int (nI i))] := hl
      refine lv_iinc (k := 1) (v := nI (k + 1)) X.1 X.2.1 jd_K_key_79 hl rfl (kn_inc _) (by decide) rfl (fun ls hl => ?_)
      have hl : lv_has ls 6 [(5, .int (nI (k + 1))), (4, .int (nI ((kyF (n 12) (n 32) (n 0 3 - 1 - i) k) ^^^ ((n 12 k) &&& (n 32 (k + (n 0 3 - 1 - i))))))), (3, .ref (a 12)), (0, .ref (a 0)), (1, .int (nI 1)), (2, .int (nI i))] := hl
      refine lv_goto X.1 X.2.1 jd_K_key_82 (tgt := 44) (by decide) ?_
      have hl : lv_has ls 6 [(5, .int (nI (k + 1))), (4, .int (nI (kyF (n 12) (n 32) (n 0 3 - 1 - i) (k + 1)))), (3, .ref (a 12)), (0, .ref (a 0)), (1, .int (nI 1)), (2, .int (nI i))] := lv_sub hl [0, 1, 2, 3, 4, 5] rfl
      exact ihr (k + 1) ls (by omega) hl
  have hl : lv_has ls 6 [(5, .int (nI 0)), (4, .int (nI (kyF (n 12) (n 32) (n 0 3 - 1 - i) 0))), (3, .ref (a 12)), (0, .ref (a 0)), (1, .int (nI 1)), (2, .int (nI i))] := lv_sub hl [0, 1, 2, 3, 4, 5] rfl
  exact loop44 (n 0 0) 0 ls (by omega) hl

set_option maxHeartbeats 4000000 in
theorem t_K_bit_IS (l : Launch) (d : Nat → Nat) (D : va_G) (a : Nat → Nat) (n : Nat → Nat → Nat) (g : Nat → Nat) (hlt : l.stackTraces = false) (hB : NB n) (x i : Nat) (hs : n 0 0 = 4294967295) : jThr l d D a n g jy_K_bit jb_K_bit 3 (some .int) { frames := 6, cells := 1, slots := 6, locals := 82 } [.ref (a 0), .int (nI x), .int (nI i)] "java/lang/IllegalStateException" := by
  refine jt_T hlt 72 76 rfl (by decide) (Nat.le_of_ble_eq_true rfl) jx_fIS jm_323 jm_11 jx_gIS jx_bIS jx_oIS (by decide) ?_
  intro p e s m A below meth c ls Q X hP hl hQ
  have hl : lv_has ls 3 [(0, .ref (a 0)), (1, .int (nI x)), (2, .int (nI i))] := hl
  refine lv_aload_n X.1 X.2.1 jd_K_bit_0 rfl (lv_at hl 0 rfl) ?_
  refine j_run (j_mkV X hP (c_K_isSifted l d D a n g (hB _ _)) jU_b (j_pp X hP) jm_318 jm_317 js_8 jm_1 jm_315 (by decide) rfl rfl (show jOk jy_K_isSifted 0 by unfold jOk; decide +kernel) (by decide) ⟨rfl, rfl⟩ hl.1 rfl (Nat.le_of_ble_eq_true rfl) ⟨Nat.zero_le _, Nat.zero_le _⟩ jd_K_bit_1) ?_
  refine W.eq (g2 := F0 m 4 ls [.int (nI (if n 0 0 = 4294967295 then 0 else 1))]) rfl ?_
  refine kn_to (y := 0) (if_pos hs) ?_
  refine kn_ne0 X.1 X.2.1 jd_K_bit_4 (tgt := 17) (by decide) (by omega) (fun h4 => absurd h4 (by decide)) (fun h4 => ?_)
  exact hQ 7 195 "not sifted" _ (by decide) hl.1 jd_K_bit_7 jd_K_bit_10 jd_K_bit_11 jd_K_bit_13 jd_K_bit_16

set_option maxHeartbeats 4000000 in
theorem t_K_bit_IO (l : Launch) (d : Nat → Nat) (D : va_G) (a : Nat → Nat) (n : Nat → Nat → Nat) (g : Nat → Nat) (hlt : l.stackTraces = false) (hB : NB n) (x i : Nat) (hx : x < 4294967296) (hi : i < 4294967296) (hs : ¬ n 0 0 = 4294967295) (hn : n 0 0 ≤ 128) (hbad : ¬ (x < 2 ∧ i < n 0 0)) : jThr l d D a n g jy_K_bit jb_K_bit 3 (some .int) { frames := 6, cells := 1, slots := 6, locals := 82 } [.ref (a 0), .int (nI x), .int (nI i)] "java/lang/IndexOutOfBoundsException" := by
  refine jt_T hlt 147 151 rfl (by decide) (Nat.le_of_ble_eq_true rfl) jx_fIO jm_470 jm_14 jx_gIO jx_bIO jx_oIO (by decide) ?_
  intro p e s m A below meth c ls Q X hP hl hQ
  have hl : lv_has ls 3 [(0, .ref (a 0)), (1, .int (nI x)), (2, .int (nI i))] := hl
  refine lv_aload_n X.1 X.2.1 jd_K_bit_0 rfl (lv_at hl 0 rfl) ?_
  refine j_run (j_mkV X hP (c_K_isSifted l d D a n g (hB _ _)) jU_b (j_pp X hP) jm_318 jm_317 js_8 jm_1 jm_315 (by decide) rfl rfl (show jOk jy_K_isSifted 0 by unfold jOk; decide +kernel) (by decide) ⟨rfl, rfl⟩ hl.1 rfl (Nat.le_of_ble_eq_true rfl) ⟨Nat.zero_le _, Nat.zero_le _⟩ jd_K_bit_1) ?_
  refine W.eq (g2 := F0 m 4 ls [.int (nI (if n 0 0 = 4294967295 then 0 else 1))]) rfl ?_
  refine kn_to (y := 1) (if_neg hs) ?_
  refine kn_ne0 X.1 X.2.1 jd_K_bit_4 (tgt := 17) (by decide) (by omega) (fun h4 => ?_) (fun h4 => absurd h4 (by decide))
  refine lv_iload_n X.1 X.2.1 jd_K_bit_17 rfl (lv_at hl 1 rfl) ?_
  refine j_run (j_mkS X (c_K_isStation l d D a n g x hx) jU_b (j_pp X hP) jm_241 jm_240 jm_1 jm_239 (show jOk jy_K_isStation 1 by unfold jOk; decide +kernel) (by decide) ⟨rfl, rfl⟩ hl.1 rfl (Nat.le_of_ble_eq_true rfl) ⟨Nat.zero_le _, Nat.zero_le _⟩ jd_K_bit_18) ?_
  refine W.eq (g2 := F0 m 21 ls [.int (nI (if x < 2 then 1 else 0))]) rfl ?_
  refine kn_eq0 X.1 X.2.1 jd_K_bit_21 (tgt := 36) (by decide) (by split <;> omega) (fun h21 => ?_) (fun h21 => ?_)
  · skip
    exact hQ 36 197 "no such station or bit" _ (by decide) hl.1 jd_K_bit_36 jd_K_bit_39 jd_K_bit_40 jd_K_bit_42 jd_K_bit_45
  · skip
    have hx2 : x < 2 := by by_cases q : x < 2; exact q; rw [if_neg q] at h21; omega
    refine lv_iload_n X.1 X.2.1 jd_K_bit_24 rfl (lv_at hl 2 rfl) ?_
    refine kn_lt0 X.1 X.2.1 jd_K_bit_25 (tgt := 36) (by decide) (by omega) (fun h25 => ?_) (fun h25 => ?_)
    · skip
      exact hQ 36 197 "no such station or bit" _ (by decide) hl.1 jd_K_bit_36 jd_K_bit_39 jd_K_bit_40 jd_K_bit_42 jd_K_bit_45
    · skip
      refine lv_iload_n X.1 X.2.1 jd_K_bit_28 rfl (lv_at hl 2 rfl) ?_
      refine lv_aload_n X.1 X.2.1 jd_K_bit_29 rfl (lv_at hl 0 rfl) ?_
      refine jg_K_45_0 X hP jd_K_bit_30 ?_
      refine kn_xlt X.1 X.2.1 jd_K_bit_33 (tgt := 46) (by decide) (by omega) (fun h33 => ?_) (fun h33 => ?_)
      · skip
        exact absurd hbad (by omega)
      · skip
        exact hQ 36 197 "no such station or bit" _ (by decide) hl.1 jd_K_bit_36 jd_K_bit_39 jd_K_bit_40 jd_K_bit_42 jd_K_bit_45

set_option maxHeartbeats 4000000 in
theorem t_K_tag_IS (l : Launch) (d : Nat → Nat) (D : va_G) (a : Nat → Nat) (n : Nat → Nat → Nat) (g : Nat → Nat) (hlt : l.stackTraces = false) (hB : NB n) (x i : Nat) (hs : n 0 0 = 4294967295) : jThr l d D a n g jy_K_tag jb_K_tag 3 (some .int) { frames := 6, cells := 1, slots := 6, locals := 82 } [.ref (a 0), .int (nI x), .int (nI i)] "java/lang/IllegalStateException" := by
  refine jt_T hlt 72 76 rfl (by decide) (Nat.le_of_ble_eq_true rfl) jx_fIS jm_323 jm_11 jx_gIS jx_bIS jx_oIS (by decide) ?_
  intro p e s m A below meth c ls Q X hP hl hQ
  have hl : lv_has ls 3 [(0, .ref (a 0)), (1, .int (nI x)), (2, .int (nI i))] := hl
  refine lv_aload_n X.1 X.2.1 jd_K_tag_0 rfl (lv_at hl 0 rfl) ?_
  refine j_run (j_mkV X hP (c_K_isSifted l d D a n g (hB _ _)) jU_b (j_pp X hP) jm_318 jm_317 js_8 jm_1 jm_315 (by decide) rfl rfl (show jOk jy_K_isSifted 0 by unfold jOk; decide +kernel) (by decide) ⟨rfl, rfl⟩ hl.1 rfl (Nat.le_of_ble_eq_true rfl) ⟨Nat.zero_le _, Nat.zero_le _⟩ jd_K_tag_1) ?_
  refine W.eq (g2 := F0 m 4 ls [.int (nI (if n 0 0 = 4294967295 then 0 else 1))]) rfl ?_
  refine kn_to (y := 0) (if_pos hs) ?_
  refine kn_ne0 X.1 X.2.1 jd_K_tag_4 (tgt := 17) (by decide) (by omega) (fun h4 => absurd h4 (by decide)) (fun h4 => ?_)
  exact hQ 7 195 "not sifted" _ (by decide) hl.1 jd_K_tag_7 jd_K_tag_10 jd_K_tag_11 jd_K_tag_13 jd_K_tag_16

set_option maxHeartbeats 4000000 in
theorem t_K_tag_IA (l : Launch) (d : Nat → Nat) (D : va_G) (a : Nat → Nat) (n : Nat → Nat → Nat) (g : Nat → Nat) (hlt : l.stackTraces = false) (hB : NB n) (x i : Nat) (hx : x < 4294967296) (hi : i < 4294967296) (hs : ¬ n 0 0 = 4294967295) (hbad : ¬ (x < 2 ∧ 1 ≤ i ∧ i ≤ 65535)) : jThr l d D a n g jy_K_tag jb_K_tag 3 (some .int) { frames := 6, cells := 1, slots := 6, locals := 82 } [.ref (a 0), .int (nI x), .int (nI i)] "java/lang/IllegalArgumentException" := by
  refine jt_T hlt 53 57 rfl (by decide) (Nat.le_of_ble_eq_true rfl) jx_fIA jm_242 jm_10 jx_gIA jx_bIA jx_oIA (by decide) ?_
  intro p e s m A below meth c ls Q X hP hl hQ
  have hl : lv_has ls 3 [(0, .ref (a 0)), (1, .int (nI x)), (2, .int (nI i))] := hl
  refine lv_aload_n X.1 X.2.1 jd_K_tag_0 rfl (lv_at hl 0 rfl) ?_
  refine j_run (j_mkV X hP (c_K_isSifted l d D a n g (hB _ _)) jU_b (j_pp X hP) jm_318 jm_317 js_8 jm_1 jm_315 (by decide) rfl rfl (show jOk jy_K_isSifted 0 by unfold jOk; decide +kernel) (by decide) ⟨rfl, rfl⟩ hl.1 rfl (Nat.le_of_ble_eq_true rfl) ⟨Nat.zero_le _, Nat.zero_le _⟩ jd_K_tag_1) ?_
  refine W.eq (g2 := F0 m 4 ls [.int (nI (if n 0 0 = 4294967295 then 0 else 1))]) rfl ?_
  refine kn_to (y := 1) (if_neg hs) ?_
  refine kn_ne0 X.1 X.2.1 jd_K_tag_4 (tgt := 17) (by decide) (by omega) (fun h4 => ?_) (fun h4 => absurd h4 (by decide))
  refine lv_iload_n X.1 X.2.1 jd_K_tag_17 rfl (lv_at hl 1 rfl) ?_
  refine j_run (j_mkS X (c_K_isStation l d D a n g x hx) jU_b (j_pp X hP) jm_241 jm_240 jm_1 jm_239 (show jOk jy_K_isStation 1 by unfold jOk; decide +kernel) (by decide) ⟨rfl, rfl⟩ hl.1 rfl (Nat.le_of_ble_eq_true rfl) ⟨Nat.zero_le _, Nat.zero_le _⟩ jd_K_tag_18) ?_
  refine W.eq (g2 := F0 m 21 ls [.int (nI (if x < 2 then 1 else 0))]) rfl ?_
  refine kn_eq0 X.1 X.2.1 jd_K_tag_21 (tgt := 31) (by decide) (by split <;> omega) (fun h21 => ?_) (fun h21 => ?_)
  · skip
    exact hQ 31 204 "no such station or number" _ (by decide) hl.1 jd_K_tag_31 jd_K_tag_34 jd_K_tag_35 jd_K_tag_37 jd_K_tag_40
  · skip
    have hx2 : x < 2 := by by_cases q : x < 2; exact q; rw [if_neg q] at h21; omega
    refine lv_iload_n X.1 X.2.1 jd_K_tag_24 rfl (lv_at hl 2 rfl) ?_
    refine j_run (j_mkS X (c_K_isTagNumber l d D a n g i hi) jU_b (j_pp X hP) jm_546 jm_545 jm_1 jm_544 (show jOk jy_K_isTagNumber 1 by unfold jOk; decide +kernel) (by decide) ⟨rfl, rfl⟩ hl.1 rfl (Nat.le_of_ble_eq_true rfl) ⟨Nat.zero_le _, Nat.zero_le _⟩ jd_K_tag_25) ?_
    refine W.eq (g2 := F0 m 28 ls [.int (nI (if 1 ≤ i ∧ i ≤ 65535 then 1 else 0))]) rfl ?_
    refine kn_ne0 X.1 X.2.1 jd_K_tag_28 (tgt := 41) (by decide) (by split <;> omega) (fun h28 => ?_) (fun h28 => ?_)
    · skip
      have hi2 : 1 ≤ i ∧ i ≤ 65535 := by by_cases q : 1 ≤ i ∧ i ≤ 65535; exact q; rw [if_neg q] at h28; omega
      exact absurd hbad (by omega)
    · skip
      exact hQ 31 204 "no such station or number" _ (by decide) hl.1 jd_K_tag_31 jd_K_tag_34 jd_K_tag_35 jd_K_tag_37 jd_K_tag_40

set_option maxHeartbeats 4000000 in
theorem t_K_key_IO (l : Launch) (d : Nat → Nat) (D : va_G) (a : Nat → Nat) (n : Nat → Nat → Nat) (g : Nat → Nat) (hlt : l.stackTraces = false) (hB : NB n) (x i : Nat) (hx : x < 4294967296) (hi : i < 4294967296) (h3 : n 0 3 ≤ 128) (hbad : ¬ (x < 2 ∧ i < n 0 3)) : jThr l d D a n g jy_K_key jb_K_key 6 (some .int) { frames := 6, cells := 1, slots := 6, locals := 82 } [.ref (a 0), .int (nI x), .int (nI i)] "java/lang/IndexOutOfBoundsException" := by
  refine jt_T hlt 147 151 rfl (by decide) (Nat.le_of_ble_eq_true rfl) jx_fIO jm_470 jm_14 jx_gIO jx_bIO jx_oIO (by decide) ?_
  intro p e s m A below meth c ls Q X hP hl hQ
  have hl : lv_has ls 6 [(0, .ref (a 0)), (1, .int (nI x)), (2, .int (nI i))] := hl
  refine lv_iload_n X.1 X.2.1 jd_K_key_0 rfl (lv_at hl 1 rfl) ?_
  refine j_run (j_mkS X (c_K_isStation l d D a n g x hx) jU_b (j_pp X hP) jm_241 jm_240 jm_1 jm_239 (show jOk jy_K_isStation 1 by unfold jOk; decide +kernel) (by decide) ⟨rfl, rfl⟩ hl.1 rfl (Nat.le_of_ble_eq_true rfl) ⟨Nat.zero_le _, Nat.zero_le _⟩ jd_K_key_1) ?_
  refine W.eq (g2 := F0 m 4 ls [.int (nI (if x < 2 then 1 else 0))]) rfl ?_
  refine kn_eq0 X.1 X.2.1 jd_K_key_4 (tgt := 19) (by decide) (by split <;> omega) (fun h4 => ?_) (fun h4 => ?_)
  · skip
    exact hQ 19 197 "no such station or bit" _ (by decide) hl.1 jd_K_key_19 jd_K_key_22 jd_K_key_23 jd_K_key_25 jd_K_key_28
  · skip
    have hx2 : x < 2 := by by_cases q : x < 2; exact q; rw [if_neg q] at h4; omega
    refine lv_iload_n X.1 X.2.1 jd_K_key_7 rfl (lv_at hl 2 rfl) ?_
    refine kn_lt0 X.1 X.2.1 jd_K_key_8 (tgt := 19) (by decide) (by omega) (fun h8 => ?_) (fun h8 => ?_)
    · skip
      exact hQ 19 197 "no such station or bit" _ (by decide) hl.1 jd_K_key_19 jd_K_key_22 jd_K_key_23 jd_K_key_25 jd_K_key_28
    · skip
      refine lv_iload_n X.1 X.2.1 jd_K_key_11 rfl (lv_at hl 2 rfl) ?_
      refine lv_aload_n X.1 X.2.1 jd_K_key_12 rfl (lv_at hl 0 rfl) ?_
      refine jg_K_226_0 X hP jd_K_key_13 ?_
      refine kn_xlt X.1 X.2.1 jd_K_key_16 (tgt := 29) (by decide) (by omega) (fun h16 => ?_) (fun h16 => ?_)
      · skip
        exact absurd hbad (by omega)
      · skip
        exact hQ 19 197 "no such station or bit" _ (by decide) hl.1 jd_K_key_19 jd_K_key_22 jd_K_key_23 jd_K_key_25 jd_K_key_28

set_option maxHeartbeats 4000000 in
theorem c_K_item (l : Launch) (d : Nat → Nat) (D : va_G) (a : Nat → Nat) (n : Nat → Nat → Nat) (g : Nat → Nat) (hB : NB n) (q i : Nat) (hbg : ¬ n 14 3 = 4294967295) (hq : q < 4) (hi : i < n 0 0) (hn : n 0 0 ≤ 128) : jPure l d D a n g jy_K_item jb_K_item 3 (some .int) { frames := 1, cells := 0, slots := 0, locals := 20 } [.ref (a 0), .int (nI q), .int (nI i)] (some (.int (nI (n (20 + q) i)))) := by
  refine jq_I (by decide) (Nat.le_of_ble_eq_true rfl) ?_
  intro p e s m A below meth c ls Q X hP hl hQ
  have hl : lv_has ls 3 [(0, .ref (a 0)), (1, .int (nI q)), (2, .int (nI i))] := hl
  refine lv_aload_n X.1 X.2.1 jd_K_item_0 rfl (lv_at hl 0 rfl) ?_
  refine jg_K_31_0 X hP jd_K_item_1 ?_
  refine j_run (j_mkN (host := "KeyDistiller") X hP (c_D_isBegun l d D a n g (hB _ _)) jU_b (j_pp X hP) jm_365 jm_364 js_12 jm_4 (by decide +kernel) (by decide) rfl rfl (show jOk jy_D_isBegun 0 by unfold jOk; decide +kernel) (by decide) ⟨rfl, rfl⟩ hl.1 rfl (Nat.le_of_ble_eq_true rfl) ⟨Nat.zero_le _, Nat.zero_le _⟩ jd_K_item_4) ?_
  refine W.eq (g2 := F0 m 7 ls [.int (nI (if n 14 3 = 4294967295 then 0 else 1))]) rfl ?_
  refine kn_to (y := 1) (if_neg hbg) ?_
  refine kn_ne0 X.1 X.2.1 jd_K_item_7 (tgt := 20) (by decide) (by omega) (fun h7 => ?_) (fun h7 => absurd h7 (by decide))
  refine lv_iload_n X.1 X.2.1 jd_K_item_20 rfl (lv_at hl 1 rfl) ?_
  refine kn_lt0 X.1 X.2.1 jd_K_item_21 (tgt := 41) (by decide) (by omega) (fun h21 => absurd h21 (by omega)) (fun h21 => ?_)
  refine lv_iload_n X.1 X.2.1 jd_K_item_24 rfl (lv_at hl 1 rfl) ?_
  refine lv_iconst (v := nI 4) X.1 X.2.1 jd_K_item_25 (by decide) ?_
  refine kn_cge X.1 X.2.1 jd_K_item_26 (tgt := 41) (by decide) (by omega) (fun h26 => absurd h26 (by omega)) (fun h26 => ?_)
  refine lv_iload_n X.1 X.2.1 jd_K_item_29 rfl (lv_at hl 2 rfl) ?_
  refine kn_lt0 X.1 X.2.1 jd_K_item_30 (tgt := 41) (by decide) (by omega) (fun h30 => absurd h30 (by omega)) (fun h30 => ?_)
  refine lv_iload_n X.1 X.2.1 jd_K_item_33 rfl (lv_at hl 2 rfl) ?_
  refine lv_aload_n X.1 X.2.1 jd_K_item_34 rfl (lv_at hl 0 rfl) ?_
  refine jg_K_45_0 X hP jd_K_item_35 ?_
  refine kn_clt X.1 X.2.1 jd_K_item_38 (tgt := 51) (by decide) (by omega) (fun h38 => ?_) (fun h38 => absurd h38 (by omega))
  refine lv_aload_n X.1 X.2.1 jd_K_item_51 rfl (lv_at hl 0 rfl) ?_
  refine jg_K_31_0 X hP jd_K_item_52 ?_
  refine jg_K_125_14 X hP jd_K_item_55 ?_
  refine lv_iload_n X.1 X.2.1 jd_K_item_58 rfl (lv_at hl 1 rfl) ?_
  refine j_aald X hP 19 q (by decide) (by omega) jd_K_item_59 ?_
  refine lv_iload_n X.1 X.2.1 jd_K_item_60 rfl (lv_at hl 2 rfl) ?_
  refine j_ald X hP (20 + q) i (by omega) (by rw [jI_or hq]; omega) (by rw [jI_or hq]; decide) jd_K_item_61 ?_
  exact kn_to (by first | rfl | omega | (split <;> omega)) (hQ _ _ jd_K_item_62)

set_option maxHeartbeats 4000000 in
theorem t_K_item_IS (l : Launch) (d : Nat → Nat) (D : va_G) (a : Nat → Nat) (n : Nat → Nat → Nat) (g : Nat → Nat) (hlt : l.stackTraces = false) (hB : NB n) (q i : Nat) (hbg : n 14 3 = 4294967295) : jThr l d D a n g jy_K_item jb_K_item 3 (some .int) { frames := 6, cells := 1, slots := 6, locals := 82 } [.ref (a 0), .int (nI q), .int (nI i)] "java/lang/IllegalStateException" := by
  refine jt_T hlt 72 76 rfl (by decide) (Nat.le_of_ble_eq_true rfl) jx_fIS jm_323 jm_11 jx_gIS jx_bIS jx_oIS (by decide) ?_
  intro p e s m A below meth c ls Q X hP hl hQ
  have hl : lv_has ls 3 [(0, .ref (a 0)), (1, .int (nI q)), (2, .int (nI i))] := hl
  refine lv_aload_n X.1 X.2.1 jd_K_item_0 rfl (lv_at hl 0 rfl) ?_
  refine jg_K_31_0 X hP jd_K_item_1 ?_
  refine j_run (j_mkN (host := "KeyDistiller") X hP (c_D_isBegun l d D a n g (hB _ _)) jU_b (j_pp X hP) jm_365 jm_364 js_12 jm_4 (by decide +kernel) (by decide) rfl rfl (show jOk jy_D_isBegun 0 by unfold jOk; decide +kernel) (by decide) ⟨rfl, rfl⟩ hl.1 rfl (Nat.le_of_ble_eq_true rfl) ⟨Nat.zero_le _, Nat.zero_le _⟩ jd_K_item_4) ?_
  refine W.eq (g2 := F0 m 7 ls [.int (nI (if n 14 3 = 4294967295 then 0 else 1))]) rfl ?_
  refine kn_to (y := 0) (if_pos hbg) ?_
  refine kn_ne0 X.1 X.2.1 jd_K_item_7 (tgt := 20) (by decide) (by omega) (fun h7 => absurd h7 (by decide)) (fun h7 => ?_)
  exact hQ 10 178 "not begun" _ (by decide) hl.1 jd_K_item_10 jd_K_item_13 jd_K_item_14 jd_K_item_16 jd_K_item_19

set_option maxHeartbeats 4000000 in
theorem t_K_item_IO (l : Launch) (d : Nat → Nat) (D : va_G) (a : Nat → Nat) (n : Nat → Nat → Nat) (g : Nat → Nat) (hlt : l.stackTraces = false) (hB : NB n) (q i : Nat) (hq : q < 4294967296) (hi : i < 4294967296) (hbg : ¬ n 14 3 = 4294967295) (hn : n 0 0 ≤ 128) (hbad : ¬ (q < 4 ∧ i < n 0 0)) : jThr l d D a n g jy_K_item jb_K_item 3 (some .int) { frames := 6, cells := 1, slots := 6, locals := 82 } [.ref (a 0), .int (nI q), .int (nI i)] "java/lang/IndexOutOfBoundsException" := by
  refine jt_T hlt 147 151 rfl (by decide) (Nat.le_of_ble_eq_true rfl) jx_fIO jm_470 jm_14 jx_gIO jx_bIO jx_oIO (by decide) ?_
  intro p e s m A below meth c ls Q X hP hl hQ
  have hl : lv_has ls 3 [(0, .ref (a 0)), (1, .int (nI q)), (2, .int (nI i))] := hl
  refine lv_aload_n X.1 X.2.1 jd_K_item_0 rfl (lv_at hl 0 rfl) ?_
  refine jg_K_31_0 X hP jd_K_item_1 ?_
  refine j_run (j_mkN (host := "KeyDistiller") X hP (c_D_isBegun l d D a n g (hB _ _)) jU_b (j_pp X hP) jm_365 jm_364 js_12 jm_4 (by decide +kernel) (by decide) rfl rfl (show jOk jy_D_isBegun 0 by unfold jOk; decide +kernel) (by decide) ⟨rfl, rfl⟩ hl.1 rfl (Nat.le_of_ble_eq_true rfl) ⟨Nat.zero_le _, Nat.zero_le _⟩ jd_K_item_4) ?_
  refine W.eq (g2 := F0 m 7 ls [.int (nI (if n 14 3 = 4294967295 then 0 else 1))]) rfl ?_
  refine kn_to (y := 1) (if_neg hbg) ?_
  refine kn_ne0 X.1 X.2.1 jd_K_item_7 (tgt := 20) (by decide) (by omega) (fun h7 => ?_) (fun h7 => absurd h7 (by decide))
  refine lv_iload_n X.1 X.2.1 jd_K_item_20 rfl (lv_at hl 1 rfl) ?_
  refine kn_lt0 X.1 X.2.1 jd_K_item_21 (tgt := 41) (by decide) (by omega) (fun h21 => ?_) (fun h21 => ?_)
  · skip
    exact hQ 41 199 "no such pass or item" _ (by decide) hl.1 jd_K_item_41 jd_K_item_44 jd_K_item_45 jd_K_item_47 jd_K_item_50
  · skip
    refine lv_iload_n X.1 X.2.1 jd_K_item_24 rfl (lv_at hl 1 rfl) ?_
    refine lv_iconst (v := nI 4) X.1 X.2.1 jd_K_item_25 (by decide) ?_
    refine kn_xge X.1 X.2.1 jd_K_item_26 (tgt := 41) (by decide) (by omega) (fun h26 => ?_) (fun h26 => ?_)
    · skip
      exact hQ 41 199 "no such pass or item" _ (by decide) hl.1 jd_K_item_41 jd_K_item_44 jd_K_item_45 jd_K_item_47 jd_K_item_50
    · skip
      refine lv_iload_n X.1 X.2.1 jd_K_item_29 rfl (lv_at hl 2 rfl) ?_
      refine kn_lt0 X.1 X.2.1 jd_K_item_30 (tgt := 41) (by decide) (by omega) (fun h30 => ?_) (fun h30 => ?_)
      · skip
        exact hQ 41 199 "no such pass or item" _ (by decide) hl.1 jd_K_item_41 jd_K_item_44 jd_K_item_45 jd_K_item_47 jd_K_item_50
      · skip
        refine lv_iload_n X.1 X.2.1 jd_K_item_33 rfl (lv_at hl 2 rfl) ?_
        refine lv_aload_n X.1 X.2.1 jd_K_item_34 rfl (lv_at hl 0 rfl) ?_
        refine jg_K_45_0 X hP jd_K_item_35 ?_
        refine kn_xlt X.1 X.2.1 jd_K_item_38 (tgt := 51) (by decide) (by omega) (fun h38 => ?_) (fun h38 => ?_)
        · skip
          exact absurd hbad (by omega)
        · skip
          exact hQ 41 199 "no such pass or item" _ (by decide) hl.1 jd_K_item_41 jd_K_item_44 jd_K_item_45 jd_K_item_47 jd_K_item_50
end
